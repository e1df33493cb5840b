set_option maxHeartbeats 4000000 in
set_option maxRecDepth 100000 in
theorem k_X10_init (l : Launch) (g : GG) (L : List Nat) (f : HP) (sz : Nat) (x : Nat) (hm_x : x ∈ L) (hf_x : f x = .inr (9, [.null, .null, .null, .null, .null, .null, .null, .null, .null, .null, .null, .null, .null, .null, .null, .int 0, .int 0, .long 0])) : MtV l g yX10_init cX10_init 1 ({ frames := 3, cells := 254, slots := 7965, locals := 53 }) [.ref x] L f sz (fun u => ∃ (c53 : Nat) (c52 : Nat) (c51 : Nat) (c50 : Nat) (c49 : Nat) (c48 : Nat) (c47 : Nat) (c46 : Nat) (c45 : Nat) (c44 : Nat) (c43 : Nat) (c42 : Nat) (c41 : Nat) (c40 : Nat) (c39 : Nat) (c38 : Nat) (c37 : Nat) (c36 : Nat) (c35 : Nat) (c34 : Nat) (c33 : Nat) (c32 : Nat) (c31 : Nat) (c30 : Nat) (c29 : Nat) (c28 : Nat) (c27 : Nat) (c26 : Nat) (c25 : Nat) (c24 : Nat) (c23 : Nat) (c22 : Nat) (c21 : Nat) (c20 : Nat) (c19 : Nat) (c18 : Nat) (c17 : Nat) (c16 : Nat) (c15 : Nat) (c14 : Nat) (c13 : Nat) (c12 : Nat) (c11 : Nat) (c10 : Nat) (c9 : Nat) (c8 : Nat) (c7 : Nat) (c6 : Nat) (c5 : Nat) (c4 : Nat) (c3 : Nat) (c2 : Nat) (c1 : Nat) (c0 : Nat) (rr : Nat → Option Nat) (aa : Nat → Nat → Nat), c53 ∉ L ∧ c53 ∈ u.1 ∧ u.2 c53 = .inl (g.2.1 0, 5, .inl (fun _ => 0)) ∧ c52 ∉ L ∧ c52 ∈ u.1 ∧ u.2 c52 = .inl (g.2.1 0, 520, .inl (fun _ => 0)) ∧ c51 ∉ L ∧ c51 ∈ u.1 ∧ u.2 c51 = .inr (8, [.ref c52, .int 0, .int 0, .int 0, .int 0]) ∧ c50 ∉ L ∧ c50 ∈ u.1 ∧ u.2 c50 = .inl (g.2.1 1, 48, .inr (.inl (fun _ => 0))) ∧ c49 ∉ L ∧ c49 ∈ u.1 ∧ u.2 c49 = .inl (g.2.1 0, 108, .inl (fun _ => 0)) ∧ c48 ∉ L ∧ c48 ∈ u.1 ∧ u.2 c48 = .inl (g.2.1 0, 108, .inl (fun _ => 0)) ∧ c47 ∉ L ∧ c47 ∈ u.1 ∧ u.2 c47 = .inl (g.2.1 0, 7, .inl (fun _ => 0)) ∧ c46 ∉ L ∧ c46 ∈ u.1 ∧ u.2 c46 = .inl (g.2.1 0, 9, .inl (fun _ => 0)) ∧ c45 ∉ L ∧ c45 ∈ u.1 ∧ u.2 c45 = .inr (2, [.int 0, .int 0, .int 0, .int 0, .int 0, .int 0, .int 0, .int 0]) ∧ c44 ∉ L ∧ c44 ∈ u.1 ∧ u.2 c44 = .inr (7, [.ref c45, .ref c46, .ref c47, .ref c48, .ref c49, .ref c50, .int 0, .int 0, .int 0, .int 0, .int 0, .int 0, .int 0, .int 0]) ∧ c43 ∉ L ∧ c43 ∈ u.1 ∧ u.2 c43 = .inl (g.2.1 4, 20, .inr (.inr (.inr (.inr rr)))) ∧ c42 ∉ L ∧ c42 ∈ u.1 ∧ u.2 c42 = .inr (0, [.ref c43, .int 0, .int 0]) ∧ c41 ∉ L ∧ c41 ∈ u.1 ∧ u.2 c41 = .inl (g.2.1 0, 6, .inl (fun _ => 0)) ∧ c40 ∉ L ∧ c40 ∈ u.1 ∧ u.2 c40 = .inl (g.2.1 0, 6, .inl (fun _ => 0)) ∧ c39 ∉ L ∧ c39 ∈ u.1 ∧ u.2 c39 = .inl (g.2.1 0, 6, .inl (fun _ => 0)) ∧ c38 ∉ L ∧ c38 ∈ u.1 ∧ u.2 c38 = .inl (g.2.1 0, 6, .inl (fun _ => 0)) ∧ c37 ∉ L ∧ c37 ∈ u.1 ∧ u.2 c37 = .inl (g.2.1 1, 6, .inr (.inl (fun _ => 0))) ∧ c36 ∉ L ∧ c36 ∈ u.1 ∧ u.2 c36 = .inl (g.2.1 1, 18, .inr (.inl (fun _ => 0))) ∧ c35 ∉ L ∧ c35 ∈ u.1 ∧ u.2 c35 = .inl (g.2.1 1, 18, .inr (.inl (fun _ => 0))) ∧ c34 ∉ L ∧ c34 ∈ u.1 ∧ u.2 c34 = .inl (g.2.1 1, 162, .inr (.inl (fun _ => 0))) ∧ c33 ∉ L ∧ c33 ∈ u.1 ∧ u.2 c33 = .inl (g.2.1 0, 30, .inl (fun _ => 0)) ∧ c32 ∉ L ∧ c32 ∈ u.1 ∧ u.2 c32 = .inr (3, [.int 0, .int 0, .int 0, .int 0, .int 0, .int 0, .int 0, .long 0, .long 0, .ref c33, .ref c34, .ref c35, .ref c36, .ref c37, .ref c38, .ref c39, .ref c40, .ref c41]) ∧ c31 ∉ L ∧ c31 ∈ u.1 ∧ u.2 c31 = .inl (g.2.1 0, 6, .inl (fun _ => 0)) ∧ c30 ∉ L ∧ c30 ∈ u.1 ∧ u.2 c30 = .inl (g.2.1 0, 6, .inl (fun _ => 0)) ∧ c29 ∉ L ∧ c29 ∈ u.1 ∧ u.2 c29 = .inl (g.2.1 0, 6, .inl (fun _ => 0)) ∧ c28 ∉ L ∧ c28 ∈ u.1 ∧ u.2 c28 = .inl (g.2.1 0, 6, .inl (fun _ => 0)) ∧ c27 ∉ L ∧ c27 ∈ u.1 ∧ u.2 c27 = .inl (g.2.1 1, 6, .inr (.inl (fun _ => 0))) ∧ c26 ∉ L ∧ c26 ∈ u.1 ∧ u.2 c26 = .inl (g.2.1 1, 18, .inr (.inl (fun _ => 0))) ∧ c25 ∉ L ∧ c25 ∈ u.1 ∧ u.2 c25 = .inl (g.2.1 1, 18, .inr (.inl (fun _ => 0))) ∧ c24 ∉ L ∧ c24 ∈ u.1 ∧ u.2 c24 = .inl (g.2.1 1, 162, .inr (.inl (fun _ => 0))) ∧ c23 ∉ L ∧ c23 ∈ u.1 ∧ u.2 c23 = .inl (g.2.1 0, 30, .inl (fun _ => 0)) ∧ c22 ∉ L ∧ c22 ∈ u.1 ∧ u.2 c22 = .inr (3, [.int 0, .int 0, .int 0, .int 0, .int 0, .int 0, .int 0, .long 0, .long 0, .ref c23, .ref c24, .ref c25, .ref c26, .ref c27, .ref c28, .ref c29, .ref c30, .ref c31]) ∧ c21 ∉ L ∧ c21 ∈ u.1 ∧ u.2 c21 = .inl (g.2.1 0, 6, .inl (fun _ => 0)) ∧ c20 ∉ L ∧ c20 ∈ u.1 ∧ u.2 c20 = .inl (g.2.1 0, 6, .inl (fun _ => 0)) ∧ c19 ∉ L ∧ c19 ∈ u.1 ∧ u.2 c19 = .inl (g.2.1 0, 6, .inl (fun _ => 0)) ∧ c18 ∉ L ∧ c18 ∈ u.1 ∧ u.2 c18 = .inl (g.2.1 0, 6, .inl (fun _ => 0)) ∧ c17 ∉ L ∧ c17 ∈ u.1 ∧ u.2 c17 = .inl (g.2.1 1, 6, .inr (.inl (fun _ => 0))) ∧ c16 ∉ L ∧ c16 ∈ u.1 ∧ u.2 c16 = .inl (g.2.1 1, 18, .inr (.inl (fun _ => 0))) ∧ c15 ∉ L ∧ c15 ∈ u.1 ∧ u.2 c15 = .inl (g.2.1 1, 18, .inr (.inl (fun _ => 0))) ∧ c14 ∉ L ∧ c14 ∈ u.1 ∧ u.2 c14 = .inl (g.2.1 1, 162, .inr (.inl (fun _ => 0))) ∧ c13 ∉ L ∧ c13 ∈ u.1 ∧ u.2 c13 = .inl (g.2.1 0, 30, .inl (fun _ => 0)) ∧ c12 ∉ L ∧ c12 ∈ u.1 ∧ u.2 c12 = .inr (3, [.int 0, .int 0, .int 0, .int 0, .int 0, .int 0, .int 0, .long 0, .long 0, .ref c13, .ref c14, .ref c15, .ref c16, .ref c17, .ref c18, .ref c19, .ref c20, .ref c21]) ∧ c11 ∉ L ∧ c11 ∈ u.1 ∧ u.2 c11 = .inr (4, [.int 0, .int 0, .int 0, .int 0]) ∧ c10 ∉ L ∧ c10 ∈ u.1 ∧ u.2 c10 = .inr (1, [.int 0, .int 0]) ∧ c9 ∉ L ∧ c9 ∈ u.1 ∧ u.2 c9 = .inl (g.2.1 0, 100, .inl (fun _ => 0)) ∧ c8 ∉ L ∧ c8 ∈ u.1 ∧ u.2 c8 = .inr (5, [.ref c9, .int 0]) ∧ c7 ∉ L ∧ c7 ∈ u.1 ∧ u.2 c7 = .inr (6, [.int 0, .int 0, .ref c8]) ∧ c6 ∉ L ∧ c6 ∈ u.1 ∧ u.2 c6 = .inl (g.2.1 0, 100, .inl (fun _ => 0)) ∧ c5 ∉ L ∧ c5 ∈ u.1 ∧ u.2 c5 = .inr (5, [.ref c6, .int 0]) ∧ c4 ∉ L ∧ c4 ∈ u.1 ∧ u.2 c4 = .inr (2, [.int 0, .int 0, .int 0, .int 0, .int 0, .int 0, .int 0, .int 0]) ∧ c3 ∉ L ∧ c3 ∈ u.1 ∧ u.2 c3 = .inr (2, [.int 0, .int 0, .int 0, .int 0, .int 0, .int 0, .int 0, .int 0]) ∧ c2 ∉ L ∧ c2 ∈ u.1 ∧ u.2 c2 = .inr (2, [.int 0, .int 0, .int 0, .int 0, .int 0, .int 0, .int 0, .int 0]) ∧ c1 ∉ L ∧ c1 ∈ u.1 ∧ u.2 c1 = .inl (g.2.1 0, 520, .inl (fun _ => 0)) ∧ c0 ∉ L ∧ c0 ∈ u.1 ∧ u.2 c0 = .inr (8, [.ref c1, .int 0, .int 0, .int 0, .int 0]) ∧ u.2 x = .inr (9, [.ref c0, .ref c2, .ref c3, .ref c4, .ref c5, .ref c7, .ref c10, .ref c11, .ref c12, .ref c22, .ref c32, .ref c42, .ref c44, .ref c51, .ref c53, .int 0, .int 0, .long 0]) ∧ ([c53, c52, c51, c50, c49, c48, c47, c46, c45, c44, c43, c42, c41, c40, c39, c38, c37, c36, c35, c34, c33, c32, c31, c30, c29, c28, c27, c26, c25, c24, c23, c22, c21, c20, c19, c18, c17, c16, c15, c14, c13, c12, c11, c10, c9, c8, c7, c6, c5, c4, c3, c2, c1, c0].Nodup ∧ RINGP g L u.1 u.2 20 aa ∧ (∀ j, j < 20 → ∀ k, k < 10 → aa j k ≠ c53 ∧ aa j k ≠ c52 ∧ aa j k ≠ c51 ∧ aa j k ≠ c50 ∧ aa j k ≠ c49 ∧ aa j k ≠ c48 ∧ aa j k ≠ c47 ∧ aa j k ≠ c46 ∧ aa j k ≠ c45 ∧ aa j k ≠ c44 ∧ aa j k ≠ c43 ∧ aa j k ≠ c42 ∧ aa j k ≠ c41 ∧ aa j k ≠ c40 ∧ aa j k ≠ c39 ∧ aa j k ≠ c38 ∧ aa j k ≠ c37 ∧ aa j k ≠ c36 ∧ aa j k ≠ c35 ∧ aa j k ≠ c34 ∧ aa j k ≠ c33 ∧ aa j k ≠ c32 ∧ aa j k ≠ c31 ∧ aa j k ≠ c30 ∧ aa j k ≠ c29 ∧ aa j k ≠ c28 ∧ aa j k ≠ c27 ∧ aa j k ≠ c26 ∧ aa j k ≠ c25 ∧ aa j k ≠ c24 ∧ aa j k ≠ c23 ∧ aa j k ≠ c22 ∧ aa j k ≠ c21 ∧ aa j k ≠ c20 ∧ aa j k ≠ c19 ∧ aa j k ≠ c18 ∧ aa j k ≠ c17 ∧ aa j k ≠ c16 ∧ aa j k ≠ c15 ∧ aa j k ≠ c14 ∧ aa j k ≠ c13 ∧ aa j k ≠ c12 ∧ aa j k ≠ c11 ∧ aa j k ≠ c10 ∧ aa j k ≠ c9 ∧ aa j k ≠ c8 ∧ aa j k ≠ c7 ∧ aa j k ≠ c6 ∧ aa j k ≠ c5 ∧ aa j k ≠ c4 ∧ aa j k ≠ c3 ∧ aa j k ≠ c2 ∧ aa j k ≠ c1 ∧ aa j k ≠ c0) ∧ ∀ j, j < 20 → rr j = some (aa j 0)) ∧ (∀ b, b ∈ L → b ≠ x → u.2 b = f b) ∧ (∀ b, b ∈ L → b ∈ u.1)) := by
  refine MtV.of (by decide +kernel) (Nat.le_of_ble_eq_true rfl) ?_
  intro p e s m below meth c A hEn hP hD hS ls hl
  obtain ⟨hx, hb, hr, hml, hown, hlocks, hts, hG, hA, hE, hnm⟩ := hEn
  have hown : s.vm.findClass "RulerWord" = some m.cls := hown
  have hl : lv_has ls 1 [(0, .ref x)] := hl
  have hfr0 : ∀ b, b ∈ L → b ≠ x → f b = f b := fun b hb z0 => rfl
  have hsb0 : ∀ b, b ∈ L → b ∈ L := fun b hb => hb
  refine lv_aload_n hx hb dX10_init_0 rfl (lv_at hl 0 rfl) ?_
  refine W.objInit hx hb hown (hts _ (mT wg_186)) (hts _ (mT wg_187)) (hts _ (mT wg_objInit)) rfl (by rw [hml]; exact hl.1) rfl dX10_init_1 (Nat.le_of_ble_eq_true rfl) (Nat.le_of_ble_eq_true rfl) ?_
  refine W.eq (g2 := F0 m 4 ls []) rfl ?_
  refine lv_aload_n hx hb dX10_init_4 rfl (lv_at hl 0 rfl) ?_
  refine pl_new (ci := 8) (fs := [.null, .int 0, .int 0, .int 0, .int 0]) (C := RX8) (T := TX8) (N := 5) hx hb hts (fun w h => mT (inX8 w h)) tyX8 tyX8_ok hown (hts _ (mT wg_189)) (hts _ (mT wg_190)) (hts _ (mT wg_158)) hG.1 hP hD hS hA rfl dvX8 (Nat.le_of_ble_eq_true rfl) (Nat.le_of_ble_eq_true rfl) dX10_init_5 (fun q1 H L2 f3 hq4 hs5 hm6 hf7 ho8 hP hD hS => ?_)
  have hN9 : [q1].Nodup := List.nodup_cons.mpr ⟨fun h => hq4 (nil_in _ h), List.nodup_nil⟩
  have hNs10 : ∀ b, b ∈ [q1] → b ∈ L2 := List.forall_mem_cons.mpr ⟨hm6, fun b hb => hs5 b (nil_in b hb)⟩
  have hfr11 : ∀ b, b ∈ L → b ≠ x → f3 b = f b := fun b hb z0 => (ho8 b (hsb0 b hb)).trans (hfr0 b hb z0)
  have hnq13 : q1 ∉ L := fun h => hq4 (hsb0 _ h)
  have hsb12 : ∀ b, b ∈ L → b ∈ _ := fun b hb => hs5 b (hsb0 b hb)
  have hf14 := (ho8 x hm_x).trans hf_x
  have hn16 : x ≠ q1 := fun e => hq4 (e ▸ hm_x)
  have hm15 := hs5 _ hm_x
  refine lv_dup hx hb dX10_init_8 rfl ?_
  refine call_v (run_IN (rm := { frames := 1, cells := 1, slots := 520, locals := 12 }) hx hb hml hown hts (k_X8_init l g _ _ _ q1 hm6 hf7) cI_X8_init wn_191 ⟨Nat.le_of_ble_eq_true rfl, Nat.le_of_ble_eq_true rfl⟩ hG hE hA hP hD hS rfl hl.1 (As := []) (rest := [.ref q1, .ref x]) rfl (Nat.le_of_ble_eq_true rfl) dX10_init_9 ⟨Nat.le_of_ble_eq_true rfl, Nat.le_of_ble_eq_true rfl⟩) hA hD hS (fun L18 f19 H locs hp20 hP hD hS => ?_)
  obtain ⟨q21, hn22, hm23, hf24, hf25, er26, fr27, sb28⟩ := hp20
  have hN29 : [q21, q1].Nodup := nd_app (l := [q21]) (k := [q1]) er26 (List.forall_mem_cons.mpr ⟨hn22, (fun _ h => absurd h List.not_mem_nil)⟩) hN9 hNs10
  have hNs30 : ∀ b, b ∈ [q21, q1] → b ∈ L18 := fm_app (l := [q21]) (k := [q1]) (List.forall_mem_cons.mpr ⟨hm23, (fun _ h => absurd h List.not_mem_nil)⟩) (fun b hb => sb28 b (hNs10 b hb))
  have hfr31 : ∀ b, b ∈ L → b ≠ x → f19 b = f b := fun b hb z0 => (fr27 b (hsb12 b hb) (fun e => hnq13 (e ▸ hb))).trans (hfr11 b hb z0)
  have hnq33 : q21 ∉ L := fun h => hn22 (hsb12 _ h)
  have hsb32 : ∀ b, b ∈ L → b ∈ L18 := fun b hb => sb28 b (hsb12 b hb)
  have hn35 : x ≠ q21 := fun e => hn22 (e ▸ hm15)
  have hf36 := (fr27 x hm15 hn16).trans hf14
  have hm34 := sb28 _ hm15
  have hn38 : q1 ≠ q21 := fun e => hn22 (e ▸ hm6)
  have hm37 := sb28 _ hm6
  refine pl_putF (ty := (.object "RulerWord$Tape")) (v := .ref q1) (fs' := [.ref q1, .null, .null, .null, .null, .null, .null, .null, .null, .null, .null, .null, .null, .null, .null, .int 0, .int 0, .long 0]) hx hb hts (fun w h => mT (inX10 w h)) tyX10 tyX10_ok nmX10 hown hG.1 hP hD hS hm34 hf36 rfl 0 (by decide) (hts _ (mT wg_475)) (fun _ h => h) rfl hnm rfl (by decide +kernel) (rfl) (rfl) (Nat.le_of_ble_eq_true rfl) rfl dX10_init_12 (fun H locs f39 hf41 ho40 hP hD hS => ?_)
  have hfr42 : ∀ b, b ∈ L → b ≠ x → f39 b = f b := fun b hb z0 => (ho40 b z0).trans (hfr31 b hb z0)
  have hf43 := (ho40 q1 hn16.symm).trans hf25
  have hf44 := (ho40 q21 hn35.symm).trans hf24
  refine lv_aload_n hx hb dX10_init_15 rfl (lv_at hl 0 rfl) ?_
  refine pl_new (ci := 2) (fs := [.int 0, .int 0, .int 0, .int 0, .int 0, .int 0, .int 0, .int 0]) (C := RX2) (T := TX2) (N := 8) hx hb hts (fun w h => mT (inX2 w h)) tyX2 tyX2_ok hown (hts _ (mT wg_218)) (hts _ (mT wg_219)) (hts _ (mT wg_159)) hG.1 hP hD hS hA rfl dvX2 (Nat.le_of_ble_eq_true rfl) (Nat.le_of_ble_eq_true rfl) dX10_init_16 (fun q45 H L46 f47 hq48 hs49 hm50 hf51 ho52 hP hD hS => ?_)
  have hN53 : [q45, q21, q1].Nodup := List.nodup_cons.mpr ⟨fun h => hq48 (hNs30 _ h), hN29⟩
  have hNs54 : ∀ b, b ∈ [q45, q21, q1] → b ∈ L46 := List.forall_mem_cons.mpr ⟨hm50, fun b hb => hs49 b (hNs30 b hb)⟩
  have hfr55 : ∀ b, b ∈ L → b ≠ x → f47 b = f b := fun b hb z0 => (ho52 b (hsb32 b hb)).trans (hfr42 b hb z0)
  have hnq57 : q45 ∉ L := fun h => hq48 (hsb32 _ h)
  have hsb56 : ∀ b, b ∈ L → b ∈ _ := fun b hb => hs49 b (hsb32 b hb)
  have hf58 := (ho52 x hm34).trans hf41
  have hn60 : x ≠ q45 := fun e => hq48 (e ▸ hm34)
  have hm59 := hs49 _ hm34
  have hf61 := (ho52 q1 hm37).trans hf43
  have hn63 : q1 ≠ q45 := fun e => hq48 (e ▸ hm37)
  have hm62 := hs49 _ hm37
  have hf64 := (ho52 q21 hm23).trans hf44
  have hn66 : q21 ≠ q45 := fun e => hq48 (e ▸ hm23)
  have hm65 := hs49 _ hm23
  refine lv_dup hx hb dX10_init_19 rfl ?_
  refine call_v (run_IN (rm := { frames := 1, cells := 0, slots := 0, locals := 12 }) hx hb hml hown hts (k_X2_init l g _ _ _ q45 hm50 hf51) cI_X2_init wn_220 ⟨Nat.le_of_ble_eq_true rfl, Nat.le_of_ble_eq_true rfl⟩ hG hE hA hP hD hS rfl hl.1 (As := []) (rest := [.ref q45, .ref x]) rfl (Nat.le_of_ble_eq_true rfl) dX10_init_20 ⟨Nat.le_of_ble_eq_true rfl, Nat.le_of_ble_eq_true rfl⟩) hA hD hS (fun L68 f69 H locs hp70 hP hD hS => ?_)
  obtain ⟨fr71, sb72⟩ := hp70
  have hNs73 : ∀ b, b ∈ [q45, q21, q1] → b ∈ L68 := fun b hb => sb72 b (hNs54 b hb)
  have hfr74 : ∀ b, b ∈ L → b ≠ x → f69 b = f b := fun b hb z0 => (fr71 b (hsb56 b hb) ).trans (hfr55 b hb z0)
  have hsb75 : ∀ b, b ∈ L → b ∈ L68 := fun b hb => sb72 b (hsb56 b hb)
  have hf77 := (fr71 x hm59 ).trans hf58
  have hm76 := sb72 _ hm59
  have hf79 := (fr71 q1 hm62 ).trans hf61
  have hm78 := sb72 _ hm62
  have hf81 := (fr71 q21 hm65 ).trans hf64
  have hm80 := sb72 _ hm65
  have hf83 := (fr71 q45 hm50 ).trans hf51
  have hm82 := sb72 _ hm50
  refine pl_putF (ty := (.object "RulerWord$Council")) (v := .ref q45) (fs' := [.ref q1, .ref q45, .null, .null, .null, .null, .null, .null, .null, .null, .null, .null, .null, .null, .null, .int 0, .int 0, .long 0]) hx hb hts (fun w h => mT (inX10 w h)) tyX10 tyX10_ok nmX10 hown hG.1 hP hD hS hm76 hf77 rfl 1 (by decide) (hts _ (mT wg_476)) (fun _ h => h) rfl hnm rfl (by decide +kernel) (rfl) (rfl) (Nat.le_of_ble_eq_true rfl) rfl dX10_init_23 (fun H locs f84 hf86 ho85 hP hD hS => ?_)
  have hfr87 : ∀ b, b ∈ L → b ≠ x → f84 b = f b := fun b hb z0 => (ho85 b z0).trans (hfr74 b hb z0)
  have hf88 := (ho85 q1 hn16.symm).trans hf79
  have hf89 := (ho85 q21 hn35.symm).trans hf81
  have hf90 := (ho85 q45 hn60.symm).trans hf83
  refine lv_aload_n hx hb dX10_init_26 rfl (lv_at hl 0 rfl) ?_
  refine pl_new (ci := 2) (fs := [.int 0, .int 0, .int 0, .int 0, .int 0, .int 0, .int 0, .int 0]) (C := RX2) (T := TX2) (N := 8) hx hb hts (fun w h => mT (inX2 w h)) tyX2 tyX2_ok hown (hts _ (mT wg_218)) (hts _ (mT wg_219)) (hts _ (mT wg_159)) hG.1 hP hD hS hA rfl dvX2 (Nat.le_of_ble_eq_true rfl) (Nat.le_of_ble_eq_true rfl) dX10_init_27 (fun q91 H L92 f93 hq94 hs95 hm96 hf97 ho98 hP hD hS => ?_)
  have hN99 : [q91, q45, q21, q1].Nodup := List.nodup_cons.mpr ⟨fun h => hq94 (hNs73 _ h), hN53⟩
  have hNs100 : ∀ b, b ∈ [q91, q45, q21, q1] → b ∈ L92 := List.forall_mem_cons.mpr ⟨hm96, fun b hb => hs95 b (hNs73 b hb)⟩
  have hfr101 : ∀ b, b ∈ L → b ≠ x → f93 b = f b := fun b hb z0 => (ho98 b (hsb75 b hb)).trans (hfr87 b hb z0)
  have hnq103 : q91 ∉ L := fun h => hq94 (hsb75 _ h)
  have hsb102 : ∀ b, b ∈ L → b ∈ _ := fun b hb => hs95 b (hsb75 b hb)
  have hf104 := (ho98 x hm76).trans hf86
  have hn106 : x ≠ q91 := fun e => hq94 (e ▸ hm76)
  have hm105 := hs95 _ hm76
  have hf107 := (ho98 q1 hm78).trans hf88
  have hn109 : q1 ≠ q91 := fun e => hq94 (e ▸ hm78)
  have hm108 := hs95 _ hm78
  have hf110 := (ho98 q21 hm80).trans hf89
  have hn112 : q21 ≠ q91 := fun e => hq94 (e ▸ hm80)
  have hm111 := hs95 _ hm80
  have hf113 := (ho98 q45 hm82).trans hf90
  have hn115 : q45 ≠ q91 := fun e => hq94 (e ▸ hm82)
  have hm114 := hs95 _ hm82
  refine lv_dup hx hb dX10_init_30 rfl ?_
  refine call_v (run_IN (rm := { frames := 1, cells := 0, slots := 0, locals := 12 }) hx hb hml hown hts (k_X2_init l g _ _ _ q91 hm96 hf97) cI_X2_init wn_220 ⟨Nat.le_of_ble_eq_true rfl, Nat.le_of_ble_eq_true rfl⟩ hG hE hA hP hD hS rfl hl.1 (As := []) (rest := [.ref q91, .ref x]) rfl (Nat.le_of_ble_eq_true rfl) dX10_init_31 ⟨Nat.le_of_ble_eq_true rfl, Nat.le_of_ble_eq_true rfl⟩) hA hD hS (fun L117 f118 H locs hp119 hP hD hS => ?_)
  obtain ⟨fr120, sb121⟩ := hp119
  have hNs122 : ∀ b, b ∈ [q91, q45, q21, q1] → b ∈ L117 := fun b hb => sb121 b (hNs100 b hb)
  have hfr123 : ∀ b, b ∈ L → b ≠ x → f118 b = f b := fun b hb z0 => (fr120 b (hsb102 b hb) ).trans (hfr101 b hb z0)
  have hsb124 : ∀ b, b ∈ L → b ∈ L117 := fun b hb => sb121 b (hsb102 b hb)
  have hf126 := (fr120 x hm105 ).trans hf104
  have hm125 := sb121 _ hm105
  have hf128 := (fr120 q1 hm108 ).trans hf107
  have hm127 := sb121 _ hm108
  have hf130 := (fr120 q21 hm111 ).trans hf110
  have hm129 := sb121 _ hm111
  have hf132 := (fr120 q45 hm114 ).trans hf113
  have hm131 := sb121 _ hm114
  have hf134 := (fr120 q91 hm96 ).trans hf97
  have hm133 := sb121 _ hm96
  refine pl_putF (ty := (.object "RulerWord$Council")) (v := .ref q91) (fs' := [.ref q1, .ref q45, .ref q91, .null, .null, .null, .null, .null, .null, .null, .null, .null, .null, .null, .null, .int 0, .int 0, .long 0]) hx hb hts (fun w h => mT (inX10 w h)) tyX10 tyX10_ok nmX10 hown hG.1 hP hD hS hm125 hf126 rfl 2 (by decide) (hts _ (mT wg_477)) (fun _ h => h) rfl hnm rfl (by decide +kernel) (rfl) (rfl) (Nat.le_of_ble_eq_true rfl) rfl dX10_init_34 (fun H locs f135 hf137 ho136 hP hD hS => ?_)
  have hfr138 : ∀ b, b ∈ L → b ≠ x → f135 b = f b := fun b hb z0 => (ho136 b z0).trans (hfr123 b hb z0)
  have hf139 := (ho136 q1 hn16.symm).trans hf128
  have hf140 := (ho136 q21 hn35.symm).trans hf130
  have hf141 := (ho136 q45 hn60.symm).trans hf132
  have hf142 := (ho136 q91 hn106.symm).trans hf134
  refine lv_aload_n hx hb dX10_init_37 rfl (lv_at hl 0 rfl) ?_
  refine pl_new (ci := 2) (fs := [.int 0, .int 0, .int 0, .int 0, .int 0, .int 0, .int 0, .int 0]) (C := RX2) (T := TX2) (N := 8) hx hb hts (fun w h => mT (inX2 w h)) tyX2 tyX2_ok hown (hts _ (mT wg_218)) (hts _ (mT wg_219)) (hts _ (mT wg_159)) hG.1 hP hD hS hA rfl dvX2 (Nat.le_of_ble_eq_true rfl) (Nat.le_of_ble_eq_true rfl) dX10_init_38 (fun q143 H L144 f145 hq146 hs147 hm148 hf149 ho150 hP hD hS => ?_)
  have hN151 : [q143, q91, q45, q21, q1].Nodup := List.nodup_cons.mpr ⟨fun h => hq146 (hNs122 _ h), hN99⟩
  have hNs152 : ∀ b, b ∈ [q143, q91, q45, q21, q1] → b ∈ L144 := List.forall_mem_cons.mpr ⟨hm148, fun b hb => hs147 b (hNs122 b hb)⟩
  have hfr153 : ∀ b, b ∈ L → b ≠ x → f145 b = f b := fun b hb z0 => (ho150 b (hsb124 b hb)).trans (hfr138 b hb z0)
  have hnq155 : q143 ∉ L := fun h => hq146 (hsb124 _ h)
  have hsb154 : ∀ b, b ∈ L → b ∈ _ := fun b hb => hs147 b (hsb124 b hb)
  have hf156 := (ho150 x hm125).trans hf137
  have hn158 : x ≠ q143 := fun e => hq146 (e ▸ hm125)
  have hm157 := hs147 _ hm125
  have hf159 := (ho150 q1 hm127).trans hf139
  have hn161 : q1 ≠ q143 := fun e => hq146 (e ▸ hm127)
  have hm160 := hs147 _ hm127
  have hf162 := (ho150 q21 hm129).trans hf140
  have hn164 : q21 ≠ q143 := fun e => hq146 (e ▸ hm129)
  have hm163 := hs147 _ hm129
  have hf165 := (ho150 q45 hm131).trans hf141
  have hn167 : q45 ≠ q143 := fun e => hq146 (e ▸ hm131)
  have hm166 := hs147 _ hm131
  have hf168 := (ho150 q91 hm133).trans hf142
  have hn170 : q91 ≠ q143 := fun e => hq146 (e ▸ hm133)
  have hm169 := hs147 _ hm133
  refine lv_dup hx hb dX10_init_41 rfl ?_
  refine call_v (run_IN (rm := { frames := 1, cells := 0, slots := 0, locals := 12 }) hx hb hml hown hts (k_X2_init l g _ _ _ q143 hm148 hf149) cI_X2_init wn_220 ⟨Nat.le_of_ble_eq_true rfl, Nat.le_of_ble_eq_true rfl⟩ hG hE hA hP hD hS rfl hl.1 (As := []) (rest := [.ref q143, .ref x]) rfl (Nat.le_of_ble_eq_true rfl) dX10_init_42 ⟨Nat.le_of_ble_eq_true rfl, Nat.le_of_ble_eq_true rfl⟩) hA hD hS (fun L172 f173 H locs hp174 hP hD hS => ?_)
  obtain ⟨fr175, sb176⟩ := hp174
  have hNs177 : ∀ b, b ∈ [q143, q91, q45, q21, q1] → b ∈ L172 := fun b hb => sb176 b (hNs152 b hb)
  have hfr178 : ∀ b, b ∈ L → b ≠ x → f173 b = f b := fun b hb z0 => (fr175 b (hsb154 b hb) ).trans (hfr153 b hb z0)
  have hsb179 : ∀ b, b ∈ L → b ∈ L172 := fun b hb => sb176 b (hsb154 b hb)
  have hf181 := (fr175 x hm157 ).trans hf156
  have hm180 := sb176 _ hm157
  have hf183 := (fr175 q1 hm160 ).trans hf159
  have hm182 := sb176 _ hm160
  have hf185 := (fr175 q21 hm163 ).trans hf162
  have hm184 := sb176 _ hm163
  have hf187 := (fr175 q45 hm166 ).trans hf165
  have hm186 := sb176 _ hm166
  have hf189 := (fr175 q91 hm169 ).trans hf168
  have hm188 := sb176 _ hm169
  have hf191 := (fr175 q143 hm148 ).trans hf149
  have hm190 := sb176 _ hm148
  refine pl_putF (ty := (.object "RulerWord$Council")) (v := .ref q143) (fs' := [.ref q1, .ref q45, .ref q91, .ref q143, .null, .null, .null, .null, .null, .null, .null, .null, .null, .null, .null, .int 0, .int 0, .long 0]) hx hb hts (fun w h => mT (inX10 w h)) tyX10 tyX10_ok nmX10 hown hG.1 hP hD hS hm180 hf181 rfl 3 (by decide) (hts _ (mT wg_478)) (fun _ h => h) rfl hnm rfl (by decide +kernel) (rfl) (rfl) (Nat.le_of_ble_eq_true rfl) rfl dX10_init_45 (fun H locs f192 hf194 ho193 hP hD hS => ?_)
  have hfr195 : ∀ b, b ∈ L → b ≠ x → f192 b = f b := fun b hb z0 => (ho193 b z0).trans (hfr178 b hb z0)
  have hf196 := (ho193 q1 hn16.symm).trans hf183
  have hf197 := (ho193 q21 hn35.symm).trans hf185
  have hf198 := (ho193 q45 hn60.symm).trans hf187
  have hf199 := (ho193 q91 hn106.symm).trans hf189
  have hf200 := (ho193 q143 hn158.symm).trans hf191
  refine lv_aload_n hx hb dX10_init_48 rfl (lv_at hl 0 rfl) ?_
  refine pl_new (ci := 5) (fs := [.null, .int 0]) (C := RX5) (T := TX5) (N := 2) hx hb hts (fun w h => mT (inX5 w h)) tyX5 tyX5_ok hown (hts _ (mT wg_263)) (hts _ (mT wg_264)) (hts _ (mT wg_160)) hG.1 hP hD hS hA rfl dvX5 (Nat.le_of_ble_eq_true rfl) (Nat.le_of_ble_eq_true rfl) dX10_init_49 (fun q201 H L202 f203 hq204 hs205 hm206 hf207 ho208 hP hD hS => ?_)
  have hN209 : [q201, q143, q91, q45, q21, q1].Nodup := List.nodup_cons.mpr ⟨fun h => hq204 (hNs177 _ h), hN151⟩
  have hNs210 : ∀ b, b ∈ [q201, q143, q91, q45, q21, q1] → b ∈ L202 := List.forall_mem_cons.mpr ⟨hm206, fun b hb => hs205 b (hNs177 b hb)⟩
  have hfr211 : ∀ b, b ∈ L → b ≠ x → f203 b = f b := fun b hb z0 => (ho208 b (hsb179 b hb)).trans (hfr195 b hb z0)
  have hnq213 : q201 ∉ L := fun h => hq204 (hsb179 _ h)
  have hsb212 : ∀ b, b ∈ L → b ∈ _ := fun b hb => hs205 b (hsb179 b hb)
  have hf214 := (ho208 x hm180).trans hf194
  have hn216 : x ≠ q201 := fun e => hq204 (e ▸ hm180)
  have hm215 := hs205 _ hm180
  have hf217 := (ho208 q1 hm182).trans hf196
  have hn219 : q1 ≠ q201 := fun e => hq204 (e ▸ hm182)
  have hm218 := hs205 _ hm182
  have hf220 := (ho208 q21 hm184).trans hf197
  have hn222 : q21 ≠ q201 := fun e => hq204 (e ▸ hm184)
  have hm221 := hs205 _ hm184
  have hf223 := (ho208 q45 hm186).trans hf198
  have hn225 : q45 ≠ q201 := fun e => hq204 (e ▸ hm186)
  have hm224 := hs205 _ hm186
  have hf226 := (ho208 q91 hm188).trans hf199
  have hn228 : q91 ≠ q201 := fun e => hq204 (e ▸ hm188)
  have hm227 := hs205 _ hm188
  have hf229 := (ho208 q143 hm190).trans hf200
  have hn231 : q143 ≠ q201 := fun e => hq204 (e ▸ hm190)
  have hm230 := hs205 _ hm190
  refine lv_dup hx hb dX10_init_52 rfl ?_
  refine call_v (run_IN (rm := { frames := 1, cells := 1, slots := 100, locals := 12 }) hx hb hml hown hts (k_X5_init l g _ _ _ q201 hm206 hf207) cI_X5_init wn_265 ⟨Nat.le_of_ble_eq_true rfl, Nat.le_of_ble_eq_true rfl⟩ hG hE hA hP hD hS rfl hl.1 (As := []) (rest := [.ref q201, .ref x]) rfl (Nat.le_of_ble_eq_true rfl) dX10_init_53 ⟨Nat.le_of_ble_eq_true rfl, Nat.le_of_ble_eq_true rfl⟩) hA hD hS (fun L233 f234 H locs hp235 hP hD hS => ?_)
  obtain ⟨q236, hn237, hm238, hf239, hf240, er241, fr242, sb243⟩ := hp235
  have hN244 : [q236, q201, q143, q91, q45, q21, q1].Nodup := nd_app (l := [q236]) (k := [q201, q143, q91, q45, q21, q1]) er241 (List.forall_mem_cons.mpr ⟨hn237, (fun _ h => absurd h List.not_mem_nil)⟩) hN209 hNs210
  have hNs245 : ∀ b, b ∈ [q236, q201, q143, q91, q45, q21, q1] → b ∈ L233 := fm_app (l := [q236]) (k := [q201, q143, q91, q45, q21, q1]) (List.forall_mem_cons.mpr ⟨hm238, (fun _ h => absurd h List.not_mem_nil)⟩) (fun b hb => sb243 b (hNs210 b hb))
  have hfr246 : ∀ b, b ∈ L → b ≠ x → f234 b = f b := fun b hb z0 => (fr242 b (hsb212 b hb) (fun e => hnq213 (e ▸ hb))).trans (hfr211 b hb z0)
  have hnq248 : q236 ∉ L := fun h => hn237 (hsb212 _ h)
  have hsb247 : ∀ b, b ∈ L → b ∈ L233 := fun b hb => sb243 b (hsb212 b hb)
  have hn250 : x ≠ q236 := fun e => hn237 (e ▸ hm215)
  have hf251 := (fr242 x hm215 hn216).trans hf214
  have hm249 := sb243 _ hm215
  have hn253 : q1 ≠ q236 := fun e => hn237 (e ▸ hm218)
  have hf254 := (fr242 q1 hm218 hn219).trans hf217
  have hm252 := sb243 _ hm218
  have hn256 : q21 ≠ q236 := fun e => hn237 (e ▸ hm221)
  have hf257 := (fr242 q21 hm221 hn222).trans hf220
  have hm255 := sb243 _ hm221
  have hn259 : q45 ≠ q236 := fun e => hn237 (e ▸ hm224)
  have hf260 := (fr242 q45 hm224 hn225).trans hf223
  have hm258 := sb243 _ hm224
  have hn262 : q91 ≠ q236 := fun e => hn237 (e ▸ hm227)
  have hf263 := (fr242 q91 hm227 hn228).trans hf226
  have hm261 := sb243 _ hm227
  have hn265 : q143 ≠ q236 := fun e => hn237 (e ▸ hm230)
  have hf266 := (fr242 q143 hm230 hn231).trans hf229
  have hm264 := sb243 _ hm230
  have hn268 : q201 ≠ q236 := fun e => hn237 (e ▸ hm206)
  have hm267 := sb243 _ hm206
  refine pl_putF (ty := (.object "RulerWord$Plan")) (v := .ref q201) (fs' := [.ref q1, .ref q45, .ref q91, .ref q143, .ref q201, .null, .null, .null, .null, .null, .null, .null, .null, .null, .null, .int 0, .int 0, .long 0]) hx hb hts (fun w h => mT (inX10 w h)) tyX10 tyX10_ok nmX10 hown hG.1 hP hD hS hm249 hf251 rfl 4 (by decide) (hts _ (mT wg_479)) (fun _ h => h) rfl hnm rfl (by decide +kernel) (rfl) (rfl) (Nat.le_of_ble_eq_true rfl) rfl dX10_init_56 (fun H locs f269 hf271 ho270 hP hD hS => ?_)
  have hfr272 : ∀ b, b ∈ L → b ≠ x → f269 b = f b := fun b hb z0 => (ho270 b z0).trans (hfr246 b hb z0)
  have hf273 := (ho270 q1 hn16.symm).trans hf254
  have hf274 := (ho270 q21 hn35.symm).trans hf257
  have hf275 := (ho270 q45 hn60.symm).trans hf260
  have hf276 := (ho270 q91 hn106.symm).trans hf263
  have hf277 := (ho270 q143 hn158.symm).trans hf266
  have hf278 := (ho270 q201 hn216.symm).trans hf240
  have hf279 := (ho270 q236 hn250.symm).trans hf239
  refine lv_aload_n hx hb dX10_init_59 rfl (lv_at hl 0 rfl) ?_
  refine pl_new (ci := 6) (fs := [.int 0, .int 0, .null]) (C := RX6) (T := TX6) (N := 3) hx hb hts (fun w h => mT (inX6 w h)) tyX6 tyX6_ok hown (hts _ (mT wg_277)) (hts _ (mT wg_278)) (hts _ (mT wg_162)) hG.1 hP hD hS hA rfl dvX6 (Nat.le_of_ble_eq_true rfl) (Nat.le_of_ble_eq_true rfl) dX10_init_60 (fun q280 H L281 f282 hq283 hs284 hm285 hf286 ho287 hP hD hS => ?_)
  have hN288 : [q280, q236, q201, q143, q91, q45, q21, q1].Nodup := List.nodup_cons.mpr ⟨fun h => hq283 (hNs245 _ h), hN244⟩
  have hNs289 : ∀ b, b ∈ [q280, q236, q201, q143, q91, q45, q21, q1] → b ∈ L281 := List.forall_mem_cons.mpr ⟨hm285, fun b hb => hs284 b (hNs245 b hb)⟩
  have hfr290 : ∀ b, b ∈ L → b ≠ x → f282 b = f b := fun b hb z0 => (ho287 b (hsb247 b hb)).trans (hfr272 b hb z0)
  have hnq292 : q280 ∉ L := fun h => hq283 (hsb247 _ h)
  have hsb291 : ∀ b, b ∈ L → b ∈ _ := fun b hb => hs284 b (hsb247 b hb)
  have hf293 := (ho287 x hm249).trans hf271
  have hn295 : x ≠ q280 := fun e => hq283 (e ▸ hm249)
  have hm294 := hs284 _ hm249
  have hf296 := (ho287 q1 hm252).trans hf273
  have hn298 : q1 ≠ q280 := fun e => hq283 (e ▸ hm252)
  have hm297 := hs284 _ hm252
  have hf299 := (ho287 q21 hm255).trans hf274
  have hn301 : q21 ≠ q280 := fun e => hq283 (e ▸ hm255)
  have hm300 := hs284 _ hm255
  have hf302 := (ho287 q45 hm258).trans hf275
  have hn304 : q45 ≠ q280 := fun e => hq283 (e ▸ hm258)
  have hm303 := hs284 _ hm258
  have hf305 := (ho287 q91 hm261).trans hf276
  have hn307 : q91 ≠ q280 := fun e => hq283 (e ▸ hm261)
  have hm306 := hs284 _ hm261
  have hf308 := (ho287 q143 hm264).trans hf277
  have hn310 : q143 ≠ q280 := fun e => hq283 (e ▸ hm264)
  have hm309 := hs284 _ hm264
  have hf311 := (ho287 q201 hm267).trans hf278
  have hn313 : q201 ≠ q280 := fun e => hq283 (e ▸ hm267)
  have hm312 := hs284 _ hm267
  have hf314 := (ho287 q236 hm238).trans hf279
  have hn316 : q236 ≠ q280 := fun e => hq283 (e ▸ hm238)
  have hm315 := hs284 _ hm238
  refine lv_dup hx hb dX10_init_63 rfl ?_
  refine call_v (run_IN (rm := { frames := 2, cells := 2, slots := 102, locals := 32 }) hx hb hml hown hts (k_X6_init l g _ _ _ q280 hm285 hf286) cI_X6_init wn_279 ⟨Nat.le_of_ble_eq_true rfl, Nat.le_of_ble_eq_true rfl⟩ hG hE hA hP hD hS rfl hl.1 (As := []) (rest := [.ref q280, .ref x]) rfl (Nat.le_of_ble_eq_true rfl) dX10_init_64 ⟨Nat.le_of_ble_eq_true rfl, Nat.le_of_ble_eq_true rfl⟩) hA hD hS (fun L318 f319 H locs hp320 hP hD hS => ?_)
  obtain ⟨q321, q322, hn323, hm324, hf325, hn326, hm327, hf328, hf329, er330, fr331, sb332⟩ := hp320
  have hN333 : [q321, q322, q280, q236, q201, q143, q91, q45, q21, q1].Nodup := nd_app (l := [q321, q322]) (k := [q280, q236, q201, q143, q91, q45, q21, q1]) er330 (List.forall_mem_cons.mpr ⟨hn323, (List.forall_mem_cons.mpr ⟨hn326, (fun _ h => absurd h List.not_mem_nil)⟩)⟩) hN288 hNs289
  have hNs334 : ∀ b, b ∈ [q321, q322, q280, q236, q201, q143, q91, q45, q21, q1] → b ∈ L318 := fm_app (l := [q321, q322]) (k := [q280, q236, q201, q143, q91, q45, q21, q1]) (List.forall_mem_cons.mpr ⟨hm324, (List.forall_mem_cons.mpr ⟨hm327, (fun _ h => absurd h List.not_mem_nil)⟩)⟩) (fun b hb => sb332 b (hNs289 b hb))
  have hfr335 : ∀ b, b ∈ L → b ≠ x → f319 b = f b := fun b hb z0 => (fr331 b (hsb291 b hb) (fun e => hnq292 (e ▸ hb))).trans (hfr290 b hb z0)
  have hnq337 : q321 ∉ L := fun h => hn323 (hsb291 _ h)
  have hnq338 : q322 ∉ L := fun h => hn326 (hsb291 _ h)
  have hsb336 : ∀ b, b ∈ L → b ∈ L318 := fun b hb => sb332 b (hsb291 b hb)
  have hn340 : x ≠ q321 := fun e => hn323 (e ▸ hm294)
  have hn341 : x ≠ q322 := fun e => hn326 (e ▸ hm294)
  have hf342 := (fr331 x hm294 hn295).trans hf293
  have hm339 := sb332 _ hm294
  have hn344 : q1 ≠ q321 := fun e => hn323 (e ▸ hm297)
  have hn345 : q1 ≠ q322 := fun e => hn326 (e ▸ hm297)
  have hf346 := (fr331 q1 hm297 hn298).trans hf296
  have hm343 := sb332 _ hm297
  have hn348 : q21 ≠ q321 := fun e => hn323 (e ▸ hm300)
  have hn349 : q21 ≠ q322 := fun e => hn326 (e ▸ hm300)
  have hf350 := (fr331 q21 hm300 hn301).trans hf299
  have hm347 := sb332 _ hm300
  have hn352 : q45 ≠ q321 := fun e => hn323 (e ▸ hm303)
  have hn353 : q45 ≠ q322 := fun e => hn326 (e ▸ hm303)
  have hf354 := (fr331 q45 hm303 hn304).trans hf302
  have hm351 := sb332 _ hm303
  have hn356 : q91 ≠ q321 := fun e => hn323 (e ▸ hm306)
  have hn357 : q91 ≠ q322 := fun e => hn326 (e ▸ hm306)
  have hf358 := (fr331 q91 hm306 hn307).trans hf305
  have hm355 := sb332 _ hm306
  have hn360 : q143 ≠ q321 := fun e => hn323 (e ▸ hm309)
  have hn361 : q143 ≠ q322 := fun e => hn326 (e ▸ hm309)
  have hf362 := (fr331 q143 hm309 hn310).trans hf308
  have hm359 := sb332 _ hm309
  have hn364 : q201 ≠ q321 := fun e => hn323 (e ▸ hm312)
  have hn365 : q201 ≠ q322 := fun e => hn326 (e ▸ hm312)
  have hf366 := (fr331 q201 hm312 hn313).trans hf311
  have hm363 := sb332 _ hm312
  have hn368 : q236 ≠ q321 := fun e => hn323 (e ▸ hm315)
  have hn369 : q236 ≠ q322 := fun e => hn326 (e ▸ hm315)
  have hf370 := (fr331 q236 hm315 hn316).trans hf314
  have hm367 := sb332 _ hm315
  have hn372 : q280 ≠ q321 := fun e => hn323 (e ▸ hm285)
  have hn373 : q280 ≠ q322 := fun e => hn326 (e ▸ hm285)
  have hm371 := sb332 _ hm285
  refine pl_putF (ty := (.object "RulerWord$Planned")) (v := .ref q280) (fs' := [.ref q1, .ref q45, .ref q91, .ref q143, .ref q201, .ref q280, .null, .null, .null, .null, .null, .null, .null, .null, .null, .int 0, .int 0, .long 0]) hx hb hts (fun w h => mT (inX10 w h)) tyX10 tyX10_ok nmX10 hown hG.1 hP hD hS hm339 hf342 rfl 5 (by decide) (hts _ (mT wg_480)) (fun _ h => h) rfl hnm rfl (by decide +kernel) (rfl) (rfl) (Nat.le_of_ble_eq_true rfl) rfl dX10_init_67 (fun H locs f374 hf376 ho375 hP hD hS => ?_)
  have hfr377 : ∀ b, b ∈ L → b ≠ x → f374 b = f b := fun b hb z0 => (ho375 b z0).trans (hfr335 b hb z0)
  have hf378 := (ho375 q1 hn16.symm).trans hf346
  have hf379 := (ho375 q21 hn35.symm).trans hf350
  have hf380 := (ho375 q45 hn60.symm).trans hf354
  have hf381 := (ho375 q91 hn106.symm).trans hf358
  have hf382 := (ho375 q143 hn158.symm).trans hf362
  have hf383 := (ho375 q201 hn216.symm).trans hf366
  have hf384 := (ho375 q236 hn250.symm).trans hf370
  have hf385 := (ho375 q280 hn295.symm).trans hf329
  have hf386 := (ho375 q321 hn340.symm).trans hf325
  have hf387 := (ho375 q322 hn341.symm).trans hf328
  refine lv_aload_n hx hb dX10_init_70 rfl (lv_at hl 0 rfl) ?_
  refine pl_new (ci := 1) (fs := [.int 0, .int 0]) (C := RX1) (T := TX1) (N := 2) hx hb hts (fun w h => mT (inX1 w h)) tyX1 tyX1_ok hown (hts _ (mT wg_303)) (hts _ (mT wg_304)) (hts _ (mT wg_163)) hG.1 hP hD hS hA rfl dvX1 (Nat.le_of_ble_eq_true rfl) (Nat.le_of_ble_eq_true rfl) dX10_init_71 (fun q388 H L389 f390 hq391 hs392 hm393 hf394 ho395 hP hD hS => ?_)
  have hN396 : [q388, q321, q322, q280, q236, q201, q143, q91, q45, q21, q1].Nodup := List.nodup_cons.mpr ⟨fun h => hq391 (hNs334 _ h), hN333⟩
  have hNs397 : ∀ b, b ∈ [q388, q321, q322, q280, q236, q201, q143, q91, q45, q21, q1] → b ∈ L389 := List.forall_mem_cons.mpr ⟨hm393, fun b hb => hs392 b (hNs334 b hb)⟩
  have hfr398 : ∀ b, b ∈ L → b ≠ x → f390 b = f b := fun b hb z0 => (ho395 b (hsb336 b hb)).trans (hfr377 b hb z0)
  have hnq400 : q388 ∉ L := fun h => hq391 (hsb336 _ h)
  have hsb399 : ∀ b, b ∈ L → b ∈ _ := fun b hb => hs392 b (hsb336 b hb)
  have hf401 := (ho395 x hm339).trans hf376
  have hn403 : x ≠ q388 := fun e => hq391 (e ▸ hm339)
  have hm402 := hs392 _ hm339
  have hf404 := (ho395 q1 hm343).trans hf378
  have hn406 : q1 ≠ q388 := fun e => hq391 (e ▸ hm343)
  have hm405 := hs392 _ hm343
  have hf407 := (ho395 q21 hm347).trans hf379
  have hn409 : q21 ≠ q388 := fun e => hq391 (e ▸ hm347)
  have hm408 := hs392 _ hm347
  have hf410 := (ho395 q45 hm351).trans hf380
  have hn412 : q45 ≠ q388 := fun e => hq391 (e ▸ hm351)
  have hm411 := hs392 _ hm351
  have hf413 := (ho395 q91 hm355).trans hf381
  have hn415 : q91 ≠ q388 := fun e => hq391 (e ▸ hm355)
  have hm414 := hs392 _ hm355
  have hf416 := (ho395 q143 hm359).trans hf382
  have hn418 : q143 ≠ q388 := fun e => hq391 (e ▸ hm359)
  have hm417 := hs392 _ hm359
  have hf419 := (ho395 q201 hm363).trans hf383
  have hn421 : q201 ≠ q388 := fun e => hq391 (e ▸ hm363)
  have hm420 := hs392 _ hm363
  have hf422 := (ho395 q236 hm367).trans hf384
  have hn424 : q236 ≠ q388 := fun e => hq391 (e ▸ hm367)
  have hm423 := hs392 _ hm367
  have hf425 := (ho395 q280 hm371).trans hf385
  have hn427 : q280 ≠ q388 := fun e => hq391 (e ▸ hm371)
  have hm426 := hs392 _ hm371
  have hf428 := (ho395 q321 hm324).trans hf386
  have hn430 : q321 ≠ q388 := fun e => hq391 (e ▸ hm324)
  have hm429 := hs392 _ hm324
  have hf431 := (ho395 q322 hm327).trans hf387
  have hn433 : q322 ≠ q388 := fun e => hq391 (e ▸ hm327)
  have hm432 := hs392 _ hm327
  refine lv_dup hx hb dX10_init_74 rfl ?_
  refine call_v (run_IN (rm := { frames := 2, cells := 0, slots := 0, locals := 32 }) hx hb hml hown hts (k_X1_init l g _ _ _ q388 hm393 hf394) cI_X1_init wn_305 ⟨Nat.le_of_ble_eq_true rfl, Nat.le_of_ble_eq_true rfl⟩ hG hE hA hP hD hS rfl hl.1 (As := []) (rest := [.ref q388, .ref x]) rfl (Nat.le_of_ble_eq_true rfl) dX10_init_75 ⟨Nat.le_of_ble_eq_true rfl, Nat.le_of_ble_eq_true rfl⟩) hA hD hS (fun L435 f436 H locs hp437 hP hD hS => ?_)
  obtain ⟨fr438, sb439⟩ := hp437
  have hNs440 : ∀ b, b ∈ [q388, q321, q322, q280, q236, q201, q143, q91, q45, q21, q1] → b ∈ L435 := fun b hb => sb439 b (hNs397 b hb)
  have hfr441 : ∀ b, b ∈ L → b ≠ x → f436 b = f b := fun b hb z0 => (fr438 b (hsb399 b hb) ).trans (hfr398 b hb z0)
  have hsb442 : ∀ b, b ∈ L → b ∈ L435 := fun b hb => sb439 b (hsb399 b hb)
  have hf444 := (fr438 x hm402 ).trans hf401
  have hm443 := sb439 _ hm402
  have hf446 := (fr438 q1 hm405 ).trans hf404
  have hm445 := sb439 _ hm405
  have hf448 := (fr438 q21 hm408 ).trans hf407
  have hm447 := sb439 _ hm408
  have hf450 := (fr438 q45 hm411 ).trans hf410
  have hm449 := sb439 _ hm411
  have hf452 := (fr438 q91 hm414 ).trans hf413
  have hm451 := sb439 _ hm414
  have hf454 := (fr438 q143 hm417 ).trans hf416
  have hm453 := sb439 _ hm417
  have hf456 := (fr438 q201 hm420 ).trans hf419
  have hm455 := sb439 _ hm420
  have hf458 := (fr438 q236 hm423 ).trans hf422
  have hm457 := sb439 _ hm423
  have hf460 := (fr438 q280 hm426 ).trans hf425
  have hm459 := sb439 _ hm426
  have hf462 := (fr438 q321 hm429 ).trans hf428
  have hm461 := sb439 _ hm429
  have hf464 := (fr438 q322 hm432 ).trans hf431
  have hm463 := sb439 _ hm432
  have hf466 := (fr438 q388 hm393 ).trans hf394
  have hm465 := sb439 _ hm393
  refine pl_putF (ty := (.object "RulerWord$Chance")) (v := .ref q388) (fs' := [.ref q1, .ref q45, .ref q91, .ref q143, .ref q201, .ref q280, .ref q388, .null, .null, .null, .null, .null, .null, .null, .null, .int 0, .int 0, .long 0]) hx hb hts (fun w h => mT (inX10 w h)) tyX10 tyX10_ok nmX10 hown hG.1 hP hD hS hm443 hf444 rfl 6 (by decide) (hts _ (mT wg_481)) (fun _ h => h) rfl hnm rfl (by decide +kernel) (rfl) (rfl) (Nat.le_of_ble_eq_true rfl) rfl dX10_init_78 (fun H locs f467 hf469 ho468 hP hD hS => ?_)
  have hfr470 : ∀ b, b ∈ L → b ≠ x → f467 b = f b := fun b hb z0 => (ho468 b z0).trans (hfr441 b hb z0)
  have hf471 := (ho468 q1 hn16.symm).trans hf446
  have hf472 := (ho468 q21 hn35.symm).trans hf448
  have hf473 := (ho468 q45 hn60.symm).trans hf450
  have hf474 := (ho468 q91 hn106.symm).trans hf452
  have hf475 := (ho468 q143 hn158.symm).trans hf454
  have hf476 := (ho468 q201 hn216.symm).trans hf456
  have hf477 := (ho468 q236 hn250.symm).trans hf458
  have hf478 := (ho468 q280 hn295.symm).trans hf460
  have hf479 := (ho468 q321 hn340.symm).trans hf462
  have hf480 := (ho468 q322 hn341.symm).trans hf464
  have hf481 := (ho468 q388 hn403.symm).trans hf466
  refine lv_aload_n hx hb dX10_init_81 rfl (lv_at hl 0 rfl) ?_
  refine pl_new (ci := 4) (fs := [.int 0, .int 0, .int 0, .int 0]) (C := RX4) (T := TX4) (N := 4) hx hb hts (fun w h => mT (inX4 w h)) tyX4 tyX4_ok hown (hts _ (mT wg_312)) (hts _ (mT wg_313)) (hts _ (mT wg_164)) hG.1 hP hD hS hA rfl dvX4 (Nat.le_of_ble_eq_true rfl) (Nat.le_of_ble_eq_true rfl) dX10_init_82 (fun q482 H L483 f484 hq485 hs486 hm487 hf488 ho489 hP hD hS => ?_)
  have hN490 : [q482, q388, q321, q322, q280, q236, q201, q143, q91, q45, q21, q1].Nodup := List.nodup_cons.mpr ⟨fun h => hq485 (hNs440 _ h), hN396⟩
  have hNs491 : ∀ b, b ∈ [q482, q388, q321, q322, q280, q236, q201, q143, q91, q45, q21, q1] → b ∈ L483 := List.forall_mem_cons.mpr ⟨hm487, fun b hb => hs486 b (hNs440 b hb)⟩
  have hfr492 : ∀ b, b ∈ L → b ≠ x → f484 b = f b := fun b hb z0 => (ho489 b (hsb442 b hb)).trans (hfr470 b hb z0)
  have hnq494 : q482 ∉ L := fun h => hq485 (hsb442 _ h)
  have hsb493 : ∀ b, b ∈ L → b ∈ _ := fun b hb => hs486 b (hsb442 b hb)
  have hf495 := (ho489 x hm443).trans hf469
  have hn497 : x ≠ q482 := fun e => hq485 (e ▸ hm443)
  have hm496 := hs486 _ hm443
  have hf498 := (ho489 q1 hm445).trans hf471
  have hn500 : q1 ≠ q482 := fun e => hq485 (e ▸ hm445)
  have hm499 := hs486 _ hm445
  have hf501 := (ho489 q21 hm447).trans hf472
  have hn503 : q21 ≠ q482 := fun e => hq485 (e ▸ hm447)
  have hm502 := hs486 _ hm447
  have hf504 := (ho489 q45 hm449).trans hf473
  have hn506 : q45 ≠ q482 := fun e => hq485 (e ▸ hm449)
  have hm505 := hs486 _ hm449
  have hf507 := (ho489 q91 hm451).trans hf474
  have hn509 : q91 ≠ q482 := fun e => hq485 (e ▸ hm451)
  have hm508 := hs486 _ hm451
  have hf510 := (ho489 q143 hm453).trans hf475
  have hn512 : q143 ≠ q482 := fun e => hq485 (e ▸ hm453)
  have hm511 := hs486 _ hm453
  have hf513 := (ho489 q201 hm455).trans hf476
  have hn515 : q201 ≠ q482 := fun e => hq485 (e ▸ hm455)
  have hm514 := hs486 _ hm455
  have hf516 := (ho489 q236 hm457).trans hf477
  have hn518 : q236 ≠ q482 := fun e => hq485 (e ▸ hm457)
  have hm517 := hs486 _ hm457
  have hf519 := (ho489 q280 hm459).trans hf478
  have hn521 : q280 ≠ q482 := fun e => hq485 (e ▸ hm459)
  have hm520 := hs486 _ hm459
  have hf522 := (ho489 q321 hm461).trans hf479
  have hn524 : q321 ≠ q482 := fun e => hq485 (e ▸ hm461)
  have hm523 := hs486 _ hm461
  have hf525 := (ho489 q322 hm463).trans hf480
  have hn527 : q322 ≠ q482 := fun e => hq485 (e ▸ hm463)
  have hm526 := hs486 _ hm463
  have hf528 := (ho489 q388 hm465).trans hf481
  have hn530 : q388 ≠ q482 := fun e => hq485 (e ▸ hm465)
  have hm529 := hs486 _ hm465
  refine lv_dup hx hb dX10_init_85 rfl ?_
  refine call_v (run_IN (rm := { frames := 2, cells := 0, slots := 0, locals := 32 }) hx hb hml hown hts (k_X4_init l g _ _ _ q482 hm487 hf488) cI_X4_init wn_314 ⟨Nat.le_of_ble_eq_true rfl, Nat.le_of_ble_eq_true rfl⟩ hG hE hA hP hD hS rfl hl.1 (As := []) (rest := [.ref q482, .ref x]) rfl (Nat.le_of_ble_eq_true rfl) dX10_init_86 ⟨Nat.le_of_ble_eq_true rfl, Nat.le_of_ble_eq_true rfl⟩) hA hD hS (fun L532 f533 H locs hp534 hP hD hS => ?_)
  obtain ⟨fr535, sb536⟩ := hp534
  have hNs537 : ∀ b, b ∈ [q482, q388, q321, q322, q280, q236, q201, q143, q91, q45, q21, q1] → b ∈ L532 := fun b hb => sb536 b (hNs491 b hb)
  have hfr538 : ∀ b, b ∈ L → b ≠ x → f533 b = f b := fun b hb z0 => (fr535 b (hsb493 b hb) ).trans (hfr492 b hb z0)
  have hsb539 : ∀ b, b ∈ L → b ∈ L532 := fun b hb => sb536 b (hsb493 b hb)
  have hf541 := (fr535 x hm496 ).trans hf495
  have hm540 := sb536 _ hm496
  have hf543 := (fr535 q1 hm499 ).trans hf498
  have hm542 := sb536 _ hm499
  have hf545 := (fr535 q21 hm502 ).trans hf501
  have hm544 := sb536 _ hm502
  have hf547 := (fr535 q45 hm505 ).trans hf504
  have hm546 := sb536 _ hm505
  have hf549 := (fr535 q91 hm508 ).trans hf507
  have hm548 := sb536 _ hm508
  have hf551 := (fr535 q143 hm511 ).trans hf510
  have hm550 := sb536 _ hm511
  have hf553 := (fr535 q201 hm514 ).trans hf513
  have hm552 := sb536 _ hm514
  have hf555 := (fr535 q236 hm517 ).trans hf516
  have hm554 := sb536 _ hm517
  have hf557 := (fr535 q280 hm520 ).trans hf519
  have hm556 := sb536 _ hm520
  have hf559 := (fr535 q321 hm523 ).trans hf522
  have hm558 := sb536 _ hm523
  have hf561 := (fr535 q322 hm526 ).trans hf525
  have hm560 := sb536 _ hm526
  have hf563 := (fr535 q388 hm529 ).trans hf528
  have hm562 := sb536 _ hm529
  have hf565 := (fr535 q482 hm487 ).trans hf488
  have hm564 := sb536 _ hm487
  refine pl_putF (ty := (.object "RulerWord$Free")) (v := .ref q482) (fs' := [.ref q1, .ref q45, .ref q91, .ref q143, .ref q201, .ref q280, .ref q388, .ref q482, .null, .null, .null, .null, .null, .null, .null, .int 0, .int 0, .long 0]) hx hb hts (fun w h => mT (inX10 w h)) tyX10 tyX10_ok nmX10 hown hG.1 hP hD hS hm540 hf541 rfl 7 (by decide) (hts _ (mT wg_482)) (fun _ h => h) rfl hnm rfl (by decide +kernel) (rfl) (rfl) (Nat.le_of_ble_eq_true rfl) rfl dX10_init_89 (fun H locs f566 hf568 ho567 hP hD hS => ?_)
  have hfr569 : ∀ b, b ∈ L → b ≠ x → f566 b = f b := fun b hb z0 => (ho567 b z0).trans (hfr538 b hb z0)
  have hf570 := (ho567 q1 hn16.symm).trans hf543
  have hf571 := (ho567 q21 hn35.symm).trans hf545
  have hf572 := (ho567 q45 hn60.symm).trans hf547
  have hf573 := (ho567 q91 hn106.symm).trans hf549
  have hf574 := (ho567 q143 hn158.symm).trans hf551
  have hf575 := (ho567 q201 hn216.symm).trans hf553
  have hf576 := (ho567 q236 hn250.symm).trans hf555
  have hf577 := (ho567 q280 hn295.symm).trans hf557
  have hf578 := (ho567 q321 hn340.symm).trans hf559
  have hf579 := (ho567 q322 hn341.symm).trans hf561
  have hf580 := (ho567 q388 hn403.symm).trans hf563
  have hf581 := (ho567 q482 hn497.symm).trans hf565
  refine lv_aload_n hx hb dX10_init_92 rfl (lv_at hl 0 rfl) ?_
  refine pl_new (ci := 3) (fs := [.int 0, .int 0, .int 0, .int 0, .int 0, .int 0, .int 0, .long 0, .long 0, .null, .null, .null, .null, .null, .null, .null, .null, .null]) (C := RX3) (T := TX3) (N := 18) hx hb hts (fun w h => mT (inX3 w h)) tyX3 tyX3_ok hown (hts _ (mT wg_329)) (hts _ (mT wg_330)) (hts _ (mT wg_165)) hG.1 hP hD hS hA rfl dvX3 (Nat.le_of_ble_eq_true rfl) (Nat.le_of_ble_eq_true rfl) dX10_init_93 (fun q582 H L583 f584 hq585 hs586 hm587 hf588 ho589 hP hD hS => ?_)
  have hN590 : [q582, q482, q388, q321, q322, q280, q236, q201, q143, q91, q45, q21, q1].Nodup := List.nodup_cons.mpr ⟨fun h => hq585 (hNs537 _ h), hN490⟩
  have hNs591 : ∀ b, b ∈ [q582, q482, q388, q321, q322, q280, q236, q201, q143, q91, q45, q21, q1] → b ∈ L583 := List.forall_mem_cons.mpr ⟨hm587, fun b hb => hs586 b (hNs537 b hb)⟩
  have hfr592 : ∀ b, b ∈ L → b ≠ x → f584 b = f b := fun b hb z0 => (ho589 b (hsb539 b hb)).trans (hfr569 b hb z0)
  have hnq594 : q582 ∉ L := fun h => hq585 (hsb539 _ h)
  have hsb593 : ∀ b, b ∈ L → b ∈ _ := fun b hb => hs586 b (hsb539 b hb)
  have hf595 := (ho589 x hm540).trans hf568
  have hn597 : x ≠ q582 := fun e => hq585 (e ▸ hm540)
  have hm596 := hs586 _ hm540
  have hf598 := (ho589 q1 hm542).trans hf570
  have hn600 : q1 ≠ q582 := fun e => hq585 (e ▸ hm542)
  have hm599 := hs586 _ hm542
  have hf601 := (ho589 q21 hm544).trans hf571
  have hn603 : q21 ≠ q582 := fun e => hq585 (e ▸ hm544)
  have hm602 := hs586 _ hm544
  have hf604 := (ho589 q45 hm546).trans hf572
  have hn606 : q45 ≠ q582 := fun e => hq585 (e ▸ hm546)
  have hm605 := hs586 _ hm546
  have hf607 := (ho589 q91 hm548).trans hf573
  have hn609 : q91 ≠ q582 := fun e => hq585 (e ▸ hm548)
  have hm608 := hs586 _ hm548
  have hf610 := (ho589 q143 hm550).trans hf574
  have hn612 : q143 ≠ q582 := fun e => hq585 (e ▸ hm550)
  have hm611 := hs586 _ hm550
  have hf613 := (ho589 q201 hm552).trans hf575
  have hn615 : q201 ≠ q582 := fun e => hq585 (e ▸ hm552)
  have hm614 := hs586 _ hm552
  have hf616 := (ho589 q236 hm554).trans hf576
  have hn618 : q236 ≠ q582 := fun e => hq585 (e ▸ hm554)
  have hm617 := hs586 _ hm554
  have hf619 := (ho589 q280 hm556).trans hf577
  have hn621 : q280 ≠ q582 := fun e => hq585 (e ▸ hm556)
  have hm620 := hs586 _ hm556
  have hf622 := (ho589 q321 hm558).trans hf578
  have hn624 : q321 ≠ q582 := fun e => hq585 (e ▸ hm558)
  have hm623 := hs586 _ hm558
  have hf625 := (ho589 q322 hm560).trans hf579
  have hn627 : q322 ≠ q582 := fun e => hq585 (e ▸ hm560)
  have hm626 := hs586 _ hm560
  have hf628 := (ho589 q388 hm562).trans hf580
  have hn630 : q388 ≠ q582 := fun e => hq585 (e ▸ hm562)
  have hm629 := hs586 _ hm562
  have hf631 := (ho589 q482 hm564).trans hf581
  have hn633 : q482 ≠ q582 := fun e => hq585 (e ▸ hm564)
  have hm632 := hs586 _ hm564
  refine lv_dup hx hb dX10_init_96 rfl ?_
  refine call_v (run_IN (rm := { frames := 1, cells := 9, slots := 258, locals := 12 }) hx hb hml hown hts (k_X3_init l g _ _ _ q582 hm587 hf588) cI_X3_init wn_331 ⟨Nat.le_of_ble_eq_true rfl, Nat.le_of_ble_eq_true rfl⟩ hG hE hA hP hD hS rfl hl.1 (As := []) (rest := [.ref q582, .ref x]) rfl (Nat.le_of_ble_eq_true rfl) dX10_init_97 ⟨Nat.le_of_ble_eq_true rfl, Nat.le_of_ble_eq_true rfl⟩) hA hD hS (fun L635 f636 H locs hp637 hP hD hS => ?_)
  obtain ⟨q638, q639, q640, q641, q642, q643, q644, q645, q646, hn647, hm648, hf649, hn650, hm651, hf652, hn653, hm654, hf655, hn656, hm657, hf658, hn659, hm660, hf661, hn662, hm663, hf664, hn665, hm666, hf667, hn668, hm669, hf670, hn671, hm672, hf673, hf674, er675, fr676, sb677⟩ := hp637
  have hN678 : [q638, q639, q640, q641, q642, q643, q644, q645, q646, q582, q482, q388, q321, q322, q280, q236, q201, q143, q91, q45, q21, q1].Nodup := nd_app (l := [q638, q639, q640, q641, q642, q643, q644, q645, q646]) (k := [q582, q482, q388, q321, q322, q280, q236, q201, q143, q91, q45, q21, q1]) er675 (List.forall_mem_cons.mpr ⟨hn647, (List.forall_mem_cons.mpr ⟨hn650, (List.forall_mem_cons.mpr ⟨hn653, (List.forall_mem_cons.mpr ⟨hn656, (List.forall_mem_cons.mpr ⟨hn659, (List.forall_mem_cons.mpr ⟨hn662, (List.forall_mem_cons.mpr ⟨hn665, (List.forall_mem_cons.mpr ⟨hn668, (List.forall_mem_cons.mpr ⟨hn671, (fun _ h => absurd h List.not_mem_nil)⟩)⟩)⟩)⟩)⟩)⟩)⟩)⟩)⟩) hN590 hNs591
  have hNs679 : ∀ b, b ∈ [q638, q639, q640, q641, q642, q643, q644, q645, q646, q582, q482, q388, q321, q322, q280, q236, q201, q143, q91, q45, q21, q1] → b ∈ L635 := fm_app (l := [q638, q639, q640, q641, q642, q643, q644, q645, q646]) (k := [q582, q482, q388, q321, q322, q280, q236, q201, q143, q91, q45, q21, q1]) (List.forall_mem_cons.mpr ⟨hm648, (List.forall_mem_cons.mpr ⟨hm651, (List.forall_mem_cons.mpr ⟨hm654, (List.forall_mem_cons.mpr ⟨hm657, (List.forall_mem_cons.mpr ⟨hm660, (List.forall_mem_cons.mpr ⟨hm663, (List.forall_mem_cons.mpr ⟨hm666, (List.forall_mem_cons.mpr ⟨hm669, (List.forall_mem_cons.mpr ⟨hm672, (fun _ h => absurd h List.not_mem_nil)⟩)⟩)⟩)⟩)⟩)⟩)⟩)⟩)⟩) (fun b hb => sb677 b (hNs591 b hb))
  have hfr680 : ∀ b, b ∈ L → b ≠ x → f636 b = f b := fun b hb z0 => (fr676 b (hsb593 b hb) (fun e => hnq594 (e ▸ hb))).trans (hfr592 b hb z0)
  have hnq682 : q638 ∉ L := fun h => hn647 (hsb593 _ h)
  have hnq683 : q639 ∉ L := fun h => hn650 (hsb593 _ h)
  have hnq684 : q640 ∉ L := fun h => hn653 (hsb593 _ h)
  have hnq685 : q641 ∉ L := fun h => hn656 (hsb593 _ h)
  have hnq686 : q642 ∉ L := fun h => hn659 (hsb593 _ h)
  have hnq687 : q643 ∉ L := fun h => hn662 (hsb593 _ h)
  have hnq688 : q644 ∉ L := fun h => hn665 (hsb593 _ h)
  have hnq689 : q645 ∉ L := fun h => hn668 (hsb593 _ h)
  have hnq690 : q646 ∉ L := fun h => hn671 (hsb593 _ h)
  have hsb681 : ∀ b, b ∈ L → b ∈ L635 := fun b hb => sb677 b (hsb593 b hb)
  have hn692 : x ≠ q638 := fun e => hn647 (e ▸ hm596)
  have hn693 : x ≠ q639 := fun e => hn650 (e ▸ hm596)
  have hn694 : x ≠ q640 := fun e => hn653 (e ▸ hm596)
  have hn695 : x ≠ q641 := fun e => hn656 (e ▸ hm596)
  have hn696 : x ≠ q642 := fun e => hn659 (e ▸ hm596)
  have hn697 : x ≠ q643 := fun e => hn662 (e ▸ hm596)
  have hn698 : x ≠ q644 := fun e => hn665 (e ▸ hm596)
  have hn699 : x ≠ q645 := fun e => hn668 (e ▸ hm596)
  have hn700 : x ≠ q646 := fun e => hn671 (e ▸ hm596)
  have hf701 := (fr676 x hm596 hn597).trans hf595
  have hm691 := sb677 _ hm596
  have hn703 : q1 ≠ q638 := fun e => hn647 (e ▸ hm599)
  have hn704 : q1 ≠ q639 := fun e => hn650 (e ▸ hm599)
  have hn705 : q1 ≠ q640 := fun e => hn653 (e ▸ hm599)
  have hn706 : q1 ≠ q641 := fun e => hn656 (e ▸ hm599)
  have hn707 : q1 ≠ q642 := fun e => hn659 (e ▸ hm599)
  have hn708 : q1 ≠ q643 := fun e => hn662 (e ▸ hm599)
  have hn709 : q1 ≠ q644 := fun e => hn665 (e ▸ hm599)
  have hn710 : q1 ≠ q645 := fun e => hn668 (e ▸ hm599)
  have hn711 : q1 ≠ q646 := fun e => hn671 (e ▸ hm599)
  have hf712 := (fr676 q1 hm599 hn600).trans hf598
  have hm702 := sb677 _ hm599
  have hn714 : q21 ≠ q638 := fun e => hn647 (e ▸ hm602)
  have hn715 : q21 ≠ q639 := fun e => hn650 (e ▸ hm602)
  have hn716 : q21 ≠ q640 := fun e => hn653 (e ▸ hm602)
  have hn717 : q21 ≠ q641 := fun e => hn656 (e ▸ hm602)
  have hn718 : q21 ≠ q642 := fun e => hn659 (e ▸ hm602)
  have hn719 : q21 ≠ q643 := fun e => hn662 (e ▸ hm602)
  have hn720 : q21 ≠ q644 := fun e => hn665 (e ▸ hm602)
  have hn721 : q21 ≠ q645 := fun e => hn668 (e ▸ hm602)
  have hn722 : q21 ≠ q646 := fun e => hn671 (e ▸ hm602)
  have hf723 := (fr676 q21 hm602 hn603).trans hf601
  have hm713 := sb677 _ hm602
  have hn725 : q45 ≠ q638 := fun e => hn647 (e ▸ hm605)
  have hn726 : q45 ≠ q639 := fun e => hn650 (e ▸ hm605)
  have hn727 : q45 ≠ q640 := fun e => hn653 (e ▸ hm605)
  have hn728 : q45 ≠ q641 := fun e => hn656 (e ▸ hm605)
  have hn729 : q45 ≠ q642 := fun e => hn659 (e ▸ hm605)
  have hn730 : q45 ≠ q643 := fun e => hn662 (e ▸ hm605)
  have hn731 : q45 ≠ q644 := fun e => hn665 (e ▸ hm605)
  have hn732 : q45 ≠ q645 := fun e => hn668 (e ▸ hm605)
  have hn733 : q45 ≠ q646 := fun e => hn671 (e ▸ hm605)
  have hf734 := (fr676 q45 hm605 hn606).trans hf604
  have hm724 := sb677 _ hm605
  have hn736 : q91 ≠ q638 := fun e => hn647 (e ▸ hm608)
  have hn737 : q91 ≠ q639 := fun e => hn650 (e ▸ hm608)
  have hn738 : q91 ≠ q640 := fun e => hn653 (e ▸ hm608)
  have hn739 : q91 ≠ q641 := fun e => hn656 (e ▸ hm608)
  have hn740 : q91 ≠ q642 := fun e => hn659 (e ▸ hm608)
  have hn741 : q91 ≠ q643 := fun e => hn662 (e ▸ hm608)
  have hn742 : q91 ≠ q644 := fun e => hn665 (e ▸ hm608)
  have hn743 : q91 ≠ q645 := fun e => hn668 (e ▸ hm608)
  have hn744 : q91 ≠ q646 := fun e => hn671 (e ▸ hm608)
  have hf745 := (fr676 q91 hm608 hn609).trans hf607
  have hm735 := sb677 _ hm608
  have hn747 : q143 ≠ q638 := fun e => hn647 (e ▸ hm611)
  have hn748 : q143 ≠ q639 := fun e => hn650 (e ▸ hm611)
  have hn749 : q143 ≠ q640 := fun e => hn653 (e ▸ hm611)
  have hn750 : q143 ≠ q641 := fun e => hn656 (e ▸ hm611)
  have hn751 : q143 ≠ q642 := fun e => hn659 (e ▸ hm611)
  have hn752 : q143 ≠ q643 := fun e => hn662 (e ▸ hm611)
  have hn753 : q143 ≠ q644 := fun e => hn665 (e ▸ hm611)
  have hn754 : q143 ≠ q645 := fun e => hn668 (e ▸ hm611)
  have hn755 : q143 ≠ q646 := fun e => hn671 (e ▸ hm611)
  have hf756 := (fr676 q143 hm611 hn612).trans hf610
  have hm746 := sb677 _ hm611
  have hn758 : q201 ≠ q638 := fun e => hn647 (e ▸ hm614)
  have hn759 : q201 ≠ q639 := fun e => hn650 (e ▸ hm614)
  have hn760 : q201 ≠ q640 := fun e => hn653 (e ▸ hm614)
  have hn761 : q201 ≠ q641 := fun e => hn656 (e ▸ hm614)
  have hn762 : q201 ≠ q642 := fun e => hn659 (e ▸ hm614)
  have hn763 : q201 ≠ q643 := fun e => hn662 (e ▸ hm614)
  have hn764 : q201 ≠ q644 := fun e => hn665 (e ▸ hm614)
  have hn765 : q201 ≠ q645 := fun e => hn668 (e ▸ hm614)
  have hn766 : q201 ≠ q646 := fun e => hn671 (e ▸ hm614)
  have hf767 := (fr676 q201 hm614 hn615).trans hf613
  have hm757 := sb677 _ hm614
  have hn769 : q236 ≠ q638 := fun e => hn647 (e ▸ hm617)
  have hn770 : q236 ≠ q639 := fun e => hn650 (e ▸ hm617)
  have hn771 : q236 ≠ q640 := fun e => hn653 (e ▸ hm617)
  have hn772 : q236 ≠ q641 := fun e => hn656 (e ▸ hm617)
  have hn773 : q236 ≠ q642 := fun e => hn659 (e ▸ hm617)
  have hn774 : q236 ≠ q643 := fun e => hn662 (e ▸ hm617)
  have hn775 : q236 ≠ q644 := fun e => hn665 (e ▸ hm617)
  have hn776 : q236 ≠ q645 := fun e => hn668 (e ▸ hm617)
  have hn777 : q236 ≠ q646 := fun e => hn671 (e ▸ hm617)
  have hf778 := (fr676 q236 hm617 hn618).trans hf616
  have hm768 := sb677 _ hm617
  have hn780 : q280 ≠ q638 := fun e => hn647 (e ▸ hm620)
  have hn781 : q280 ≠ q639 := fun e => hn650 (e ▸ hm620)
  have hn782 : q280 ≠ q640 := fun e => hn653 (e ▸ hm620)
  have hn783 : q280 ≠ q641 := fun e => hn656 (e ▸ hm620)
  have hn784 : q280 ≠ q642 := fun e => hn659 (e ▸ hm620)
  have hn785 : q280 ≠ q643 := fun e => hn662 (e ▸ hm620)
  have hn786 : q280 ≠ q644 := fun e => hn665 (e ▸ hm620)
  have hn787 : q280 ≠ q645 := fun e => hn668 (e ▸ hm620)
  have hn788 : q280 ≠ q646 := fun e => hn671 (e ▸ hm620)
  have hf789 := (fr676 q280 hm620 hn621).trans hf619
  have hm779 := sb677 _ hm620
  have hn791 : q321 ≠ q638 := fun e => hn647 (e ▸ hm623)
  have hn792 : q321 ≠ q639 := fun e => hn650 (e ▸ hm623)
  have hn793 : q321 ≠ q640 := fun e => hn653 (e ▸ hm623)
  have hn794 : q321 ≠ q641 := fun e => hn656 (e ▸ hm623)
  have hn795 : q321 ≠ q642 := fun e => hn659 (e ▸ hm623)
  have hn796 : q321 ≠ q643 := fun e => hn662 (e ▸ hm623)
  have hn797 : q321 ≠ q644 := fun e => hn665 (e ▸ hm623)
  have hn798 : q321 ≠ q645 := fun e => hn668 (e ▸ hm623)
  have hn799 : q321 ≠ q646 := fun e => hn671 (e ▸ hm623)
  have hf800 := (fr676 q321 hm623 hn624).trans hf622
  have hm790 := sb677 _ hm623
  have hn802 : q322 ≠ q638 := fun e => hn647 (e ▸ hm626)
  have hn803 : q322 ≠ q639 := fun e => hn650 (e ▸ hm626)
  have hn804 : q322 ≠ q640 := fun e => hn653 (e ▸ hm626)
  have hn805 : q322 ≠ q641 := fun e => hn656 (e ▸ hm626)
  have hn806 : q322 ≠ q642 := fun e => hn659 (e ▸ hm626)
  have hn807 : q322 ≠ q643 := fun e => hn662 (e ▸ hm626)
  have hn808 : q322 ≠ q644 := fun e => hn665 (e ▸ hm626)
  have hn809 : q322 ≠ q645 := fun e => hn668 (e ▸ hm626)
  have hn810 : q322 ≠ q646 := fun e => hn671 (e ▸ hm626)
  have hf811 := (fr676 q322 hm626 hn627).trans hf625
  have hm801 := sb677 _ hm626
  have hn813 : q388 ≠ q638 := fun e => hn647 (e ▸ hm629)
  have hn814 : q388 ≠ q639 := fun e => hn650 (e ▸ hm629)
  have hn815 : q388 ≠ q640 := fun e => hn653 (e ▸ hm629)
  have hn816 : q388 ≠ q641 := fun e => hn656 (e ▸ hm629)
  have hn817 : q388 ≠ q642 := fun e => hn659 (e ▸ hm629)
  have hn818 : q388 ≠ q643 := fun e => hn662 (e ▸ hm629)
  have hn819 : q388 ≠ q644 := fun e => hn665 (e ▸ hm629)
  have hn820 : q388 ≠ q645 := fun e => hn668 (e ▸ hm629)
  have hn821 : q388 ≠ q646 := fun e => hn671 (e ▸ hm629)
  have hf822 := (fr676 q388 hm629 hn630).trans hf628
  have hm812 := sb677 _ hm629
  have hn824 : q482 ≠ q638 := fun e => hn647 (e ▸ hm632)
  have hn825 : q482 ≠ q639 := fun e => hn650 (e ▸ hm632)
  have hn826 : q482 ≠ q640 := fun e => hn653 (e ▸ hm632)
  have hn827 : q482 ≠ q641 := fun e => hn656 (e ▸ hm632)
  have hn828 : q482 ≠ q642 := fun e => hn659 (e ▸ hm632)
  have hn829 : q482 ≠ q643 := fun e => hn662 (e ▸ hm632)
  have hn830 : q482 ≠ q644 := fun e => hn665 (e ▸ hm632)
  have hn831 : q482 ≠ q645 := fun e => hn668 (e ▸ hm632)
  have hn832 : q482 ≠ q646 := fun e => hn671 (e ▸ hm632)
  have hf833 := (fr676 q482 hm632 hn633).trans hf631
  have hm823 := sb677 _ hm632
  have hn835 : q582 ≠ q638 := fun e => hn647 (e ▸ hm587)
  have hn836 : q582 ≠ q639 := fun e => hn650 (e ▸ hm587)
  have hn837 : q582 ≠ q640 := fun e => hn653 (e ▸ hm587)
  have hn838 : q582 ≠ q641 := fun e => hn656 (e ▸ hm587)
  have hn839 : q582 ≠ q642 := fun e => hn659 (e ▸ hm587)
  have hn840 : q582 ≠ q643 := fun e => hn662 (e ▸ hm587)
  have hn841 : q582 ≠ q644 := fun e => hn665 (e ▸ hm587)
  have hn842 : q582 ≠ q645 := fun e => hn668 (e ▸ hm587)
  have hn843 : q582 ≠ q646 := fun e => hn671 (e ▸ hm587)
  have hm834 := sb677 _ hm587
  refine pl_putF (ty := (.object "RulerWord$Course")) (v := .ref q582) (fs' := [.ref q1, .ref q45, .ref q91, .ref q143, .ref q201, .ref q280, .ref q388, .ref q482, .ref q582, .null, .null, .null, .null, .null, .null, .int 0, .int 0, .long 0]) hx hb hts (fun w h => mT (inX10 w h)) tyX10 tyX10_ok nmX10 hown hG.1 hP hD hS hm691 hf701 rfl 8 (by decide) (hts _ (mT wg_483)) (fun _ h => h) rfl hnm rfl (by decide +kernel) (rfl) (rfl) (Nat.le_of_ble_eq_true rfl) rfl dX10_init_100 (fun H locs f844 hf846 ho845 hP hD hS => ?_)
  have hfr847 : ∀ b, b ∈ L → b ≠ x → f844 b = f b := fun b hb z0 => (ho845 b z0).trans (hfr680 b hb z0)
  have hf848 := (ho845 q1 hn16.symm).trans hf712
  have hf849 := (ho845 q21 hn35.symm).trans hf723
  have hf850 := (ho845 q45 hn60.symm).trans hf734
  have hf851 := (ho845 q91 hn106.symm).trans hf745
  have hf852 := (ho845 q143 hn158.symm).trans hf756
  have hf853 := (ho845 q201 hn216.symm).trans hf767
  have hf854 := (ho845 q236 hn250.symm).trans hf778
  have hf855 := (ho845 q280 hn295.symm).trans hf789
  have hf856 := (ho845 q321 hn340.symm).trans hf800
  have hf857 := (ho845 q322 hn341.symm).trans hf811
  have hf858 := (ho845 q388 hn403.symm).trans hf822
  have hf859 := (ho845 q482 hn497.symm).trans hf833
  have hf860 := (ho845 q582 hn597.symm).trans hf674
  have hf861 := (ho845 q638 hn692.symm).trans hf649
  have hf862 := (ho845 q639 hn693.symm).trans hf652
  have hf863 := (ho845 q640 hn694.symm).trans hf655
  have hf864 := (ho845 q641 hn695.symm).trans hf658
  have hf865 := (ho845 q642 hn696.symm).trans hf661
  have hf866 := (ho845 q643 hn697.symm).trans hf664
  have hf867 := (ho845 q644 hn698.symm).trans hf667
  have hf868 := (ho845 q645 hn699.symm).trans hf670
  have hf869 := (ho845 q646 hn700.symm).trans hf673
  refine lv_aload_n hx hb dX10_init_103 rfl (lv_at hl 0 rfl) ?_
  refine pl_new (ci := 3) (fs := [.int 0, .int 0, .int 0, .int 0, .int 0, .int 0, .int 0, .long 0, .long 0, .null, .null, .null, .null, .null, .null, .null, .null, .null]) (C := RX3) (T := TX3) (N := 18) hx hb hts (fun w h => mT (inX3 w h)) tyX3 tyX3_ok hown (hts _ (mT wg_329)) (hts _ (mT wg_330)) (hts _ (mT wg_165)) hG.1 hP hD hS hA rfl dvX3 (Nat.le_of_ble_eq_true rfl) (Nat.le_of_ble_eq_true rfl) dX10_init_104 (fun q870 H L871 f872 hq873 hs874 hm875 hf876 ho877 hP hD hS => ?_)
  have hN878 : [q870, q638, q639, q640, q641, q642, q643, q644, q645, q646, q582, q482, q388, q321, q322, q280, q236, q201, q143, q91, q45, q21, q1].Nodup := List.nodup_cons.mpr ⟨fun h => hq873 (hNs679 _ h), hN678⟩
  have hNs879 : ∀ b, b ∈ [q870, q638, q639, q640, q641, q642, q643, q644, q645, q646, q582, q482, q388, q321, q322, q280, q236, q201, q143, q91, q45, q21, q1] → b ∈ L871 := List.forall_mem_cons.mpr ⟨hm875, fun b hb => hs874 b (hNs679 b hb)⟩
  have hfr880 : ∀ b, b ∈ L → b ≠ x → f872 b = f b := fun b hb z0 => (ho877 b (hsb681 b hb)).trans (hfr847 b hb z0)
  have hnq882 : q870 ∉ L := fun h => hq873 (hsb681 _ h)
  have hsb881 : ∀ b, b ∈ L → b ∈ _ := fun b hb => hs874 b (hsb681 b hb)
  have hf883 := (ho877 x hm691).trans hf846
  have hn885 : x ≠ q870 := fun e => hq873 (e ▸ hm691)
  have hm884 := hs874 _ hm691
  have hf886 := (ho877 q1 hm702).trans hf848
  have hn888 : q1 ≠ q870 := fun e => hq873 (e ▸ hm702)
  have hm887 := hs874 _ hm702
  have hf889 := (ho877 q21 hm713).trans hf849
  have hn891 : q21 ≠ q870 := fun e => hq873 (e ▸ hm713)
  have hm890 := hs874 _ hm713
  have hf892 := (ho877 q45 hm724).trans hf850
  have hn894 : q45 ≠ q870 := fun e => hq873 (e ▸ hm724)
  have hm893 := hs874 _ hm724
  have hf895 := (ho877 q91 hm735).trans hf851
  have hn897 : q91 ≠ q870 := fun e => hq873 (e ▸ hm735)
  have hm896 := hs874 _ hm735
  have hf898 := (ho877 q143 hm746).trans hf852
  have hn900 : q143 ≠ q870 := fun e => hq873 (e ▸ hm746)
  have hm899 := hs874 _ hm746
  have hf901 := (ho877 q201 hm757).trans hf853
  have hn903 : q201 ≠ q870 := fun e => hq873 (e ▸ hm757)
  have hm902 := hs874 _ hm757
  have hf904 := (ho877 q236 hm768).trans hf854
  have hn906 : q236 ≠ q870 := fun e => hq873 (e ▸ hm768)
  have hm905 := hs874 _ hm768
  have hf907 := (ho877 q280 hm779).trans hf855
  have hn909 : q280 ≠ q870 := fun e => hq873 (e ▸ hm779)
  have hm908 := hs874 _ hm779
  have hf910 := (ho877 q321 hm790).trans hf856
  have hn912 : q321 ≠ q870 := fun e => hq873 (e ▸ hm790)
  have hm911 := hs874 _ hm790
  have hf913 := (ho877 q322 hm801).trans hf857
  have hn915 : q322 ≠ q870 := fun e => hq873 (e ▸ hm801)
  have hm914 := hs874 _ hm801
  have hf916 := (ho877 q388 hm812).trans hf858
  have hn918 : q388 ≠ q870 := fun e => hq873 (e ▸ hm812)
  have hm917 := hs874 _ hm812
  have hf919 := (ho877 q482 hm823).trans hf859
  have hn921 : q482 ≠ q870 := fun e => hq873 (e ▸ hm823)
  have hm920 := hs874 _ hm823
  have hf922 := (ho877 q582 hm834).trans hf860
  have hn924 : q582 ≠ q870 := fun e => hq873 (e ▸ hm834)
  have hm923 := hs874 _ hm834
  have hf925 := (ho877 q638 hm648).trans hf861
  have hn927 : q638 ≠ q870 := fun e => hq873 (e ▸ hm648)
  have hm926 := hs874 _ hm648
  have hf928 := (ho877 q639 hm651).trans hf862
  have hn930 : q639 ≠ q870 := fun e => hq873 (e ▸ hm651)
  have hm929 := hs874 _ hm651
  have hf931 := (ho877 q640 hm654).trans hf863
  have hn933 : q640 ≠ q870 := fun e => hq873 (e ▸ hm654)
  have hm932 := hs874 _ hm654
  have hf934 := (ho877 q641 hm657).trans hf864
  have hn936 : q641 ≠ q870 := fun e => hq873 (e ▸ hm657)
  have hm935 := hs874 _ hm657
  have hf937 := (ho877 q642 hm660).trans hf865
  have hn939 : q642 ≠ q870 := fun e => hq873 (e ▸ hm660)
  have hm938 := hs874 _ hm660
  have hf940 := (ho877 q643 hm663).trans hf866
  have hn942 : q643 ≠ q870 := fun e => hq873 (e ▸ hm663)
  have hm941 := hs874 _ hm663
  have hf943 := (ho877 q644 hm666).trans hf867
  have hn945 : q644 ≠ q870 := fun e => hq873 (e ▸ hm666)
  have hm944 := hs874 _ hm666
  have hf946 := (ho877 q645 hm669).trans hf868
  have hn948 : q645 ≠ q870 := fun e => hq873 (e ▸ hm669)
  have hm947 := hs874 _ hm669
  have hf949 := (ho877 q646 hm672).trans hf869
  have hn951 : q646 ≠ q870 := fun e => hq873 (e ▸ hm672)
  have hm950 := hs874 _ hm672
  refine lv_dup hx hb dX10_init_107 rfl ?_
  refine call_v (run_IN (rm := { frames := 1, cells := 9, slots := 258, locals := 12 }) hx hb hml hown hts (k_X3_init l g _ _ _ q870 hm875 hf876) cI_X3_init wn_331 ⟨Nat.le_of_ble_eq_true rfl, Nat.le_of_ble_eq_true rfl⟩ hG hE hA hP hD hS rfl hl.1 (As := []) (rest := [.ref q870, .ref x]) rfl (Nat.le_of_ble_eq_true rfl) dX10_init_108 ⟨Nat.le_of_ble_eq_true rfl, Nat.le_of_ble_eq_true rfl⟩) hA hD hS (fun L953 f954 H locs hp955 hP hD hS => ?_)
  obtain ⟨q956, q957, q958, q959, q960, q961, q962, q963, q964, hn965, hm966, hf967, hn968, hm969, hf970, hn971, hm972, hf973, hn974, hm975, hf976, hn977, hm978, hf979, hn980, hm981, hf982, hn983, hm984, hf985, hn986, hm987, hf988, hn989, hm990, hf991, hf992, er993, fr994, sb995⟩ := hp955
  have hN996 : [q956, q957, q958, q959, q960, q961, q962, q963, q964, q870, q638, q639, q640, q641, q642, q643, q644, q645, q646, q582, q482, q388, q321, q322, q280, q236, q201, q143, q91, q45, q21, q1].Nodup := nd_app (l := [q956, q957, q958, q959, q960, q961, q962, q963, q964]) (k := [q870, q638, q639, q640, q641, q642, q643, q644, q645, q646, q582, q482, q388, q321, q322, q280, q236, q201, q143, q91, q45, q21, q1]) er993 (List.forall_mem_cons.mpr ⟨hn965, (List.forall_mem_cons.mpr ⟨hn968, (List.forall_mem_cons.mpr ⟨hn971, (List.forall_mem_cons.mpr ⟨hn974, (List.forall_mem_cons.mpr ⟨hn977, (List.forall_mem_cons.mpr ⟨hn980, (List.forall_mem_cons.mpr ⟨hn983, (List.forall_mem_cons.mpr ⟨hn986, (List.forall_mem_cons.mpr ⟨hn989, (fun _ h => absurd h List.not_mem_nil)⟩)⟩)⟩)⟩)⟩)⟩)⟩)⟩)⟩) hN878 hNs879
  have hNs997 : ∀ b, b ∈ [q956, q957, q958, q959, q960, q961, q962, q963, q964, q870, q638, q639, q640, q641, q642, q643, q644, q645, q646, q582, q482, q388, q321, q322, q280, q236, q201, q143, q91, q45, q21, q1] → b ∈ L953 := fm_app (l := [q956, q957, q958, q959, q960, q961, q962, q963, q964]) (k := [q870, q638, q639, q640, q641, q642, q643, q644, q645, q646, q582, q482, q388, q321, q322, q280, q236, q201, q143, q91, q45, q21, q1]) (List.forall_mem_cons.mpr ⟨hm966, (List.forall_mem_cons.mpr ⟨hm969, (List.forall_mem_cons.mpr ⟨hm972, (List.forall_mem_cons.mpr ⟨hm975, (List.forall_mem_cons.mpr ⟨hm978, (List.forall_mem_cons.mpr ⟨hm981, (List.forall_mem_cons.mpr ⟨hm984, (List.forall_mem_cons.mpr ⟨hm987, (List.forall_mem_cons.mpr ⟨hm990, (fun _ h => absurd h List.not_mem_nil)⟩)⟩)⟩)⟩)⟩)⟩)⟩)⟩)⟩) (fun b hb => sb995 b (hNs879 b hb))
  have hfr998 : ∀ b, b ∈ L → b ≠ x → f954 b = f b := fun b hb z0 => (fr994 b (hsb881 b hb) (fun e => hnq882 (e ▸ hb))).trans (hfr880 b hb z0)
  have hnq1000 : q956 ∉ L := fun h => hn965 (hsb881 _ h)
  have hnq1001 : q957 ∉ L := fun h => hn968 (hsb881 _ h)
  have hnq1002 : q958 ∉ L := fun h => hn971 (hsb881 _ h)
  have hnq1003 : q959 ∉ L := fun h => hn974 (hsb881 _ h)
  have hnq1004 : q960 ∉ L := fun h => hn977 (hsb881 _ h)
  have hnq1005 : q961 ∉ L := fun h => hn980 (hsb881 _ h)
  have hnq1006 : q962 ∉ L := fun h => hn983 (hsb881 _ h)
  have hnq1007 : q963 ∉ L := fun h => hn986 (hsb881 _ h)
  have hnq1008 : q964 ∉ L := fun h => hn989 (hsb881 _ h)
  have hsb999 : ∀ b, b ∈ L → b ∈ L953 := fun b hb => sb995 b (hsb881 b hb)
  have hn1010 : x ≠ q956 := fun e => hn965 (e ▸ hm884)
  have hn1011 : x ≠ q957 := fun e => hn968 (e ▸ hm884)
  have hn1012 : x ≠ q958 := fun e => hn971 (e ▸ hm884)
  have hn1013 : x ≠ q959 := fun e => hn974 (e ▸ hm884)
  have hn1014 : x ≠ q960 := fun e => hn977 (e ▸ hm884)
  have hn1015 : x ≠ q961 := fun e => hn980 (e ▸ hm884)
  have hn1016 : x ≠ q962 := fun e => hn983 (e ▸ hm884)
  have hn1017 : x ≠ q963 := fun e => hn986 (e ▸ hm884)
  have hn1018 : x ≠ q964 := fun e => hn989 (e ▸ hm884)
  have hf1019 := (fr994 x hm884 hn885).trans hf883
  have hm1009 := sb995 _ hm884
  have hn1021 : q1 ≠ q956 := fun e => hn965 (e ▸ hm887)
  have hn1022 : q1 ≠ q957 := fun e => hn968 (e ▸ hm887)
  have hn1023 : q1 ≠ q958 := fun e => hn971 (e ▸ hm887)
  have hn1024 : q1 ≠ q959 := fun e => hn974 (e ▸ hm887)
  have hn1025 : q1 ≠ q960 := fun e => hn977 (e ▸ hm887)
  have hn1026 : q1 ≠ q961 := fun e => hn980 (e ▸ hm887)
  have hn1027 : q1 ≠ q962 := fun e => hn983 (e ▸ hm887)
  have hn1028 : q1 ≠ q963 := fun e => hn986 (e ▸ hm887)
  have hn1029 : q1 ≠ q964 := fun e => hn989 (e ▸ hm887)
  have hf1030 := (fr994 q1 hm887 hn888).trans hf886
  have hm1020 := sb995 _ hm887
  have hn1032 : q21 ≠ q956 := fun e => hn965 (e ▸ hm890)
  have hn1033 : q21 ≠ q957 := fun e => hn968 (e ▸ hm890)
  have hn1034 : q21 ≠ q958 := fun e => hn971 (e ▸ hm890)
  have hn1035 : q21 ≠ q959 := fun e => hn974 (e ▸ hm890)
  have hn1036 : q21 ≠ q960 := fun e => hn977 (e ▸ hm890)
  have hn1037 : q21 ≠ q961 := fun e => hn980 (e ▸ hm890)
  have hn1038 : q21 ≠ q962 := fun e => hn983 (e ▸ hm890)
  have hn1039 : q21 ≠ q963 := fun e => hn986 (e ▸ hm890)
  have hn1040 : q21 ≠ q964 := fun e => hn989 (e ▸ hm890)
  have hf1041 := (fr994 q21 hm890 hn891).trans hf889
  have hm1031 := sb995 _ hm890
  have hn1043 : q45 ≠ q956 := fun e => hn965 (e ▸ hm893)
  have hn1044 : q45 ≠ q957 := fun e => hn968 (e ▸ hm893)
  have hn1045 : q45 ≠ q958 := fun e => hn971 (e ▸ hm893)
  have hn1046 : q45 ≠ q959 := fun e => hn974 (e ▸ hm893)
  have hn1047 : q45 ≠ q960 := fun e => hn977 (e ▸ hm893)
  have hn1048 : q45 ≠ q961 := fun e => hn980 (e ▸ hm893)
  have hn1049 : q45 ≠ q962 := fun e => hn983 (e ▸ hm893)
  have hn1050 : q45 ≠ q963 := fun e => hn986 (e ▸ hm893)
  have hn1051 : q45 ≠ q964 := fun e => hn989 (e ▸ hm893)
  have hf1052 := (fr994 q45 hm893 hn894).trans hf892
  have hm1042 := sb995 _ hm893
  have hn1054 : q91 ≠ q956 := fun e => hn965 (e ▸ hm896)
  have hn1055 : q91 ≠ q957 := fun e => hn968 (e ▸ hm896)
  have hn1056 : q91 ≠ q958 := fun e => hn971 (e ▸ hm896)
  have hn1057 : q91 ≠ q959 := fun e => hn974 (e ▸ hm896)
  have hn1058 : q91 ≠ q960 := fun e => hn977 (e ▸ hm896)
  have hn1059 : q91 ≠ q961 := fun e => hn980 (e ▸ hm896)
  have hn1060 : q91 ≠ q962 := fun e => hn983 (e ▸ hm896)
  have hn1061 : q91 ≠ q963 := fun e => hn986 (e ▸ hm896)
  have hn1062 : q91 ≠ q964 := fun e => hn989 (e ▸ hm896)
  have hf1063 := (fr994 q91 hm896 hn897).trans hf895
  have hm1053 := sb995 _ hm896
  have hn1065 : q143 ≠ q956 := fun e => hn965 (e ▸ hm899)
  have hn1066 : q143 ≠ q957 := fun e => hn968 (e ▸ hm899)
  have hn1067 : q143 ≠ q958 := fun e => hn971 (e ▸ hm899)
  have hn1068 : q143 ≠ q959 := fun e => hn974 (e ▸ hm899)
  have hn1069 : q143 ≠ q960 := fun e => hn977 (e ▸ hm899)
  have hn1070 : q143 ≠ q961 := fun e => hn980 (e ▸ hm899)
  have hn1071 : q143 ≠ q962 := fun e => hn983 (e ▸ hm899)
  have hn1072 : q143 ≠ q963 := fun e => hn986 (e ▸ hm899)
  have hn1073 : q143 ≠ q964 := fun e => hn989 (e ▸ hm899)
  have hf1074 := (fr994 q143 hm899 hn900).trans hf898
  have hm1064 := sb995 _ hm899
  have hn1076 : q201 ≠ q956 := fun e => hn965 (e ▸ hm902)
  have hn1077 : q201 ≠ q957 := fun e => hn968 (e ▸ hm902)
  have hn1078 : q201 ≠ q958 := fun e => hn971 (e ▸ hm902)
  have hn1079 : q201 ≠ q959 := fun e => hn974 (e ▸ hm902)
  have hn1080 : q201 ≠ q960 := fun e => hn977 (e ▸ hm902)
  have hn1081 : q201 ≠ q961 := fun e => hn980 (e ▸ hm902)
  have hn1082 : q201 ≠ q962 := fun e => hn983 (e ▸ hm902)
  have hn1083 : q201 ≠ q963 := fun e => hn986 (e ▸ hm902)
  have hn1084 : q201 ≠ q964 := fun e => hn989 (e ▸ hm902)
  have hf1085 := (fr994 q201 hm902 hn903).trans hf901
  have hm1075 := sb995 _ hm902
  have hn1087 : q236 ≠ q956 := fun e => hn965 (e ▸ hm905)
  have hn1088 : q236 ≠ q957 := fun e => hn968 (e ▸ hm905)
  have hn1089 : q236 ≠ q958 := fun e => hn971 (e ▸ hm905)
  have hn1090 : q236 ≠ q959 := fun e => hn974 (e ▸ hm905)
  have hn1091 : q236 ≠ q960 := fun e => hn977 (e ▸ hm905)
  have hn1092 : q236 ≠ q961 := fun e => hn980 (e ▸ hm905)
  have hn1093 : q236 ≠ q962 := fun e => hn983 (e ▸ hm905)
  have hn1094 : q236 ≠ q963 := fun e => hn986 (e ▸ hm905)
  have hn1095 : q236 ≠ q964 := fun e => hn989 (e ▸ hm905)
  have hf1096 := (fr994 q236 hm905 hn906).trans hf904
  have hm1086 := sb995 _ hm905
  have hn1098 : q280 ≠ q956 := fun e => hn965 (e ▸ hm908)
  have hn1099 : q280 ≠ q957 := fun e => hn968 (e ▸ hm908)
  have hn1100 : q280 ≠ q958 := fun e => hn971 (e ▸ hm908)
  have hn1101 : q280 ≠ q959 := fun e => hn974 (e ▸ hm908)
  have hn1102 : q280 ≠ q960 := fun e => hn977 (e ▸ hm908)
  have hn1103 : q280 ≠ q961 := fun e => hn980 (e ▸ hm908)
  have hn1104 : q280 ≠ q962 := fun e => hn983 (e ▸ hm908)
  have hn1105 : q280 ≠ q963 := fun e => hn986 (e ▸ hm908)
  have hn1106 : q280 ≠ q964 := fun e => hn989 (e ▸ hm908)
  have hf1107 := (fr994 q280 hm908 hn909).trans hf907
  have hm1097 := sb995 _ hm908
  have hn1109 : q321 ≠ q956 := fun e => hn965 (e ▸ hm911)
  have hn1110 : q321 ≠ q957 := fun e => hn968 (e ▸ hm911)
  have hn1111 : q321 ≠ q958 := fun e => hn971 (e ▸ hm911)
  have hn1112 : q321 ≠ q959 := fun e => hn974 (e ▸ hm911)
  have hn1113 : q321 ≠ q960 := fun e => hn977 (e ▸ hm911)
  have hn1114 : q321 ≠ q961 := fun e => hn980 (e ▸ hm911)
  have hn1115 : q321 ≠ q962 := fun e => hn983 (e ▸ hm911)
  have hn1116 : q321 ≠ q963 := fun e => hn986 (e ▸ hm911)
  have hn1117 : q321 ≠ q964 := fun e => hn989 (e ▸ hm911)
  have hf1118 := (fr994 q321 hm911 hn912).trans hf910
  have hm1108 := sb995 _ hm911
  have hn1120 : q322 ≠ q956 := fun e => hn965 (e ▸ hm914)
  have hn1121 : q322 ≠ q957 := fun e => hn968 (e ▸ hm914)
  have hn1122 : q322 ≠ q958 := fun e => hn971 (e ▸ hm914)
  have hn1123 : q322 ≠ q959 := fun e => hn974 (e ▸ hm914)
  have hn1124 : q322 ≠ q960 := fun e => hn977 (e ▸ hm914)
  have hn1125 : q322 ≠ q961 := fun e => hn980 (e ▸ hm914)
  have hn1126 : q322 ≠ q962 := fun e => hn983 (e ▸ hm914)
  have hn1127 : q322 ≠ q963 := fun e => hn986 (e ▸ hm914)
  have hn1128 : q322 ≠ q964 := fun e => hn989 (e ▸ hm914)
  have hf1129 := (fr994 q322 hm914 hn915).trans hf913
  have hm1119 := sb995 _ hm914
  have hn1131 : q388 ≠ q956 := fun e => hn965 (e ▸ hm917)
  have hn1132 : q388 ≠ q957 := fun e => hn968 (e ▸ hm917)
  have hn1133 : q388 ≠ q958 := fun e => hn971 (e ▸ hm917)
  have hn1134 : q388 ≠ q959 := fun e => hn974 (e ▸ hm917)
  have hn1135 : q388 ≠ q960 := fun e => hn977 (e ▸ hm917)
  have hn1136 : q388 ≠ q961 := fun e => hn980 (e ▸ hm917)
  have hn1137 : q388 ≠ q962 := fun e => hn983 (e ▸ hm917)
  have hn1138 : q388 ≠ q963 := fun e => hn986 (e ▸ hm917)
  have hn1139 : q388 ≠ q964 := fun e => hn989 (e ▸ hm917)
  have hf1140 := (fr994 q388 hm917 hn918).trans hf916
  have hm1130 := sb995 _ hm917
  have hn1142 : q482 ≠ q956 := fun e => hn965 (e ▸ hm920)
  have hn1143 : q482 ≠ q957 := fun e => hn968 (e ▸ hm920)
  have hn1144 : q482 ≠ q958 := fun e => hn971 (e ▸ hm920)
  have hn1145 : q482 ≠ q959 := fun e => hn974 (e ▸ hm920)
  have hn1146 : q482 ≠ q960 := fun e => hn977 (e ▸ hm920)
  have hn1147 : q482 ≠ q961 := fun e => hn980 (e ▸ hm920)
  have hn1148 : q482 ≠ q962 := fun e => hn983 (e ▸ hm920)
  have hn1149 : q482 ≠ q963 := fun e => hn986 (e ▸ hm920)
  have hn1150 : q482 ≠ q964 := fun e => hn989 (e ▸ hm920)
  have hf1151 := (fr994 q482 hm920 hn921).trans hf919
  have hm1141 := sb995 _ hm920
  have hn1153 : q582 ≠ q956 := fun e => hn965 (e ▸ hm923)
  have hn1154 : q582 ≠ q957 := fun e => hn968 (e ▸ hm923)
  have hn1155 : q582 ≠ q958 := fun e => hn971 (e ▸ hm923)
  have hn1156 : q582 ≠ q959 := fun e => hn974 (e ▸ hm923)
  have hn1157 : q582 ≠ q960 := fun e => hn977 (e ▸ hm923)
  have hn1158 : q582 ≠ q961 := fun e => hn980 (e ▸ hm923)
  have hn1159 : q582 ≠ q962 := fun e => hn983 (e ▸ hm923)
  have hn1160 : q582 ≠ q963 := fun e => hn986 (e ▸ hm923)
  have hn1161 : q582 ≠ q964 := fun e => hn989 (e ▸ hm923)
  have hf1162 := (fr994 q582 hm923 hn924).trans hf922
  have hm1152 := sb995 _ hm923
  have hn1164 : q638 ≠ q956 := fun e => hn965 (e ▸ hm926)
  have hn1165 : q638 ≠ q957 := fun e => hn968 (e ▸ hm926)
  have hn1166 : q638 ≠ q958 := fun e => hn971 (e ▸ hm926)
  have hn1167 : q638 ≠ q959 := fun e => hn974 (e ▸ hm926)
  have hn1168 : q638 ≠ q960 := fun e => hn977 (e ▸ hm926)
  have hn1169 : q638 ≠ q961 := fun e => hn980 (e ▸ hm926)
  have hn1170 : q638 ≠ q962 := fun e => hn983 (e ▸ hm926)
  have hn1171 : q638 ≠ q963 := fun e => hn986 (e ▸ hm926)
  have hn1172 : q638 ≠ q964 := fun e => hn989 (e ▸ hm926)
  have hf1173 := (fr994 q638 hm926 hn927).trans hf925
  have hm1163 := sb995 _ hm926
  have hn1175 : q639 ≠ q956 := fun e => hn965 (e ▸ hm929)
  have hn1176 : q639 ≠ q957 := fun e => hn968 (e ▸ hm929)
  have hn1177 : q639 ≠ q958 := fun e => hn971 (e ▸ hm929)
  have hn1178 : q639 ≠ q959 := fun e => hn974 (e ▸ hm929)
  have hn1179 : q639 ≠ q960 := fun e => hn977 (e ▸ hm929)
  have hn1180 : q639 ≠ q961 := fun e => hn980 (e ▸ hm929)
  have hn1181 : q639 ≠ q962 := fun e => hn983 (e ▸ hm929)
  have hn1182 : q639 ≠ q963 := fun e => hn986 (e ▸ hm929)
  have hn1183 : q639 ≠ q964 := fun e => hn989 (e ▸ hm929)
  have hf1184 := (fr994 q639 hm929 hn930).trans hf928
  have hm1174 := sb995 _ hm929
  have hn1186 : q640 ≠ q956 := fun e => hn965 (e ▸ hm932)
  have hn1187 : q640 ≠ q957 := fun e => hn968 (e ▸ hm932)
  have hn1188 : q640 ≠ q958 := fun e => hn971 (e ▸ hm932)
  have hn1189 : q640 ≠ q959 := fun e => hn974 (e ▸ hm932)
  have hn1190 : q640 ≠ q960 := fun e => hn977 (e ▸ hm932)
  have hn1191 : q640 ≠ q961 := fun e => hn980 (e ▸ hm932)
  have hn1192 : q640 ≠ q962 := fun e => hn983 (e ▸ hm932)
  have hn1193 : q640 ≠ q963 := fun e => hn986 (e ▸ hm932)
  have hn1194 : q640 ≠ q964 := fun e => hn989 (e ▸ hm932)
  have hf1195 := (fr994 q640 hm932 hn933).trans hf931
  have hm1185 := sb995 _ hm932
  have hn1197 : q641 ≠ q956 := fun e => hn965 (e ▸ hm935)
  have hn1198 : q641 ≠ q957 := fun e => hn968 (e ▸ hm935)
  have hn1199 : q641 ≠ q958 := fun e => hn971 (e ▸ hm935)
  have hn1200 : q641 ≠ q959 := fun e => hn974 (e ▸ hm935)
  have hn1201 : q641 ≠ q960 := fun e => hn977 (e ▸ hm935)
  have hn1202 : q641 ≠ q961 := fun e => hn980 (e ▸ hm935)
  have hn1203 : q641 ≠ q962 := fun e => hn983 (e ▸ hm935)
  have hn1204 : q641 ≠ q963 := fun e => hn986 (e ▸ hm935)
  have hn1205 : q641 ≠ q964 := fun e => hn989 (e ▸ hm935)
  have hf1206 := (fr994 q641 hm935 hn936).trans hf934
  have hm1196 := sb995 _ hm935
  have hn1208 : q642 ≠ q956 := fun e => hn965 (e ▸ hm938)
  have hn1209 : q642 ≠ q957 := fun e => hn968 (e ▸ hm938)
  have hn1210 : q642 ≠ q958 := fun e => hn971 (e ▸ hm938)
  have hn1211 : q642 ≠ q959 := fun e => hn974 (e ▸ hm938)
  have hn1212 : q642 ≠ q960 := fun e => hn977 (e ▸ hm938)
  have hn1213 : q642 ≠ q961 := fun e => hn980 (e ▸ hm938)
  have hn1214 : q642 ≠ q962 := fun e => hn983 (e ▸ hm938)
  have hn1215 : q642 ≠ q963 := fun e => hn986 (e ▸ hm938)
  have hn1216 : q642 ≠ q964 := fun e => hn989 (e ▸ hm938)
  have hf1217 := (fr994 q642 hm938 hn939).trans hf937
  have hm1207 := sb995 _ hm938
  have hn1219 : q643 ≠ q956 := fun e => hn965 (e ▸ hm941)
  have hn1220 : q643 ≠ q957 := fun e => hn968 (e ▸ hm941)
  have hn1221 : q643 ≠ q958 := fun e => hn971 (e ▸ hm941)
  have hn1222 : q643 ≠ q959 := fun e => hn974 (e ▸ hm941)
  have hn1223 : q643 ≠ q960 := fun e => hn977 (e ▸ hm941)
  have hn1224 : q643 ≠ q961 := fun e => hn980 (e ▸ hm941)
  have hn1225 : q643 ≠ q962 := fun e => hn983 (e ▸ hm941)
  have hn1226 : q643 ≠ q963 := fun e => hn986 (e ▸ hm941)
  have hn1227 : q643 ≠ q964 := fun e => hn989 (e ▸ hm941)
  have hf1228 := (fr994 q643 hm941 hn942).trans hf940
  have hm1218 := sb995 _ hm941
  have hn1230 : q644 ≠ q956 := fun e => hn965 (e ▸ hm944)
  have hn1231 : q644 ≠ q957 := fun e => hn968 (e ▸ hm944)
  have hn1232 : q644 ≠ q958 := fun e => hn971 (e ▸ hm944)
  have hn1233 : q644 ≠ q959 := fun e => hn974 (e ▸ hm944)
  have hn1234 : q644 ≠ q960 := fun e => hn977 (e ▸ hm944)
  have hn1235 : q644 ≠ q961 := fun e => hn980 (e ▸ hm944)
  have hn1236 : q644 ≠ q962 := fun e => hn983 (e ▸ hm944)
  have hn1237 : q644 ≠ q963 := fun e => hn986 (e ▸ hm944)
  have hn1238 : q644 ≠ q964 := fun e => hn989 (e ▸ hm944)
  have hf1239 := (fr994 q644 hm944 hn945).trans hf943
  have hm1229 := sb995 _ hm944
  have hn1241 : q645 ≠ q956 := fun e => hn965 (e ▸ hm947)
  have hn1242 : q645 ≠ q957 := fun e => hn968 (e ▸ hm947)
  have hn1243 : q645 ≠ q958 := fun e => hn971 (e ▸ hm947)
  have hn1244 : q645 ≠ q959 := fun e => hn974 (e ▸ hm947)
  have hn1245 : q645 ≠ q960 := fun e => hn977 (e ▸ hm947)
  have hn1246 : q645 ≠ q961 := fun e => hn980 (e ▸ hm947)
  have hn1247 : q645 ≠ q962 := fun e => hn983 (e ▸ hm947)
  have hn1248 : q645 ≠ q963 := fun e => hn986 (e ▸ hm947)
  have hn1249 : q645 ≠ q964 := fun e => hn989 (e ▸ hm947)
  have hf1250 := (fr994 q645 hm947 hn948).trans hf946
  have hm1240 := sb995 _ hm947
  have hn1252 : q646 ≠ q956 := fun e => hn965 (e ▸ hm950)
  have hn1253 : q646 ≠ q957 := fun e => hn968 (e ▸ hm950)
  have hn1254 : q646 ≠ q958 := fun e => hn971 (e ▸ hm950)
  have hn1255 : q646 ≠ q959 := fun e => hn974 (e ▸ hm950)
  have hn1256 : q646 ≠ q960 := fun e => hn977 (e ▸ hm950)
  have hn1257 : q646 ≠ q961 := fun e => hn980 (e ▸ hm950)
  have hn1258 : q646 ≠ q962 := fun e => hn983 (e ▸ hm950)
  have hn1259 : q646 ≠ q963 := fun e => hn986 (e ▸ hm950)
  have hn1260 : q646 ≠ q964 := fun e => hn989 (e ▸ hm950)
  have hf1261 := (fr994 q646 hm950 hn951).trans hf949
  have hm1251 := sb995 _ hm950
  have hn1263 : q870 ≠ q956 := fun e => hn965 (e ▸ hm875)
  have hn1264 : q870 ≠ q957 := fun e => hn968 (e ▸ hm875)
  have hn1265 : q870 ≠ q958 := fun e => hn971 (e ▸ hm875)
  have hn1266 : q870 ≠ q959 := fun e => hn974 (e ▸ hm875)
  have hn1267 : q870 ≠ q960 := fun e => hn977 (e ▸ hm875)
  have hn1268 : q870 ≠ q961 := fun e => hn980 (e ▸ hm875)
  have hn1269 : q870 ≠ q962 := fun e => hn983 (e ▸ hm875)
  have hn1270 : q870 ≠ q963 := fun e => hn986 (e ▸ hm875)
  have hn1271 : q870 ≠ q964 := fun e => hn989 (e ▸ hm875)
  have hm1262 := sb995 _ hm875
  refine pl_putF (ty := (.object "RulerWord$Course")) (v := .ref q870) (fs' := [.ref q1, .ref q45, .ref q91, .ref q143, .ref q201, .ref q280, .ref q388, .ref q482, .ref q582, .ref q870, .null, .null, .null, .null, .null, .int 0, .int 0, .long 0]) hx hb hts (fun w h => mT (inX10 w h)) tyX10 tyX10_ok nmX10 hown hG.1 hP hD hS hm1009 hf1019 rfl 9 (by decide) (hts _ (mT wg_484)) (fun _ h => h) rfl hnm rfl (by decide +kernel) (rfl) (rfl) (Nat.le_of_ble_eq_true rfl) rfl dX10_init_111 (fun H locs f1272 hf1274 ho1273 hP hD hS => ?_)
  have hfr1275 : ∀ b, b ∈ L → b ≠ x → f1272 b = f b := fun b hb z0 => (ho1273 b z0).trans (hfr998 b hb z0)
  have hf1276 := (ho1273 q1 hn16.symm).trans hf1030
  have hf1277 := (ho1273 q21 hn35.symm).trans hf1041
  have hf1278 := (ho1273 q45 hn60.symm).trans hf1052
  have hf1279 := (ho1273 q91 hn106.symm).trans hf1063
  have hf1280 := (ho1273 q143 hn158.symm).trans hf1074
  have hf1281 := (ho1273 q201 hn216.symm).trans hf1085
  have hf1282 := (ho1273 q236 hn250.symm).trans hf1096
  have hf1283 := (ho1273 q280 hn295.symm).trans hf1107
  have hf1284 := (ho1273 q321 hn340.symm).trans hf1118
  have hf1285 := (ho1273 q322 hn341.symm).trans hf1129
  have hf1286 := (ho1273 q388 hn403.symm).trans hf1140
  have hf1287 := (ho1273 q482 hn497.symm).trans hf1151
  have hf1288 := (ho1273 q582 hn597.symm).trans hf1162
  have hf1289 := (ho1273 q638 hn692.symm).trans hf1173
  have hf1290 := (ho1273 q639 hn693.symm).trans hf1184
  have hf1291 := (ho1273 q640 hn694.symm).trans hf1195
  have hf1292 := (ho1273 q641 hn695.symm).trans hf1206
  have hf1293 := (ho1273 q642 hn696.symm).trans hf1217
  have hf1294 := (ho1273 q643 hn697.symm).trans hf1228
  have hf1295 := (ho1273 q644 hn698.symm).trans hf1239
  have hf1296 := (ho1273 q645 hn699.symm).trans hf1250
  have hf1297 := (ho1273 q646 hn700.symm).trans hf1261
  have hf1298 := (ho1273 q870 hn885.symm).trans hf992
  have hf1299 := (ho1273 q956 hn1010.symm).trans hf967
  have hf1300 := (ho1273 q957 hn1011.symm).trans hf970
  have hf1301 := (ho1273 q958 hn1012.symm).trans hf973
  have hf1302 := (ho1273 q959 hn1013.symm).trans hf976
  have hf1303 := (ho1273 q960 hn1014.symm).trans hf979
  have hf1304 := (ho1273 q961 hn1015.symm).trans hf982
  have hf1305 := (ho1273 q962 hn1016.symm).trans hf985
  have hf1306 := (ho1273 q963 hn1017.symm).trans hf988
  have hf1307 := (ho1273 q964 hn1018.symm).trans hf991
  refine lv_aload_n hx hb dX10_init_114 rfl (lv_at hl 0 rfl) ?_
  refine pl_new (ci := 3) (fs := [.int 0, .int 0, .int 0, .int 0, .int 0, .int 0, .int 0, .long 0, .long 0, .null, .null, .null, .null, .null, .null, .null, .null, .null]) (C := RX3) (T := TX3) (N := 18) hx hb hts (fun w h => mT (inX3 w h)) tyX3 tyX3_ok hown (hts _ (mT wg_329)) (hts _ (mT wg_330)) (hts _ (mT wg_165)) hG.1 hP hD hS hA rfl dvX3 (Nat.le_of_ble_eq_true rfl) (Nat.le_of_ble_eq_true rfl) dX10_init_115 (fun q1308 H L1309 f1310 hq1311 hs1312 hm1313 hf1314 ho1315 hP hD hS => ?_)
  have hN1316 : [q1308, q956, q957, q958, q959, q960, q961, q962, q963, q964, q870, q638, q639, q640, q641, q642, q643, q644, q645, q646, q582, q482, q388, q321, q322, q280, q236, q201, q143, q91, q45, q21, q1].Nodup := List.nodup_cons.mpr ⟨fun h => hq1311 (hNs997 _ h), hN996⟩
  have hNs1317 : ∀ b, b ∈ [q1308, q956, q957, q958, q959, q960, q961, q962, q963, q964, q870, q638, q639, q640, q641, q642, q643, q644, q645, q646, q582, q482, q388, q321, q322, q280, q236, q201, q143, q91, q45, q21, q1] → b ∈ L1309 := List.forall_mem_cons.mpr ⟨hm1313, fun b hb => hs1312 b (hNs997 b hb)⟩
  have hfr1318 : ∀ b, b ∈ L → b ≠ x → f1310 b = f b := fun b hb z0 => (ho1315 b (hsb999 b hb)).trans (hfr1275 b hb z0)
  have hnq1320 : q1308 ∉ L := fun h => hq1311 (hsb999 _ h)
  have hsb1319 : ∀ b, b ∈ L → b ∈ _ := fun b hb => hs1312 b (hsb999 b hb)
  have hf1321 := (ho1315 x hm1009).trans hf1274
  have hn1323 : x ≠ q1308 := fun e => hq1311 (e ▸ hm1009)
  have hm1322 := hs1312 _ hm1009
  have hf1324 := (ho1315 q1 hm1020).trans hf1276
  have hn1326 : q1 ≠ q1308 := fun e => hq1311 (e ▸ hm1020)
  have hm1325 := hs1312 _ hm1020
  have hf1327 := (ho1315 q21 hm1031).trans hf1277
  have hn1329 : q21 ≠ q1308 := fun e => hq1311 (e ▸ hm1031)
  have hm1328 := hs1312 _ hm1031
  have hf1330 := (ho1315 q45 hm1042).trans hf1278
  have hn1332 : q45 ≠ q1308 := fun e => hq1311 (e ▸ hm1042)
  have hm1331 := hs1312 _ hm1042
  have hf1333 := (ho1315 q91 hm1053).trans hf1279
  have hn1335 : q91 ≠ q1308 := fun e => hq1311 (e ▸ hm1053)
  have hm1334 := hs1312 _ hm1053
  have hf1336 := (ho1315 q143 hm1064).trans hf1280
  have hn1338 : q143 ≠ q1308 := fun e => hq1311 (e ▸ hm1064)
  have hm1337 := hs1312 _ hm1064
  have hf1339 := (ho1315 q201 hm1075).trans hf1281
  have hn1341 : q201 ≠ q1308 := fun e => hq1311 (e ▸ hm1075)
  have hm1340 := hs1312 _ hm1075
  have hf1342 := (ho1315 q236 hm1086).trans hf1282
  have hn1344 : q236 ≠ q1308 := fun e => hq1311 (e ▸ hm1086)
  have hm1343 := hs1312 _ hm1086
  have hf1345 := (ho1315 q280 hm1097).trans hf1283
  have hn1347 : q280 ≠ q1308 := fun e => hq1311 (e ▸ hm1097)
  have hm1346 := hs1312 _ hm1097
  have hf1348 := (ho1315 q321 hm1108).trans hf1284
  have hn1350 : q321 ≠ q1308 := fun e => hq1311 (e ▸ hm1108)
  have hm1349 := hs1312 _ hm1108
  have hf1351 := (ho1315 q322 hm1119).trans hf1285
  have hn1353 : q322 ≠ q1308 := fun e => hq1311 (e ▸ hm1119)
  have hm1352 := hs1312 _ hm1119
  have hf1354 := (ho1315 q388 hm1130).trans hf1286
  have hn1356 : q388 ≠ q1308 := fun e => hq1311 (e ▸ hm1130)
  have hm1355 := hs1312 _ hm1130
  have hf1357 := (ho1315 q482 hm1141).trans hf1287
  have hn1359 : q482 ≠ q1308 := fun e => hq1311 (e ▸ hm1141)
  have hm1358 := hs1312 _ hm1141
  have hf1360 := (ho1315 q582 hm1152).trans hf1288
  have hn1362 : q582 ≠ q1308 := fun e => hq1311 (e ▸ hm1152)
  have hm1361 := hs1312 _ hm1152
  have hf1363 := (ho1315 q638 hm1163).trans hf1289
  have hn1365 : q638 ≠ q1308 := fun e => hq1311 (e ▸ hm1163)
  have hm1364 := hs1312 _ hm1163
  have hf1366 := (ho1315 q639 hm1174).trans hf1290
  have hn1368 : q639 ≠ q1308 := fun e => hq1311 (e ▸ hm1174)
  have hm1367 := hs1312 _ hm1174
  have hf1369 := (ho1315 q640 hm1185).trans hf1291
  have hn1371 : q640 ≠ q1308 := fun e => hq1311 (e ▸ hm1185)
  have hm1370 := hs1312 _ hm1185
  have hf1372 := (ho1315 q641 hm1196).trans hf1292
  have hn1374 : q641 ≠ q1308 := fun e => hq1311 (e ▸ hm1196)
  have hm1373 := hs1312 _ hm1196
  have hf1375 := (ho1315 q642 hm1207).trans hf1293
  have hn1377 : q642 ≠ q1308 := fun e => hq1311 (e ▸ hm1207)
  have hm1376 := hs1312 _ hm1207
  have hf1378 := (ho1315 q643 hm1218).trans hf1294
  have hn1380 : q643 ≠ q1308 := fun e => hq1311 (e ▸ hm1218)
  have hm1379 := hs1312 _ hm1218
  have hf1381 := (ho1315 q644 hm1229).trans hf1295
  have hn1383 : q644 ≠ q1308 := fun e => hq1311 (e ▸ hm1229)
  have hm1382 := hs1312 _ hm1229
  have hf1384 := (ho1315 q645 hm1240).trans hf1296
  have hn1386 : q645 ≠ q1308 := fun e => hq1311 (e ▸ hm1240)
  have hm1385 := hs1312 _ hm1240
  have hf1387 := (ho1315 q646 hm1251).trans hf1297
  have hn1389 : q646 ≠ q1308 := fun e => hq1311 (e ▸ hm1251)
  have hm1388 := hs1312 _ hm1251
  have hf1390 := (ho1315 q870 hm1262).trans hf1298
  have hn1392 : q870 ≠ q1308 := fun e => hq1311 (e ▸ hm1262)
  have hm1391 := hs1312 _ hm1262
  have hf1393 := (ho1315 q956 hm966).trans hf1299
  have hn1395 : q956 ≠ q1308 := fun e => hq1311 (e ▸ hm966)
  have hm1394 := hs1312 _ hm966
  have hf1396 := (ho1315 q957 hm969).trans hf1300
  have hn1398 : q957 ≠ q1308 := fun e => hq1311 (e ▸ hm969)
  have hm1397 := hs1312 _ hm969
  have hf1399 := (ho1315 q958 hm972).trans hf1301
  have hn1401 : q958 ≠ q1308 := fun e => hq1311 (e ▸ hm972)
  have hm1400 := hs1312 _ hm972
  have hf1402 := (ho1315 q959 hm975).trans hf1302
  have hn1404 : q959 ≠ q1308 := fun e => hq1311 (e ▸ hm975)
  have hm1403 := hs1312 _ hm975
  have hf1405 := (ho1315 q960 hm978).trans hf1303
  have hn1407 : q960 ≠ q1308 := fun e => hq1311 (e ▸ hm978)
  have hm1406 := hs1312 _ hm978
  have hf1408 := (ho1315 q961 hm981).trans hf1304
  have hn1410 : q961 ≠ q1308 := fun e => hq1311 (e ▸ hm981)
  have hm1409 := hs1312 _ hm981
  have hf1411 := (ho1315 q962 hm984).trans hf1305
  have hn1413 : q962 ≠ q1308 := fun e => hq1311 (e ▸ hm984)
  have hm1412 := hs1312 _ hm984
  have hf1414 := (ho1315 q963 hm987).trans hf1306
  have hn1416 : q963 ≠ q1308 := fun e => hq1311 (e ▸ hm987)
  have hm1415 := hs1312 _ hm987
  have hf1417 := (ho1315 q964 hm990).trans hf1307
  have hn1419 : q964 ≠ q1308 := fun e => hq1311 (e ▸ hm990)
  have hm1418 := hs1312 _ hm990
  refine lv_dup hx hb dX10_init_118 rfl ?_
  refine call_v (run_IN (rm := { frames := 1, cells := 9, slots := 258, locals := 12 }) hx hb hml hown hts (k_X3_init l g _ _ _ q1308 hm1313 hf1314) cI_X3_init wn_331 ⟨Nat.le_of_ble_eq_true rfl, Nat.le_of_ble_eq_true rfl⟩ hG hE hA hP hD hS rfl hl.1 (As := []) (rest := [.ref q1308, .ref x]) rfl (Nat.le_of_ble_eq_true rfl) dX10_init_119 ⟨Nat.le_of_ble_eq_true rfl, Nat.le_of_ble_eq_true rfl⟩) hA hD hS (fun L1421 f1422 H locs hp1423 hP hD hS => ?_)
  obtain ⟨q1424, q1425, q1426, q1427, q1428, q1429, q1430, q1431, q1432, hn1433, hm1434, hf1435, hn1436, hm1437, hf1438, hn1439, hm1440, hf1441, hn1442, hm1443, hf1444, hn1445, hm1446, hf1447, hn1448, hm1449, hf1450, hn1451, hm1452, hf1453, hn1454, hm1455, hf1456, hn1457, hm1458, hf1459, hf1460, er1461, fr1462, sb1463⟩ := hp1423
  have hN1464 : [q1424, q1425, q1426, q1427, q1428, q1429, q1430, q1431, q1432, q1308, q956, q957, q958, q959, q960, q961, q962, q963, q964, q870, q638, q639, q640, q641, q642, q643, q644, q645, q646, q582, q482, q388, q321, q322, q280, q236, q201, q143, q91, q45, q21, q1].Nodup := nd_app (l := [q1424, q1425, q1426, q1427, q1428, q1429, q1430, q1431, q1432]) (k := [q1308, q956, q957, q958, q959, q960, q961, q962, q963, q964, q870, q638, q639, q640, q641, q642, q643, q644, q645, q646, q582, q482, q388, q321, q322, q280, q236, q201, q143, q91, q45, q21, q1]) er1461 (List.forall_mem_cons.mpr ⟨hn1433, (List.forall_mem_cons.mpr ⟨hn1436, (List.forall_mem_cons.mpr ⟨hn1439, (List.forall_mem_cons.mpr ⟨hn1442, (List.forall_mem_cons.mpr ⟨hn1445, (List.forall_mem_cons.mpr ⟨hn1448, (List.forall_mem_cons.mpr ⟨hn1451, (List.forall_mem_cons.mpr ⟨hn1454, (List.forall_mem_cons.mpr ⟨hn1457, (fun _ h => absurd h List.not_mem_nil)⟩)⟩)⟩)⟩)⟩)⟩)⟩)⟩)⟩) hN1316 hNs1317
  have hNs1465 : ∀ b, b ∈ [q1424, q1425, q1426, q1427, q1428, q1429, q1430, q1431, q1432, q1308, q956, q957, q958, q959, q960, q961, q962, q963, q964, q870, q638, q639, q640, q641, q642, q643, q644, q645, q646, q582, q482, q388, q321, q322, q280, q236, q201, q143, q91, q45, q21, q1] → b ∈ L1421 := fm_app (l := [q1424, q1425, q1426, q1427, q1428, q1429, q1430, q1431, q1432]) (k := [q1308, q956, q957, q958, q959, q960, q961, q962, q963, q964, q870, q638, q639, q640, q641, q642, q643, q644, q645, q646, q582, q482, q388, q321, q322, q280, q236, q201, q143, q91, q45, q21, q1]) (List.forall_mem_cons.mpr ⟨hm1434, (List.forall_mem_cons.mpr ⟨hm1437, (List.forall_mem_cons.mpr ⟨hm1440, (List.forall_mem_cons.mpr ⟨hm1443, (List.forall_mem_cons.mpr ⟨hm1446, (List.forall_mem_cons.mpr ⟨hm1449, (List.forall_mem_cons.mpr ⟨hm1452, (List.forall_mem_cons.mpr ⟨hm1455, (List.forall_mem_cons.mpr ⟨hm1458, (fun _ h => absurd h List.not_mem_nil)⟩)⟩)⟩)⟩)⟩)⟩)⟩)⟩)⟩) (fun b hb => sb1463 b (hNs1317 b hb))
  have hfr1466 : ∀ b, b ∈ L → b ≠ x → f1422 b = f b := fun b hb z0 => (fr1462 b (hsb1319 b hb) (fun e => hnq1320 (e ▸ hb))).trans (hfr1318 b hb z0)
  have hnq1468 : q1424 ∉ L := fun h => hn1433 (hsb1319 _ h)
  have hnq1469 : q1425 ∉ L := fun h => hn1436 (hsb1319 _ h)
  have hnq1470 : q1426 ∉ L := fun h => hn1439 (hsb1319 _ h)
  have hnq1471 : q1427 ∉ L := fun h => hn1442 (hsb1319 _ h)
  have hnq1472 : q1428 ∉ L := fun h => hn1445 (hsb1319 _ h)
  have hnq1473 : q1429 ∉ L := fun h => hn1448 (hsb1319 _ h)
  have hnq1474 : q1430 ∉ L := fun h => hn1451 (hsb1319 _ h)
  have hnq1475 : q1431 ∉ L := fun h => hn1454 (hsb1319 _ h)
  have hnq1476 : q1432 ∉ L := fun h => hn1457 (hsb1319 _ h)
  have hsb1467 : ∀ b, b ∈ L → b ∈ L1421 := fun b hb => sb1463 b (hsb1319 b hb)
  have hn1478 : x ≠ q1424 := fun e => hn1433 (e ▸ hm1322)
  have hn1479 : x ≠ q1425 := fun e => hn1436 (e ▸ hm1322)
  have hn1480 : x ≠ q1426 := fun e => hn1439 (e ▸ hm1322)
  have hn1481 : x ≠ q1427 := fun e => hn1442 (e ▸ hm1322)
  have hn1482 : x ≠ q1428 := fun e => hn1445 (e ▸ hm1322)
  have hn1483 : x ≠ q1429 := fun e => hn1448 (e ▸ hm1322)
  have hn1484 : x ≠ q1430 := fun e => hn1451 (e ▸ hm1322)
  have hn1485 : x ≠ q1431 := fun e => hn1454 (e ▸ hm1322)
  have hn1486 : x ≠ q1432 := fun e => hn1457 (e ▸ hm1322)
  have hf1487 := (fr1462 x hm1322 hn1323).trans hf1321
  have hm1477 := sb1463 _ hm1322
  have hn1489 : q1 ≠ q1424 := fun e => hn1433 (e ▸ hm1325)
  have hn1490 : q1 ≠ q1425 := fun e => hn1436 (e ▸ hm1325)
  have hn1491 : q1 ≠ q1426 := fun e => hn1439 (e ▸ hm1325)
  have hn1492 : q1 ≠ q1427 := fun e => hn1442 (e ▸ hm1325)
  have hn1493 : q1 ≠ q1428 := fun e => hn1445 (e ▸ hm1325)
  have hn1494 : q1 ≠ q1429 := fun e => hn1448 (e ▸ hm1325)
  have hn1495 : q1 ≠ q1430 := fun e => hn1451 (e ▸ hm1325)
  have hn1496 : q1 ≠ q1431 := fun e => hn1454 (e ▸ hm1325)
  have hn1497 : q1 ≠ q1432 := fun e => hn1457 (e ▸ hm1325)
  have hf1498 := (fr1462 q1 hm1325 hn1326).trans hf1324
  have hm1488 := sb1463 _ hm1325
  have hn1500 : q21 ≠ q1424 := fun e => hn1433 (e ▸ hm1328)
  have hn1501 : q21 ≠ q1425 := fun e => hn1436 (e ▸ hm1328)
  have hn1502 : q21 ≠ q1426 := fun e => hn1439 (e ▸ hm1328)
  have hn1503 : q21 ≠ q1427 := fun e => hn1442 (e ▸ hm1328)
  have hn1504 : q21 ≠ q1428 := fun e => hn1445 (e ▸ hm1328)
  have hn1505 : q21 ≠ q1429 := fun e => hn1448 (e ▸ hm1328)
  have hn1506 : q21 ≠ q1430 := fun e => hn1451 (e ▸ hm1328)
  have hn1507 : q21 ≠ q1431 := fun e => hn1454 (e ▸ hm1328)
  have hn1508 : q21 ≠ q1432 := fun e => hn1457 (e ▸ hm1328)
  have hf1509 := (fr1462 q21 hm1328 hn1329).trans hf1327
  have hm1499 := sb1463 _ hm1328
  have hn1511 : q45 ≠ q1424 := fun e => hn1433 (e ▸ hm1331)
  have hn1512 : q45 ≠ q1425 := fun e => hn1436 (e ▸ hm1331)
  have hn1513 : q45 ≠ q1426 := fun e => hn1439 (e ▸ hm1331)
  have hn1514 : q45 ≠ q1427 := fun e => hn1442 (e ▸ hm1331)
  have hn1515 : q45 ≠ q1428 := fun e => hn1445 (e ▸ hm1331)
  have hn1516 : q45 ≠ q1429 := fun e => hn1448 (e ▸ hm1331)
  have hn1517 : q45 ≠ q1430 := fun e => hn1451 (e ▸ hm1331)
  have hn1518 : q45 ≠ q1431 := fun e => hn1454 (e ▸ hm1331)
  have hn1519 : q45 ≠ q1432 := fun e => hn1457 (e ▸ hm1331)
  have hf1520 := (fr1462 q45 hm1331 hn1332).trans hf1330
  have hm1510 := sb1463 _ hm1331
  have hn1522 : q91 ≠ q1424 := fun e => hn1433 (e ▸ hm1334)
  have hn1523 : q91 ≠ q1425 := fun e => hn1436 (e ▸ hm1334)
  have hn1524 : q91 ≠ q1426 := fun e => hn1439 (e ▸ hm1334)
  have hn1525 : q91 ≠ q1427 := fun e => hn1442 (e ▸ hm1334)
  have hn1526 : q91 ≠ q1428 := fun e => hn1445 (e ▸ hm1334)
  have hn1527 : q91 ≠ q1429 := fun e => hn1448 (e ▸ hm1334)
  have hn1528 : q91 ≠ q1430 := fun e => hn1451 (e ▸ hm1334)
  have hn1529 : q91 ≠ q1431 := fun e => hn1454 (e ▸ hm1334)
  have hn1530 : q91 ≠ q1432 := fun e => hn1457 (e ▸ hm1334)
  have hf1531 := (fr1462 q91 hm1334 hn1335).trans hf1333
  have hm1521 := sb1463 _ hm1334
  have hn1533 : q143 ≠ q1424 := fun e => hn1433 (e ▸ hm1337)
  have hn1534 : q143 ≠ q1425 := fun e => hn1436 (e ▸ hm1337)
  have hn1535 : q143 ≠ q1426 := fun e => hn1439 (e ▸ hm1337)
  have hn1536 : q143 ≠ q1427 := fun e => hn1442 (e ▸ hm1337)
  have hn1537 : q143 ≠ q1428 := fun e => hn1445 (e ▸ hm1337)
  have hn1538 : q143 ≠ q1429 := fun e => hn1448 (e ▸ hm1337)
  have hn1539 : q143 ≠ q1430 := fun e => hn1451 (e ▸ hm1337)
  have hn1540 : q143 ≠ q1431 := fun e => hn1454 (e ▸ hm1337)
  have hn1541 : q143 ≠ q1432 := fun e => hn1457 (e ▸ hm1337)
  have hf1542 := (fr1462 q143 hm1337 hn1338).trans hf1336
  have hm1532 := sb1463 _ hm1337
  have hn1544 : q201 ≠ q1424 := fun e => hn1433 (e ▸ hm1340)
  have hn1545 : q201 ≠ q1425 := fun e => hn1436 (e ▸ hm1340)
  have hn1546 : q201 ≠ q1426 := fun e => hn1439 (e ▸ hm1340)
  have hn1547 : q201 ≠ q1427 := fun e => hn1442 (e ▸ hm1340)
  have hn1548 : q201 ≠ q1428 := fun e => hn1445 (e ▸ hm1340)
  have hn1549 : q201 ≠ q1429 := fun e => hn1448 (e ▸ hm1340)
  have hn1550 : q201 ≠ q1430 := fun e => hn1451 (e ▸ hm1340)
  have hn1551 : q201 ≠ q1431 := fun e => hn1454 (e ▸ hm1340)
  have hn1552 : q201 ≠ q1432 := fun e => hn1457 (e ▸ hm1340)
  have hf1553 := (fr1462 q201 hm1340 hn1341).trans hf1339
  have hm1543 := sb1463 _ hm1340
  have hn1555 : q236 ≠ q1424 := fun e => hn1433 (e ▸ hm1343)
  have hn1556 : q236 ≠ q1425 := fun e => hn1436 (e ▸ hm1343)
  have hn1557 : q236 ≠ q1426 := fun e => hn1439 (e ▸ hm1343)
  have hn1558 : q236 ≠ q1427 := fun e => hn1442 (e ▸ hm1343)
  have hn1559 : q236 ≠ q1428 := fun e => hn1445 (e ▸ hm1343)
  have hn1560 : q236 ≠ q1429 := fun e => hn1448 (e ▸ hm1343)
  have hn1561 : q236 ≠ q1430 := fun e => hn1451 (e ▸ hm1343)
  have hn1562 : q236 ≠ q1431 := fun e => hn1454 (e ▸ hm1343)
  have hn1563 : q236 ≠ q1432 := fun e => hn1457 (e ▸ hm1343)
  have hf1564 := (fr1462 q236 hm1343 hn1344).trans hf1342
  have hm1554 := sb1463 _ hm1343
  have hn1566 : q280 ≠ q1424 := fun e => hn1433 (e ▸ hm1346)
  have hn1567 : q280 ≠ q1425 := fun e => hn1436 (e ▸ hm1346)
  have hn1568 : q280 ≠ q1426 := fun e => hn1439 (e ▸ hm1346)
  have hn1569 : q280 ≠ q1427 := fun e => hn1442 (e ▸ hm1346)
  have hn1570 : q280 ≠ q1428 := fun e => hn1445 (e ▸ hm1346)
  have hn1571 : q280 ≠ q1429 := fun e => hn1448 (e ▸ hm1346)
  have hn1572 : q280 ≠ q1430 := fun e => hn1451 (e ▸ hm1346)
  have hn1573 : q280 ≠ q1431 := fun e => hn1454 (e ▸ hm1346)
  have hn1574 : q280 ≠ q1432 := fun e => hn1457 (e ▸ hm1346)
  have hf1575 := (fr1462 q280 hm1346 hn1347).trans hf1345
  have hm1565 := sb1463 _ hm1346
  have hn1577 : q321 ≠ q1424 := fun e => hn1433 (e ▸ hm1349)
  have hn1578 : q321 ≠ q1425 := fun e => hn1436 (e ▸ hm1349)
  have hn1579 : q321 ≠ q1426 := fun e => hn1439 (e ▸ hm1349)
  have hn1580 : q321 ≠ q1427 := fun e => hn1442 (e ▸ hm1349)
  have hn1581 : q321 ≠ q1428 := fun e => hn1445 (e ▸ hm1349)
  have hn1582 : q321 ≠ q1429 := fun e => hn1448 (e ▸ hm1349)
  have hn1583 : q321 ≠ q1430 := fun e => hn1451 (e ▸ hm1349)
  have hn1584 : q321 ≠ q1431 := fun e => hn1454 (e ▸ hm1349)
  have hn1585 : q321 ≠ q1432 := fun e => hn1457 (e ▸ hm1349)
  have hf1586 := (fr1462 q321 hm1349 hn1350).trans hf1348
  have hm1576 := sb1463 _ hm1349
  have hn1588 : q322 ≠ q1424 := fun e => hn1433 (e ▸ hm1352)
  have hn1589 : q322 ≠ q1425 := fun e => hn1436 (e ▸ hm1352)
  have hn1590 : q322 ≠ q1426 := fun e => hn1439 (e ▸ hm1352)
  have hn1591 : q322 ≠ q1427 := fun e => hn1442 (e ▸ hm1352)
  have hn1592 : q322 ≠ q1428 := fun e => hn1445 (e ▸ hm1352)
  have hn1593 : q322 ≠ q1429 := fun e => hn1448 (e ▸ hm1352)
  have hn1594 : q322 ≠ q1430 := fun e => hn1451 (e ▸ hm1352)
  have hn1595 : q322 ≠ q1431 := fun e => hn1454 (e ▸ hm1352)
  have hn1596 : q322 ≠ q1432 := fun e => hn1457 (e ▸ hm1352)
  have hf1597 := (fr1462 q322 hm1352 hn1353).trans hf1351
  have hm1587 := sb1463 _ hm1352
  have hn1599 : q388 ≠ q1424 := fun e => hn1433 (e ▸ hm1355)
  have hn1600 : q388 ≠ q1425 := fun e => hn1436 (e ▸ hm1355)
  have hn1601 : q388 ≠ q1426 := fun e => hn1439 (e ▸ hm1355)
  have hn1602 : q388 ≠ q1427 := fun e => hn1442 (e ▸ hm1355)
  have hn1603 : q388 ≠ q1428 := fun e => hn1445 (e ▸ hm1355)
  have hn1604 : q388 ≠ q1429 := fun e => hn1448 (e ▸ hm1355)
  have hn1605 : q388 ≠ q1430 := fun e => hn1451 (e ▸ hm1355)
  have hn1606 : q388 ≠ q1431 := fun e => hn1454 (e ▸ hm1355)
  have hn1607 : q388 ≠ q1432 := fun e => hn1457 (e ▸ hm1355)
  have hf1608 := (fr1462 q388 hm1355 hn1356).trans hf1354
  have hm1598 := sb1463 _ hm1355
  have hn1610 : q482 ≠ q1424 := fun e => hn1433 (e ▸ hm1358)
  have hn1611 : q482 ≠ q1425 := fun e => hn1436 (e ▸ hm1358)
  have hn1612 : q482 ≠ q1426 := fun e => hn1439 (e ▸ hm1358)
  have hn1613 : q482 ≠ q1427 := fun e => hn1442 (e ▸ hm1358)
  have hn1614 : q482 ≠ q1428 := fun e => hn1445 (e ▸ hm1358)
  have hn1615 : q482 ≠ q1429 := fun e => hn1448 (e ▸ hm1358)
  have hn1616 : q482 ≠ q1430 := fun e => hn1451 (e ▸ hm1358)
  have hn1617 : q482 ≠ q1431 := fun e => hn1454 (e ▸ hm1358)
  have hn1618 : q482 ≠ q1432 := fun e => hn1457 (e ▸ hm1358)
  have hf1619 := (fr1462 q482 hm1358 hn1359).trans hf1357
  have hm1609 := sb1463 _ hm1358
  have hn1621 : q582 ≠ q1424 := fun e => hn1433 (e ▸ hm1361)
  have hn1622 : q582 ≠ q1425 := fun e => hn1436 (e ▸ hm1361)
  have hn1623 : q582 ≠ q1426 := fun e => hn1439 (e ▸ hm1361)
  have hn1624 : q582 ≠ q1427 := fun e => hn1442 (e ▸ hm1361)
  have hn1625 : q582 ≠ q1428 := fun e => hn1445 (e ▸ hm1361)
  have hn1626 : q582 ≠ q1429 := fun e => hn1448 (e ▸ hm1361)
  have hn1627 : q582 ≠ q1430 := fun e => hn1451 (e ▸ hm1361)
  have hn1628 : q582 ≠ q1431 := fun e => hn1454 (e ▸ hm1361)
  have hn1629 : q582 ≠ q1432 := fun e => hn1457 (e ▸ hm1361)
  have hf1630 := (fr1462 q582 hm1361 hn1362).trans hf1360
  have hm1620 := sb1463 _ hm1361
  have hn1632 : q638 ≠ q1424 := fun e => hn1433 (e ▸ hm1364)
  have hn1633 : q638 ≠ q1425 := fun e => hn1436 (e ▸ hm1364)
  have hn1634 : q638 ≠ q1426 := fun e => hn1439 (e ▸ hm1364)
  have hn1635 : q638 ≠ q1427 := fun e => hn1442 (e ▸ hm1364)
  have hn1636 : q638 ≠ q1428 := fun e => hn1445 (e ▸ hm1364)
  have hn1637 : q638 ≠ q1429 := fun e => hn1448 (e ▸ hm1364)
  have hn1638 : q638 ≠ q1430 := fun e => hn1451 (e ▸ hm1364)
  have hn1639 : q638 ≠ q1431 := fun e => hn1454 (e ▸ hm1364)
  have hn1640 : q638 ≠ q1432 := fun e => hn1457 (e ▸ hm1364)
  have hf1641 := (fr1462 q638 hm1364 hn1365).trans hf1363
  have hm1631 := sb1463 _ hm1364
  have hn1643 : q639 ≠ q1424 := fun e => hn1433 (e ▸ hm1367)
  have hn1644 : q639 ≠ q1425 := fun e => hn1436 (e ▸ hm1367)
  have hn1645 : q639 ≠ q1426 := fun e => hn1439 (e ▸ hm1367)
  have hn1646 : q639 ≠ q1427 := fun e => hn1442 (e ▸ hm1367)
  have hn1647 : q639 ≠ q1428 := fun e => hn1445 (e ▸ hm1367)
  have hn1648 : q639 ≠ q1429 := fun e => hn1448 (e ▸ hm1367)
  have hn1649 : q639 ≠ q1430 := fun e => hn1451 (e ▸ hm1367)
  have hn1650 : q639 ≠ q1431 := fun e => hn1454 (e ▸ hm1367)
  have hn1651 : q639 ≠ q1432 := fun e => hn1457 (e ▸ hm1367)
  have hf1652 := (fr1462 q639 hm1367 hn1368).trans hf1366
  have hm1642 := sb1463 _ hm1367
  have hn1654 : q640 ≠ q1424 := fun e => hn1433 (e ▸ hm1370)
  have hn1655 : q640 ≠ q1425 := fun e => hn1436 (e ▸ hm1370)
  have hn1656 : q640 ≠ q1426 := fun e => hn1439 (e ▸ hm1370)
  have hn1657 : q640 ≠ q1427 := fun e => hn1442 (e ▸ hm1370)
  have hn1658 : q640 ≠ q1428 := fun e => hn1445 (e ▸ hm1370)
  have hn1659 : q640 ≠ q1429 := fun e => hn1448 (e ▸ hm1370)
  have hn1660 : q640 ≠ q1430 := fun e => hn1451 (e ▸ hm1370)
  have hn1661 : q640 ≠ q1431 := fun e => hn1454 (e ▸ hm1370)
  have hn1662 : q640 ≠ q1432 := fun e => hn1457 (e ▸ hm1370)
  have hf1663 := (fr1462 q640 hm1370 hn1371).trans hf1369
  have hm1653 := sb1463 _ hm1370
  have hn1665 : q641 ≠ q1424 := fun e => hn1433 (e ▸ hm1373)
  have hn1666 : q641 ≠ q1425 := fun e => hn1436 (e ▸ hm1373)
  have hn1667 : q641 ≠ q1426 := fun e => hn1439 (e ▸ hm1373)
  have hn1668 : q641 ≠ q1427 := fun e => hn1442 (e ▸ hm1373)
  have hn1669 : q641 ≠ q1428 := fun e => hn1445 (e ▸ hm1373)
  have hn1670 : q641 ≠ q1429 := fun e => hn1448 (e ▸ hm1373)
  have hn1671 : q641 ≠ q1430 := fun e => hn1451 (e ▸ hm1373)
  have hn1672 : q641 ≠ q1431 := fun e => hn1454 (e ▸ hm1373)
  have hn1673 : q641 ≠ q1432 := fun e => hn1457 (e ▸ hm1373)
  have hf1674 := (fr1462 q641 hm1373 hn1374).trans hf1372
  have hm1664 := sb1463 _ hm1373
  have hn1676 : q642 ≠ q1424 := fun e => hn1433 (e ▸ hm1376)
  have hn1677 : q642 ≠ q1425 := fun e => hn1436 (e ▸ hm1376)
  have hn1678 : q642 ≠ q1426 := fun e => hn1439 (e ▸ hm1376)
  have hn1679 : q642 ≠ q1427 := fun e => hn1442 (e ▸ hm1376)
  have hn1680 : q642 ≠ q1428 := fun e => hn1445 (e ▸ hm1376)
  have hn1681 : q642 ≠ q1429 := fun e => hn1448 (e ▸ hm1376)
  have hn1682 : q642 ≠ q1430 := fun e => hn1451 (e ▸ hm1376)
  have hn1683 : q642 ≠ q1431 := fun e => hn1454 (e ▸ hm1376)
  have hn1684 : q642 ≠ q1432 := fun e => hn1457 (e ▸ hm1376)
  have hf1685 := (fr1462 q642 hm1376 hn1377).trans hf1375
  have hm1675 := sb1463 _ hm1376
  have hn1687 : q643 ≠ q1424 := fun e => hn1433 (e ▸ hm1379)
  have hn1688 : q643 ≠ q1425 := fun e => hn1436 (e ▸ hm1379)
  have hn1689 : q643 ≠ q1426 := fun e => hn1439 (e ▸ hm1379)
  have hn1690 : q643 ≠ q1427 := fun e => hn1442 (e ▸ hm1379)
  have hn1691 : q643 ≠ q1428 := fun e => hn1445 (e ▸ hm1379)
  have hn1692 : q643 ≠ q1429 := fun e => hn1448 (e ▸ hm1379)
  have hn1693 : q643 ≠ q1430 := fun e => hn1451 (e ▸ hm1379)
  have hn1694 : q643 ≠ q1431 := fun e => hn1454 (e ▸ hm1379)
  have hn1695 : q643 ≠ q1432 := fun e => hn1457 (e ▸ hm1379)
  have hf1696 := (fr1462 q643 hm1379 hn1380).trans hf1378
  have hm1686 := sb1463 _ hm1379
  have hn1698 : q644 ≠ q1424 := fun e => hn1433 (e ▸ hm1382)
  have hn1699 : q644 ≠ q1425 := fun e => hn1436 (e ▸ hm1382)
  have hn1700 : q644 ≠ q1426 := fun e => hn1439 (e ▸ hm1382)
  have hn1701 : q644 ≠ q1427 := fun e => hn1442 (e ▸ hm1382)
  have hn1702 : q644 ≠ q1428 := fun e => hn1445 (e ▸ hm1382)
  have hn1703 : q644 ≠ q1429 := fun e => hn1448 (e ▸ hm1382)
  have hn1704 : q644 ≠ q1430 := fun e => hn1451 (e ▸ hm1382)
  have hn1705 : q644 ≠ q1431 := fun e => hn1454 (e ▸ hm1382)
  have hn1706 : q644 ≠ q1432 := fun e => hn1457 (e ▸ hm1382)
  have hf1707 := (fr1462 q644 hm1382 hn1383).trans hf1381
  have hm1697 := sb1463 _ hm1382
  have hn1709 : q645 ≠ q1424 := fun e => hn1433 (e ▸ hm1385)
  have hn1710 : q645 ≠ q1425 := fun e => hn1436 (e ▸ hm1385)
  have hn1711 : q645 ≠ q1426 := fun e => hn1439 (e ▸ hm1385)
  have hn1712 : q645 ≠ q1427 := fun e => hn1442 (e ▸ hm1385)
  have hn1713 : q645 ≠ q1428 := fun e => hn1445 (e ▸ hm1385)
  have hn1714 : q645 ≠ q1429 := fun e => hn1448 (e ▸ hm1385)
  have hn1715 : q645 ≠ q1430 := fun e => hn1451 (e ▸ hm1385)
  have hn1716 : q645 ≠ q1431 := fun e => hn1454 (e ▸ hm1385)
  have hn1717 : q645 ≠ q1432 := fun e => hn1457 (e ▸ hm1385)
  have hf1718 := (fr1462 q645 hm1385 hn1386).trans hf1384
  have hm1708 := sb1463 _ hm1385
  have hn1720 : q646 ≠ q1424 := fun e => hn1433 (e ▸ hm1388)
  have hn1721 : q646 ≠ q1425 := fun e => hn1436 (e ▸ hm1388)
  have hn1722 : q646 ≠ q1426 := fun e => hn1439 (e ▸ hm1388)
  have hn1723 : q646 ≠ q1427 := fun e => hn1442 (e ▸ hm1388)
  have hn1724 : q646 ≠ q1428 := fun e => hn1445 (e ▸ hm1388)
  have hn1725 : q646 ≠ q1429 := fun e => hn1448 (e ▸ hm1388)
  have hn1726 : q646 ≠ q1430 := fun e => hn1451 (e ▸ hm1388)
  have hn1727 : q646 ≠ q1431 := fun e => hn1454 (e ▸ hm1388)
  have hn1728 : q646 ≠ q1432 := fun e => hn1457 (e ▸ hm1388)
  have hf1729 := (fr1462 q646 hm1388 hn1389).trans hf1387
  have hm1719 := sb1463 _ hm1388
  have hn1731 : q870 ≠ q1424 := fun e => hn1433 (e ▸ hm1391)
  have hn1732 : q870 ≠ q1425 := fun e => hn1436 (e ▸ hm1391)
  have hn1733 : q870 ≠ q1426 := fun e => hn1439 (e ▸ hm1391)
  have hn1734 : q870 ≠ q1427 := fun e => hn1442 (e ▸ hm1391)
  have hn1735 : q870 ≠ q1428 := fun e => hn1445 (e ▸ hm1391)
  have hn1736 : q870 ≠ q1429 := fun e => hn1448 (e ▸ hm1391)
  have hn1737 : q870 ≠ q1430 := fun e => hn1451 (e ▸ hm1391)
  have hn1738 : q870 ≠ q1431 := fun e => hn1454 (e ▸ hm1391)
  have hn1739 : q870 ≠ q1432 := fun e => hn1457 (e ▸ hm1391)
  have hf1740 := (fr1462 q870 hm1391 hn1392).trans hf1390
  have hm1730 := sb1463 _ hm1391
  have hn1742 : q956 ≠ q1424 := fun e => hn1433 (e ▸ hm1394)
  have hn1743 : q956 ≠ q1425 := fun e => hn1436 (e ▸ hm1394)
  have hn1744 : q956 ≠ q1426 := fun e => hn1439 (e ▸ hm1394)
  have hn1745 : q956 ≠ q1427 := fun e => hn1442 (e ▸ hm1394)
  have hn1746 : q956 ≠ q1428 := fun e => hn1445 (e ▸ hm1394)
  have hn1747 : q956 ≠ q1429 := fun e => hn1448 (e ▸ hm1394)
  have hn1748 : q956 ≠ q1430 := fun e => hn1451 (e ▸ hm1394)
  have hn1749 : q956 ≠ q1431 := fun e => hn1454 (e ▸ hm1394)
  have hn1750 : q956 ≠ q1432 := fun e => hn1457 (e ▸ hm1394)
  have hf1751 := (fr1462 q956 hm1394 hn1395).trans hf1393
  have hm1741 := sb1463 _ hm1394
  have hn1753 : q957 ≠ q1424 := fun e => hn1433 (e ▸ hm1397)
  have hn1754 : q957 ≠ q1425 := fun e => hn1436 (e ▸ hm1397)
  have hn1755 : q957 ≠ q1426 := fun e => hn1439 (e ▸ hm1397)
  have hn1756 : q957 ≠ q1427 := fun e => hn1442 (e ▸ hm1397)
  have hn1757 : q957 ≠ q1428 := fun e => hn1445 (e ▸ hm1397)
  have hn1758 : q957 ≠ q1429 := fun e => hn1448 (e ▸ hm1397)
  have hn1759 : q957 ≠ q1430 := fun e => hn1451 (e ▸ hm1397)
  have hn1760 : q957 ≠ q1431 := fun e => hn1454 (e ▸ hm1397)
  have hn1761 : q957 ≠ q1432 := fun e => hn1457 (e ▸ hm1397)
  have hf1762 := (fr1462 q957 hm1397 hn1398).trans hf1396
  have hm1752 := sb1463 _ hm1397
  have hn1764 : q958 ≠ q1424 := fun e => hn1433 (e ▸ hm1400)
  have hn1765 : q958 ≠ q1425 := fun e => hn1436 (e ▸ hm1400)
  have hn1766 : q958 ≠ q1426 := fun e => hn1439 (e ▸ hm1400)
  have hn1767 : q958 ≠ q1427 := fun e => hn1442 (e ▸ hm1400)
  have hn1768 : q958 ≠ q1428 := fun e => hn1445 (e ▸ hm1400)
  have hn1769 : q958 ≠ q1429 := fun e => hn1448 (e ▸ hm1400)
  have hn1770 : q958 ≠ q1430 := fun e => hn1451 (e ▸ hm1400)
  have hn1771 : q958 ≠ q1431 := fun e => hn1454 (e ▸ hm1400)
  have hn1772 : q958 ≠ q1432 := fun e => hn1457 (e ▸ hm1400)
  have hf1773 := (fr1462 q958 hm1400 hn1401).trans hf1399
  have hm1763 := sb1463 _ hm1400
  have hn1775 : q959 ≠ q1424 := fun e => hn1433 (e ▸ hm1403)
  have hn1776 : q959 ≠ q1425 := fun e => hn1436 (e ▸ hm1403)
  have hn1777 : q959 ≠ q1426 := fun e => hn1439 (e ▸ hm1403)
  have hn1778 : q959 ≠ q1427 := fun e => hn1442 (e ▸ hm1403)
  have hn1779 : q959 ≠ q1428 := fun e => hn1445 (e ▸ hm1403)
  have hn1780 : q959 ≠ q1429 := fun e => hn1448 (e ▸ hm1403)
  have hn1781 : q959 ≠ q1430 := fun e => hn1451 (e ▸ hm1403)
  have hn1782 : q959 ≠ q1431 := fun e => hn1454 (e ▸ hm1403)
  have hn1783 : q959 ≠ q1432 := fun e => hn1457 (e ▸ hm1403)
  have hf1784 := (fr1462 q959 hm1403 hn1404).trans hf1402
  have hm1774 := sb1463 _ hm1403
  have hn1786 : q960 ≠ q1424 := fun e => hn1433 (e ▸ hm1406)
  have hn1787 : q960 ≠ q1425 := fun e => hn1436 (e ▸ hm1406)
  have hn1788 : q960 ≠ q1426 := fun e => hn1439 (e ▸ hm1406)
  have hn1789 : q960 ≠ q1427 := fun e => hn1442 (e ▸ hm1406)
  have hn1790 : q960 ≠ q1428 := fun e => hn1445 (e ▸ hm1406)
  have hn1791 : q960 ≠ q1429 := fun e => hn1448 (e ▸ hm1406)
  have hn1792 : q960 ≠ q1430 := fun e => hn1451 (e ▸ hm1406)
  have hn1793 : q960 ≠ q1431 := fun e => hn1454 (e ▸ hm1406)
  have hn1794 : q960 ≠ q1432 := fun e => hn1457 (e ▸ hm1406)
  have hf1795 := (fr1462 q960 hm1406 hn1407).trans hf1405
  have hm1785 := sb1463 _ hm1406
  have hn1797 : q961 ≠ q1424 := fun e => hn1433 (e ▸ hm1409)
  have hn1798 : q961 ≠ q1425 := fun e => hn1436 (e ▸ hm1409)
  have hn1799 : q961 ≠ q1426 := fun e => hn1439 (e ▸ hm1409)
  have hn1800 : q961 ≠ q1427 := fun e => hn1442 (e ▸ hm1409)
  have hn1801 : q961 ≠ q1428 := fun e => hn1445 (e ▸ hm1409)
  have hn1802 : q961 ≠ q1429 := fun e => hn1448 (e ▸ hm1409)
  have hn1803 : q961 ≠ q1430 := fun e => hn1451 (e ▸ hm1409)
  have hn1804 : q961 ≠ q1431 := fun e => hn1454 (e ▸ hm1409)
  have hn1805 : q961 ≠ q1432 := fun e => hn1457 (e ▸ hm1409)
  have hf1806 := (fr1462 q961 hm1409 hn1410).trans hf1408
  have hm1796 := sb1463 _ hm1409
  have hn1808 : q962 ≠ q1424 := fun e => hn1433 (e ▸ hm1412)
  have hn1809 : q962 ≠ q1425 := fun e => hn1436 (e ▸ hm1412)
  have hn1810 : q962 ≠ q1426 := fun e => hn1439 (e ▸ hm1412)
  have hn1811 : q962 ≠ q1427 := fun e => hn1442 (e ▸ hm1412)
  have hn1812 : q962 ≠ q1428 := fun e => hn1445 (e ▸ hm1412)
  have hn1813 : q962 ≠ q1429 := fun e => hn1448 (e ▸ hm1412)
  have hn1814 : q962 ≠ q1430 := fun e => hn1451 (e ▸ hm1412)
  have hn1815 : q962 ≠ q1431 := fun e => hn1454 (e ▸ hm1412)
  have hn1816 : q962 ≠ q1432 := fun e => hn1457 (e ▸ hm1412)
  have hf1817 := (fr1462 q962 hm1412 hn1413).trans hf1411
  have hm1807 := sb1463 _ hm1412
  have hn1819 : q963 ≠ q1424 := fun e => hn1433 (e ▸ hm1415)
  have hn1820 : q963 ≠ q1425 := fun e => hn1436 (e ▸ hm1415)
  have hn1821 : q963 ≠ q1426 := fun e => hn1439 (e ▸ hm1415)
  have hn1822 : q963 ≠ q1427 := fun e => hn1442 (e ▸ hm1415)
  have hn1823 : q963 ≠ q1428 := fun e => hn1445 (e ▸ hm1415)
  have hn1824 : q963 ≠ q1429 := fun e => hn1448 (e ▸ hm1415)
  have hn1825 : q963 ≠ q1430 := fun e => hn1451 (e ▸ hm1415)
  have hn1826 : q963 ≠ q1431 := fun e => hn1454 (e ▸ hm1415)
  have hn1827 : q963 ≠ q1432 := fun e => hn1457 (e ▸ hm1415)
  have hf1828 := (fr1462 q963 hm1415 hn1416).trans hf1414
  have hm1818 := sb1463 _ hm1415
  have hn1830 : q964 ≠ q1424 := fun e => hn1433 (e ▸ hm1418)
  have hn1831 : q964 ≠ q1425 := fun e => hn1436 (e ▸ hm1418)
  have hn1832 : q964 ≠ q1426 := fun e => hn1439 (e ▸ hm1418)
  have hn1833 : q964 ≠ q1427 := fun e => hn1442 (e ▸ hm1418)
  have hn1834 : q964 ≠ q1428 := fun e => hn1445 (e ▸ hm1418)
  have hn1835 : q964 ≠ q1429 := fun e => hn1448 (e ▸ hm1418)
  have hn1836 : q964 ≠ q1430 := fun e => hn1451 (e ▸ hm1418)
  have hn1837 : q964 ≠ q1431 := fun e => hn1454 (e ▸ hm1418)
  have hn1838 : q964 ≠ q1432 := fun e => hn1457 (e ▸ hm1418)
  have hf1839 := (fr1462 q964 hm1418 hn1419).trans hf1417
  have hm1829 := sb1463 _ hm1418
  have hn1841 : q1308 ≠ q1424 := fun e => hn1433 (e ▸ hm1313)
  have hn1842 : q1308 ≠ q1425 := fun e => hn1436 (e ▸ hm1313)
  have hn1843 : q1308 ≠ q1426 := fun e => hn1439 (e ▸ hm1313)
  have hn1844 : q1308 ≠ q1427 := fun e => hn1442 (e ▸ hm1313)
  have hn1845 : q1308 ≠ q1428 := fun e => hn1445 (e ▸ hm1313)
  have hn1846 : q1308 ≠ q1429 := fun e => hn1448 (e ▸ hm1313)
  have hn1847 : q1308 ≠ q1430 := fun e => hn1451 (e ▸ hm1313)
  have hn1848 : q1308 ≠ q1431 := fun e => hn1454 (e ▸ hm1313)
  have hn1849 : q1308 ≠ q1432 := fun e => hn1457 (e ▸ hm1313)
  have hm1840 := sb1463 _ hm1313
  refine pl_putF (ty := (.object "RulerWord$Course")) (v := .ref q1308) (fs' := [.ref q1, .ref q45, .ref q91, .ref q143, .ref q201, .ref q280, .ref q388, .ref q482, .ref q582, .ref q870, .ref q1308, .null, .null, .null, .null, .int 0, .int 0, .long 0]) hx hb hts (fun w h => mT (inX10 w h)) tyX10 tyX10_ok nmX10 hown hG.1 hP hD hS hm1477 hf1487 rfl 10 (by decide) (hts _ (mT wg_485)) (fun _ h => h) rfl hnm rfl (by decide +kernel) (rfl) (rfl) (Nat.le_of_ble_eq_true rfl) rfl dX10_init_122 (fun H locs f1850 hf1852 ho1851 hP hD hS => ?_)
  have hfr1853 : ∀ b, b ∈ L → b ≠ x → f1850 b = f b := fun b hb z0 => (ho1851 b z0).trans (hfr1466 b hb z0)
  have hf1854 := (ho1851 q1 hn16.symm).trans hf1498
  have hf1855 := (ho1851 q21 hn35.symm).trans hf1509
  have hf1856 := (ho1851 q45 hn60.symm).trans hf1520
  have hf1857 := (ho1851 q91 hn106.symm).trans hf1531
  have hf1858 := (ho1851 q143 hn158.symm).trans hf1542
  have hf1859 := (ho1851 q201 hn216.symm).trans hf1553
  have hf1860 := (ho1851 q236 hn250.symm).trans hf1564
  have hf1861 := (ho1851 q280 hn295.symm).trans hf1575
  have hf1862 := (ho1851 q321 hn340.symm).trans hf1586
  have hf1863 := (ho1851 q322 hn341.symm).trans hf1597
  have hf1864 := (ho1851 q388 hn403.symm).trans hf1608
  have hf1865 := (ho1851 q482 hn497.symm).trans hf1619
  have hf1866 := (ho1851 q582 hn597.symm).trans hf1630
  have hf1867 := (ho1851 q638 hn692.symm).trans hf1641
  have hf1868 := (ho1851 q639 hn693.symm).trans hf1652
  have hf1869 := (ho1851 q640 hn694.symm).trans hf1663
  have hf1870 := (ho1851 q641 hn695.symm).trans hf1674
  have hf1871 := (ho1851 q642 hn696.symm).trans hf1685
  have hf1872 := (ho1851 q643 hn697.symm).trans hf1696
  have hf1873 := (ho1851 q644 hn698.symm).trans hf1707
  have hf1874 := (ho1851 q645 hn699.symm).trans hf1718
  have hf1875 := (ho1851 q646 hn700.symm).trans hf1729
  have hf1876 := (ho1851 q870 hn885.symm).trans hf1740
  have hf1877 := (ho1851 q956 hn1010.symm).trans hf1751
  have hf1878 := (ho1851 q957 hn1011.symm).trans hf1762
  have hf1879 := (ho1851 q958 hn1012.symm).trans hf1773
  have hf1880 := (ho1851 q959 hn1013.symm).trans hf1784
  have hf1881 := (ho1851 q960 hn1014.symm).trans hf1795
  have hf1882 := (ho1851 q961 hn1015.symm).trans hf1806
  have hf1883 := (ho1851 q962 hn1016.symm).trans hf1817
  have hf1884 := (ho1851 q963 hn1017.symm).trans hf1828
  have hf1885 := (ho1851 q964 hn1018.symm).trans hf1839
  have hf1886 := (ho1851 q1308 hn1323.symm).trans hf1460
  have hf1887 := (ho1851 q1424 hn1478.symm).trans hf1435
  have hf1888 := (ho1851 q1425 hn1479.symm).trans hf1438
  have hf1889 := (ho1851 q1426 hn1480.symm).trans hf1441
  have hf1890 := (ho1851 q1427 hn1481.symm).trans hf1444
  have hf1891 := (ho1851 q1428 hn1482.symm).trans hf1447
  have hf1892 := (ho1851 q1429 hn1483.symm).trans hf1450
  have hf1893 := (ho1851 q1430 hn1484.symm).trans hf1453
  have hf1894 := (ho1851 q1431 hn1485.symm).trans hf1456
  have hf1895 := (ho1851 q1432 hn1486.symm).trans hf1459
  refine lv_aload_n hx hb dX10_init_125 rfl (lv_at hl 0 rfl) ?_
  refine pl_new (ci := 0) (fs := [.null, .int 0, .int 0]) (C := RX0) (T := TX0) (N := 3) hx hb hts (fun w h => mT (inX0 w h)) tyX0 tyX0_ok hown (hts _ (mT wg_404)) (hts _ (mT wg_405)) (hts _ (mT wg_166)) hG.1 hP hD hS hA rfl dvX0 (Nat.le_of_ble_eq_true rfl) (Nat.le_of_ble_eq_true rfl) dX10_init_126 (fun q1896 H L1897 f1898 hq1899 hs1900 hm1901 hf1902 ho1903 hP hD hS => ?_)
  have hN1904 : [q1896, q1424, q1425, q1426, q1427, q1428, q1429, q1430, q1431, q1432, q1308, q956, q957, q958, q959, q960, q961, q962, q963, q964, q870, q638, q639, q640, q641, q642, q643, q644, q645, q646, q582, q482, q388, q321, q322, q280, q236, q201, q143, q91, q45, q21, q1].Nodup := List.nodup_cons.mpr ⟨fun h => hq1899 (hNs1465 _ h), hN1464⟩
  have hNs1905 : ∀ b, b ∈ [q1896, q1424, q1425, q1426, q1427, q1428, q1429, q1430, q1431, q1432, q1308, q956, q957, q958, q959, q960, q961, q962, q963, q964, q870, q638, q639, q640, q641, q642, q643, q644, q645, q646, q582, q482, q388, q321, q322, q280, q236, q201, q143, q91, q45, q21, q1] → b ∈ L1897 := List.forall_mem_cons.mpr ⟨hm1901, fun b hb => hs1900 b (hNs1465 b hb)⟩
  have hfr1906 : ∀ b, b ∈ L → b ≠ x → f1898 b = f b := fun b hb z0 => (ho1903 b (hsb1467 b hb)).trans (hfr1853 b hb z0)
  have hnq1908 : q1896 ∉ L := fun h => hq1899 (hsb1467 _ h)
  have hsb1907 : ∀ b, b ∈ L → b ∈ _ := fun b hb => hs1900 b (hsb1467 b hb)
  have hf1909 := (ho1903 x hm1477).trans hf1852
  have hn1911 : x ≠ q1896 := fun e => hq1899 (e ▸ hm1477)
  have hm1910 := hs1900 _ hm1477
  have hf1912 := (ho1903 q1 hm1488).trans hf1854
  have hn1914 : q1 ≠ q1896 := fun e => hq1899 (e ▸ hm1488)
  have hm1913 := hs1900 _ hm1488
  have hf1915 := (ho1903 q21 hm1499).trans hf1855
  have hn1917 : q21 ≠ q1896 := fun e => hq1899 (e ▸ hm1499)
  have hm1916 := hs1900 _ hm1499
  have hf1918 := (ho1903 q45 hm1510).trans hf1856
  have hn1920 : q45 ≠ q1896 := fun e => hq1899 (e ▸ hm1510)
  have hm1919 := hs1900 _ hm1510
  have hf1921 := (ho1903 q91 hm1521).trans hf1857
  have hn1923 : q91 ≠ q1896 := fun e => hq1899 (e ▸ hm1521)
  have hm1922 := hs1900 _ hm1521
  have hf1924 := (ho1903 q143 hm1532).trans hf1858
  have hn1926 : q143 ≠ q1896 := fun e => hq1899 (e ▸ hm1532)
  have hm1925 := hs1900 _ hm1532
  have hf1927 := (ho1903 q201 hm1543).trans hf1859
  have hn1929 : q201 ≠ q1896 := fun e => hq1899 (e ▸ hm1543)
  have hm1928 := hs1900 _ hm1543
  have hf1930 := (ho1903 q236 hm1554).trans hf1860
  have hn1932 : q236 ≠ q1896 := fun e => hq1899 (e ▸ hm1554)
  have hm1931 := hs1900 _ hm1554
  have hf1933 := (ho1903 q280 hm1565).trans hf1861
  have hn1935 : q280 ≠ q1896 := fun e => hq1899 (e ▸ hm1565)
  have hm1934 := hs1900 _ hm1565
  have hf1936 := (ho1903 q321 hm1576).trans hf1862
  have hn1938 : q321 ≠ q1896 := fun e => hq1899 (e ▸ hm1576)
  have hm1937 := hs1900 _ hm1576
  have hf1939 := (ho1903 q322 hm1587).trans hf1863
  have hn1941 : q322 ≠ q1896 := fun e => hq1899 (e ▸ hm1587)
  have hm1940 := hs1900 _ hm1587
  have hf1942 := (ho1903 q388 hm1598).trans hf1864
  have hn1944 : q388 ≠ q1896 := fun e => hq1899 (e ▸ hm1598)
  have hm1943 := hs1900 _ hm1598
  have hf1945 := (ho1903 q482 hm1609).trans hf1865
  have hn1947 : q482 ≠ q1896 := fun e => hq1899 (e ▸ hm1609)
  have hm1946 := hs1900 _ hm1609
  have hf1948 := (ho1903 q582 hm1620).trans hf1866
  have hn1950 : q582 ≠ q1896 := fun e => hq1899 (e ▸ hm1620)
  have hm1949 := hs1900 _ hm1620
  have hf1951 := (ho1903 q638 hm1631).trans hf1867
  have hn1953 : q638 ≠ q1896 := fun e => hq1899 (e ▸ hm1631)
  have hm1952 := hs1900 _ hm1631
  have hf1954 := (ho1903 q639 hm1642).trans hf1868
  have hn1956 : q639 ≠ q1896 := fun e => hq1899 (e ▸ hm1642)
  have hm1955 := hs1900 _ hm1642
  have hf1957 := (ho1903 q640 hm1653).trans hf1869
  have hn1959 : q640 ≠ q1896 := fun e => hq1899 (e ▸ hm1653)
  have hm1958 := hs1900 _ hm1653
  have hf1960 := (ho1903 q641 hm1664).trans hf1870
  have hn1962 : q641 ≠ q1896 := fun e => hq1899 (e ▸ hm1664)
  have hm1961 := hs1900 _ hm1664
  have hf1963 := (ho1903 q642 hm1675).trans hf1871
  have hn1965 : q642 ≠ q1896 := fun e => hq1899 (e ▸ hm1675)
  have hm1964 := hs1900 _ hm1675
  have hf1966 := (ho1903 q643 hm1686).trans hf1872
  have hn1968 : q643 ≠ q1896 := fun e => hq1899 (e ▸ hm1686)
  have hm1967 := hs1900 _ hm1686
  have hf1969 := (ho1903 q644 hm1697).trans hf1873
  have hn1971 : q644 ≠ q1896 := fun e => hq1899 (e ▸ hm1697)
  have hm1970 := hs1900 _ hm1697
  have hf1972 := (ho1903 q645 hm1708).trans hf1874
  have hn1974 : q645 ≠ q1896 := fun e => hq1899 (e ▸ hm1708)
  have hm1973 := hs1900 _ hm1708
  have hf1975 := (ho1903 q646 hm1719).trans hf1875
  have hn1977 : q646 ≠ q1896 := fun e => hq1899 (e ▸ hm1719)
  have hm1976 := hs1900 _ hm1719
  have hf1978 := (ho1903 q870 hm1730).trans hf1876
  have hn1980 : q870 ≠ q1896 := fun e => hq1899 (e ▸ hm1730)
  have hm1979 := hs1900 _ hm1730
  have hf1981 := (ho1903 q956 hm1741).trans hf1877
  have hn1983 : q956 ≠ q1896 := fun e => hq1899 (e ▸ hm1741)
  have hm1982 := hs1900 _ hm1741
  have hf1984 := (ho1903 q957 hm1752).trans hf1878
  have hn1986 : q957 ≠ q1896 := fun e => hq1899 (e ▸ hm1752)
  have hm1985 := hs1900 _ hm1752
  have hf1987 := (ho1903 q958 hm1763).trans hf1879
  have hn1989 : q958 ≠ q1896 := fun e => hq1899 (e ▸ hm1763)
  have hm1988 := hs1900 _ hm1763
  have hf1990 := (ho1903 q959 hm1774).trans hf1880
  have hn1992 : q959 ≠ q1896 := fun e => hq1899 (e ▸ hm1774)
  have hm1991 := hs1900 _ hm1774
  have hf1993 := (ho1903 q960 hm1785).trans hf1881
  have hn1995 : q960 ≠ q1896 := fun e => hq1899 (e ▸ hm1785)
  have hm1994 := hs1900 _ hm1785
  have hf1996 := (ho1903 q961 hm1796).trans hf1882
  have hn1998 : q961 ≠ q1896 := fun e => hq1899 (e ▸ hm1796)
  have hm1997 := hs1900 _ hm1796
  have hf1999 := (ho1903 q962 hm1807).trans hf1883
  have hn2001 : q962 ≠ q1896 := fun e => hq1899 (e ▸ hm1807)
  have hm2000 := hs1900 _ hm1807
  have hf2002 := (ho1903 q963 hm1818).trans hf1884
  have hn2004 : q963 ≠ q1896 := fun e => hq1899 (e ▸ hm1818)
  have hm2003 := hs1900 _ hm1818
  have hf2005 := (ho1903 q964 hm1829).trans hf1885
  have hn2007 : q964 ≠ q1896 := fun e => hq1899 (e ▸ hm1829)
  have hm2006 := hs1900 _ hm1829
  have hf2008 := (ho1903 q1308 hm1840).trans hf1886
  have hn2010 : q1308 ≠ q1896 := fun e => hq1899 (e ▸ hm1840)
  have hm2009 := hs1900 _ hm1840
  have hf2011 := (ho1903 q1424 hm1434).trans hf1887
  have hn2013 : q1424 ≠ q1896 := fun e => hq1899 (e ▸ hm1434)
  have hm2012 := hs1900 _ hm1434
  have hf2014 := (ho1903 q1425 hm1437).trans hf1888
  have hn2016 : q1425 ≠ q1896 := fun e => hq1899 (e ▸ hm1437)
  have hm2015 := hs1900 _ hm1437
  have hf2017 := (ho1903 q1426 hm1440).trans hf1889
  have hn2019 : q1426 ≠ q1896 := fun e => hq1899 (e ▸ hm1440)
  have hm2018 := hs1900 _ hm1440
  have hf2020 := (ho1903 q1427 hm1443).trans hf1890
  have hn2022 : q1427 ≠ q1896 := fun e => hq1899 (e ▸ hm1443)
  have hm2021 := hs1900 _ hm1443
  have hf2023 := (ho1903 q1428 hm1446).trans hf1891
  have hn2025 : q1428 ≠ q1896 := fun e => hq1899 (e ▸ hm1446)
  have hm2024 := hs1900 _ hm1446
  have hf2026 := (ho1903 q1429 hm1449).trans hf1892
  have hn2028 : q1429 ≠ q1896 := fun e => hq1899 (e ▸ hm1449)
  have hm2027 := hs1900 _ hm1449
  have hf2029 := (ho1903 q1430 hm1452).trans hf1893
  have hn2031 : q1430 ≠ q1896 := fun e => hq1899 (e ▸ hm1452)
  have hm2030 := hs1900 _ hm1452
  have hf2032 := (ho1903 q1431 hm1455).trans hf1894
  have hn2034 : q1431 ≠ q1896 := fun e => hq1899 (e ▸ hm1455)
  have hm2033 := hs1900 _ hm1455
  have hf2035 := (ho1903 q1432 hm1458).trans hf1895
  have hn2037 : q1432 ≠ q1896 := fun e => hq1899 (e ▸ hm1458)
  have hm2036 := hs1900 _ hm1458
  refine lv_dup hx hb dX10_init_129 rfl ?_
  refine call_v (run_IN (rm := { frames := 2, cells := 201, slots := 5540, locals := 32 }) hx hb hml hown hts (k_X0_init l g _ _ _ q1896 hm1901 hf1902) cI_X0_init wn_406 ⟨Nat.le_of_ble_eq_true rfl, Nat.le_of_ble_eq_true rfl⟩ hG hE hA hP hD hS rfl hl.1 (As := []) (rest := [.ref q1896, .ref x]) rfl (Nat.le_of_ble_eq_true rfl) dX10_init_130 ⟨Nat.le_of_ble_eq_true rfl, Nat.le_of_ble_eq_true rfl⟩) hA hD hS (fun L2039 f2040 H locs hp2041 hP hD hS => ?_)
  obtain ⟨q2042, r2043, aa2044, hn2045, hm2046, hf2047, hf2048, er2049, fr2050, sb2051⟩ := hp2041
  obtain ⟨er2049, er2049R, er2049ne, er2049rr⟩ := er2049
  have hN2052 : [q2042, q1896, q1424, q1425, q1426, q1427, q1428, q1429, q1430, q1431, q1432, q1308, q956, q957, q958, q959, q960, q961, q962, q963, q964, q870, q638, q639, q640, q641, q642, q643, q644, q645, q646, q582, q482, q388, q321, q322, q280, q236, q201, q143, q91, q45, q21, q1].Nodup := nd_app (l := [q2042]) (k := [q1896, q1424, q1425, q1426, q1427, q1428, q1429, q1430, q1431, q1432, q1308, q956, q957, q958, q959, q960, q961, q962, q963, q964, q870, q638, q639, q640, q641, q642, q643, q644, q645, q646, q582, q482, q388, q321, q322, q280, q236, q201, q143, q91, q45, q21, q1]) er2049 (List.forall_mem_cons.mpr ⟨hn2045, (fun _ h => absurd h List.not_mem_nil)⟩) hN1904 hNs1905
  have hNs2053 : ∀ b, b ∈ [q2042, q1896, q1424, q1425, q1426, q1427, q1428, q1429, q1430, q1431, q1432, q1308, q956, q957, q958, q959, q960, q961, q962, q963, q964, q870, q638, q639, q640, q641, q642, q643, q644, q645, q646, q582, q482, q388, q321, q322, q280, q236, q201, q143, q91, q45, q21, q1] → b ∈ L2039 := fm_app (l := [q2042]) (k := [q1896, q1424, q1425, q1426, q1427, q1428, q1429, q1430, q1431, q1432, q1308, q956, q957, q958, q959, q960, q961, q962, q963, q964, q870, q638, q639, q640, q641, q642, q643, q644, q645, q646, q582, q482, q388, q321, q322, q280, q236, q201, q143, q91, q45, q21, q1]) (List.forall_mem_cons.mpr ⟨hm2046, (fun _ h => absurd h List.not_mem_nil)⟩) (fun b hb => sb2051 b (hNs1905 b hb))
  have hfr2054 : ∀ b, b ∈ L → b ≠ x → f2040 b = f b := fun b hb z0 => (fr2050 b (hsb1907 b hb) (fun e => hnq1908 (e ▸ hb))).trans (hfr1906 b hb z0)
  have hnq2056 : q2042 ∉ L := fun h => hn2045 (hsb1907 _ h)
  have hsb2055 : ∀ b, b ∈ L → b ∈ L2039 := fun b hb => sb2051 b (hsb1907 b hb)
  have hn2058 : x ≠ q2042 := fun e => hn2045 (e ▸ hm1910)
  have hf2059 := (fr2050 x hm1910 hn1911).trans hf1909
  have hm2057 := sb2051 _ hm1910
  have hn2061 : q1 ≠ q2042 := fun e => hn2045 (e ▸ hm1913)
  have hf2062 := (fr2050 q1 hm1913 hn1914).trans hf1912
  have hm2060 := sb2051 _ hm1913
  have hn2064 : q21 ≠ q2042 := fun e => hn2045 (e ▸ hm1916)
  have hf2065 := (fr2050 q21 hm1916 hn1917).trans hf1915
  have hm2063 := sb2051 _ hm1916
  have hn2067 : q45 ≠ q2042 := fun e => hn2045 (e ▸ hm1919)
  have hf2068 := (fr2050 q45 hm1919 hn1920).trans hf1918
  have hm2066 := sb2051 _ hm1919
  have hn2070 : q91 ≠ q2042 := fun e => hn2045 (e ▸ hm1922)
  have hf2071 := (fr2050 q91 hm1922 hn1923).trans hf1921
  have hm2069 := sb2051 _ hm1922
  have hn2073 : q143 ≠ q2042 := fun e => hn2045 (e ▸ hm1925)
  have hf2074 := (fr2050 q143 hm1925 hn1926).trans hf1924
  have hm2072 := sb2051 _ hm1925
  have hn2076 : q201 ≠ q2042 := fun e => hn2045 (e ▸ hm1928)
  have hf2077 := (fr2050 q201 hm1928 hn1929).trans hf1927
  have hm2075 := sb2051 _ hm1928
  have hn2079 : q236 ≠ q2042 := fun e => hn2045 (e ▸ hm1931)
  have hf2080 := (fr2050 q236 hm1931 hn1932).trans hf1930
  have hm2078 := sb2051 _ hm1931
  have hn2082 : q280 ≠ q2042 := fun e => hn2045 (e ▸ hm1934)
  have hf2083 := (fr2050 q280 hm1934 hn1935).trans hf1933
  have hm2081 := sb2051 _ hm1934
  have hn2085 : q321 ≠ q2042 := fun e => hn2045 (e ▸ hm1937)
  have hf2086 := (fr2050 q321 hm1937 hn1938).trans hf1936
  have hm2084 := sb2051 _ hm1937
  have hn2088 : q322 ≠ q2042 := fun e => hn2045 (e ▸ hm1940)
  have hf2089 := (fr2050 q322 hm1940 hn1941).trans hf1939
  have hm2087 := sb2051 _ hm1940
  have hn2091 : q388 ≠ q2042 := fun e => hn2045 (e ▸ hm1943)
  have hf2092 := (fr2050 q388 hm1943 hn1944).trans hf1942
  have hm2090 := sb2051 _ hm1943
  have hn2094 : q482 ≠ q2042 := fun e => hn2045 (e ▸ hm1946)
  have hf2095 := (fr2050 q482 hm1946 hn1947).trans hf1945
  have hm2093 := sb2051 _ hm1946
  have hn2097 : q582 ≠ q2042 := fun e => hn2045 (e ▸ hm1949)
  have hf2098 := (fr2050 q582 hm1949 hn1950).trans hf1948
  have hm2096 := sb2051 _ hm1949
  have hn2100 : q638 ≠ q2042 := fun e => hn2045 (e ▸ hm1952)
  have hf2101 := (fr2050 q638 hm1952 hn1953).trans hf1951
  have hm2099 := sb2051 _ hm1952
  have hn2103 : q639 ≠ q2042 := fun e => hn2045 (e ▸ hm1955)
  have hf2104 := (fr2050 q639 hm1955 hn1956).trans hf1954
  have hm2102 := sb2051 _ hm1955
  have hn2106 : q640 ≠ q2042 := fun e => hn2045 (e ▸ hm1958)
  have hf2107 := (fr2050 q640 hm1958 hn1959).trans hf1957
  have hm2105 := sb2051 _ hm1958
  have hn2109 : q641 ≠ q2042 := fun e => hn2045 (e ▸ hm1961)
  have hf2110 := (fr2050 q641 hm1961 hn1962).trans hf1960
  have hm2108 := sb2051 _ hm1961
  have hn2112 : q642 ≠ q2042 := fun e => hn2045 (e ▸ hm1964)
  have hf2113 := (fr2050 q642 hm1964 hn1965).trans hf1963
  have hm2111 := sb2051 _ hm1964
  have hn2115 : q643 ≠ q2042 := fun e => hn2045 (e ▸ hm1967)
  have hf2116 := (fr2050 q643 hm1967 hn1968).trans hf1966
  have hm2114 := sb2051 _ hm1967
  have hn2118 : q644 ≠ q2042 := fun e => hn2045 (e ▸ hm1970)
  have hf2119 := (fr2050 q644 hm1970 hn1971).trans hf1969
  have hm2117 := sb2051 _ hm1970
  have hn2121 : q645 ≠ q2042 := fun e => hn2045 (e ▸ hm1973)
  have hf2122 := (fr2050 q645 hm1973 hn1974).trans hf1972
  have hm2120 := sb2051 _ hm1973
  have hn2124 : q646 ≠ q2042 := fun e => hn2045 (e ▸ hm1976)
  have hf2125 := (fr2050 q646 hm1976 hn1977).trans hf1975
  have hm2123 := sb2051 _ hm1976
  have hn2127 : q870 ≠ q2042 := fun e => hn2045 (e ▸ hm1979)
  have hf2128 := (fr2050 q870 hm1979 hn1980).trans hf1978
  have hm2126 := sb2051 _ hm1979
  have hn2130 : q956 ≠ q2042 := fun e => hn2045 (e ▸ hm1982)
  have hf2131 := (fr2050 q956 hm1982 hn1983).trans hf1981
  have hm2129 := sb2051 _ hm1982
  have hn2133 : q957 ≠ q2042 := fun e => hn2045 (e ▸ hm1985)
  have hf2134 := (fr2050 q957 hm1985 hn1986).trans hf1984
  have hm2132 := sb2051 _ hm1985
  have hn2136 : q958 ≠ q2042 := fun e => hn2045 (e ▸ hm1988)
  have hf2137 := (fr2050 q958 hm1988 hn1989).trans hf1987
  have hm2135 := sb2051 _ hm1988
  have hn2139 : q959 ≠ q2042 := fun e => hn2045 (e ▸ hm1991)
  have hf2140 := (fr2050 q959 hm1991 hn1992).trans hf1990
  have hm2138 := sb2051 _ hm1991
  have hn2142 : q960 ≠ q2042 := fun e => hn2045 (e ▸ hm1994)
  have hf2143 := (fr2050 q960 hm1994 hn1995).trans hf1993
  have hm2141 := sb2051 _ hm1994
  have hn2145 : q961 ≠ q2042 := fun e => hn2045 (e ▸ hm1997)
  have hf2146 := (fr2050 q961 hm1997 hn1998).trans hf1996
  have hm2144 := sb2051 _ hm1997
  have hn2148 : q962 ≠ q2042 := fun e => hn2045 (e ▸ hm2000)
  have hf2149 := (fr2050 q962 hm2000 hn2001).trans hf1999
  have hm2147 := sb2051 _ hm2000
  have hn2151 : q963 ≠ q2042 := fun e => hn2045 (e ▸ hm2003)
  have hf2152 := (fr2050 q963 hm2003 hn2004).trans hf2002
  have hm2150 := sb2051 _ hm2003
  have hn2154 : q964 ≠ q2042 := fun e => hn2045 (e ▸ hm2006)
  have hf2155 := (fr2050 q964 hm2006 hn2007).trans hf2005
  have hm2153 := sb2051 _ hm2006
  have hn2157 : q1308 ≠ q2042 := fun e => hn2045 (e ▸ hm2009)
  have hf2158 := (fr2050 q1308 hm2009 hn2010).trans hf2008
  have hm2156 := sb2051 _ hm2009
  have hn2160 : q1424 ≠ q2042 := fun e => hn2045 (e ▸ hm2012)
  have hf2161 := (fr2050 q1424 hm2012 hn2013).trans hf2011
  have hm2159 := sb2051 _ hm2012
  have hn2163 : q1425 ≠ q2042 := fun e => hn2045 (e ▸ hm2015)
  have hf2164 := (fr2050 q1425 hm2015 hn2016).trans hf2014
  have hm2162 := sb2051 _ hm2015
  have hn2166 : q1426 ≠ q2042 := fun e => hn2045 (e ▸ hm2018)
  have hf2167 := (fr2050 q1426 hm2018 hn2019).trans hf2017
  have hm2165 := sb2051 _ hm2018
  have hn2169 : q1427 ≠ q2042 := fun e => hn2045 (e ▸ hm2021)
  have hf2170 := (fr2050 q1427 hm2021 hn2022).trans hf2020
  have hm2168 := sb2051 _ hm2021
  have hn2172 : q1428 ≠ q2042 := fun e => hn2045 (e ▸ hm2024)
  have hf2173 := (fr2050 q1428 hm2024 hn2025).trans hf2023
  have hm2171 := sb2051 _ hm2024
  have hn2175 : q1429 ≠ q2042 := fun e => hn2045 (e ▸ hm2027)
  have hf2176 := (fr2050 q1429 hm2027 hn2028).trans hf2026
  have hm2174 := sb2051 _ hm2027
  have hn2178 : q1430 ≠ q2042 := fun e => hn2045 (e ▸ hm2030)
  have hf2179 := (fr2050 q1430 hm2030 hn2031).trans hf2029
  have hm2177 := sb2051 _ hm2030
  have hn2181 : q1431 ≠ q2042 := fun e => hn2045 (e ▸ hm2033)
  have hf2182 := (fr2050 q1431 hm2033 hn2034).trans hf2032
  have hm2180 := sb2051 _ hm2033
  have hn2184 : q1432 ≠ q2042 := fun e => hn2045 (e ▸ hm2036)
  have hf2185 := (fr2050 q1432 hm2036 hn2037).trans hf2035
  have hm2183 := sb2051 _ hm2036
  have hn2187 : q1896 ≠ q2042 := fun e => hn2045 (e ▸ hm1901)
  have hm2186 := sb2051 _ hm1901
  refine pl_putF (ty := (.object "RulerWord$Acts")) (v := .ref q1896) (fs' := [.ref q1, .ref q45, .ref q91, .ref q143, .ref q201, .ref q280, .ref q388, .ref q482, .ref q582, .ref q870, .ref q1308, .ref q1896, .null, .null, .null, .int 0, .int 0, .long 0]) hx hb hts (fun w h => mT (inX10 w h)) tyX10 tyX10_ok nmX10 hown hG.1 hP hD hS hm2057 hf2059 rfl 11 (by decide) (hts _ (mT wg_486)) (fun _ h => h) rfl hnm rfl (by decide +kernel) (rfl) (rfl) (Nat.le_of_ble_eq_true rfl) rfl dX10_init_133 (fun H locs f2188 hf2190 ho2189 hP hD hS => ?_)
  have hR2191 : RINGP g L1897 L2039 f2188 20 aa2044 := RINGP.tr er2049R (fun j hj k hk e => (er2049R.1 j hj k hk).2 (e ▸ hm1910)) (fun b hb => hb) (fun b _ hb => ho2189 b hb)
  have hfr2192 : ∀ b, b ∈ L → b ≠ x → f2188 b = f b := fun b hb z0 => (ho2189 b z0).trans (hfr2054 b hb z0)
  have hf2193 := (ho2189 q1 hn16.symm).trans hf2062
  have hf2194 := (ho2189 q21 hn35.symm).trans hf2065
  have hf2195 := (ho2189 q45 hn60.symm).trans hf2068
  have hf2196 := (ho2189 q91 hn106.symm).trans hf2071
  have hf2197 := (ho2189 q143 hn158.symm).trans hf2074
  have hf2198 := (ho2189 q201 hn216.symm).trans hf2077
  have hf2199 := (ho2189 q236 hn250.symm).trans hf2080
  have hf2200 := (ho2189 q280 hn295.symm).trans hf2083
  have hf2201 := (ho2189 q321 hn340.symm).trans hf2086
  have hf2202 := (ho2189 q322 hn341.symm).trans hf2089
  have hf2203 := (ho2189 q388 hn403.symm).trans hf2092
  have hf2204 := (ho2189 q482 hn497.symm).trans hf2095
  have hf2205 := (ho2189 q582 hn597.symm).trans hf2098
  have hf2206 := (ho2189 q638 hn692.symm).trans hf2101
  have hf2207 := (ho2189 q639 hn693.symm).trans hf2104
  have hf2208 := (ho2189 q640 hn694.symm).trans hf2107
  have hf2209 := (ho2189 q641 hn695.symm).trans hf2110
  have hf2210 := (ho2189 q642 hn696.symm).trans hf2113
  have hf2211 := (ho2189 q643 hn697.symm).trans hf2116
  have hf2212 := (ho2189 q644 hn698.symm).trans hf2119
  have hf2213 := (ho2189 q645 hn699.symm).trans hf2122
  have hf2214 := (ho2189 q646 hn700.symm).trans hf2125
  have hf2215 := (ho2189 q870 hn885.symm).trans hf2128
  have hf2216 := (ho2189 q956 hn1010.symm).trans hf2131
  have hf2217 := (ho2189 q957 hn1011.symm).trans hf2134
  have hf2218 := (ho2189 q958 hn1012.symm).trans hf2137
  have hf2219 := (ho2189 q959 hn1013.symm).trans hf2140
  have hf2220 := (ho2189 q960 hn1014.symm).trans hf2143
  have hf2221 := (ho2189 q961 hn1015.symm).trans hf2146
  have hf2222 := (ho2189 q962 hn1016.symm).trans hf2149
  have hf2223 := (ho2189 q963 hn1017.symm).trans hf2152
  have hf2224 := (ho2189 q964 hn1018.symm).trans hf2155
  have hf2225 := (ho2189 q1308 hn1323.symm).trans hf2158
  have hf2226 := (ho2189 q1424 hn1478.symm).trans hf2161
  have hf2227 := (ho2189 q1425 hn1479.symm).trans hf2164
  have hf2228 := (ho2189 q1426 hn1480.symm).trans hf2167
  have hf2229 := (ho2189 q1427 hn1481.symm).trans hf2170
  have hf2230 := (ho2189 q1428 hn1482.symm).trans hf2173
  have hf2231 := (ho2189 q1429 hn1483.symm).trans hf2176
  have hf2232 := (ho2189 q1430 hn1484.symm).trans hf2179
  have hf2233 := (ho2189 q1431 hn1485.symm).trans hf2182
  have hf2234 := (ho2189 q1432 hn1486.symm).trans hf2185
  have hf2235 := (ho2189 q1896 hn1911.symm).trans hf2048
  have hf2236 := (ho2189 q2042 hn2058.symm).trans hf2047
  refine lv_aload_n hx hb dX10_init_136 rfl (lv_at hl 0 rfl) ?_
  refine pl_new (ci := 7) (fs := [.null, .null, .null, .null, .null, .null, .int 0, .int 0, .int 0, .int 0, .int 0, .int 0, .int 0, .int 0]) (C := RX7) (T := TX7) (N := 14) hx hb hts (fun w h => mT (inX7 w h)) tyX7 tyX7_ok hown (hts _ (mT wg_424)) (hts _ (mT wg_425)) (hts _ (mT wg_167)) hG.1 hP hD hS hA rfl dvX7 (Nat.le_of_ble_eq_true rfl) (Nat.le_of_ble_eq_true rfl) dX10_init_137 (fun q2237 H L2238 f2239 hq2240 hs2241 hm2242 hf2243 ho2244 hP hD hS => ?_)
  have hN2245 : [q2237, q2042, q1896, q1424, q1425, q1426, q1427, q1428, q1429, q1430, q1431, q1432, q1308, q956, q957, q958, q959, q960, q961, q962, q963, q964, q870, q638, q639, q640, q641, q642, q643, q644, q645, q646, q582, q482, q388, q321, q322, q280, q236, q201, q143, q91, q45, q21, q1].Nodup := List.nodup_cons.mpr ⟨fun h => hq2240 (hNs2053 _ h), hN2052⟩
  have hNs2246 : ∀ b, b ∈ [q2237, q2042, q1896, q1424, q1425, q1426, q1427, q1428, q1429, q1430, q1431, q1432, q1308, q956, q957, q958, q959, q960, q961, q962, q963, q964, q870, q638, q639, q640, q641, q642, q643, q644, q645, q646, q582, q482, q388, q321, q322, q280, q236, q201, q143, q91, q45, q21, q1] → b ∈ L2238 := List.forall_mem_cons.mpr ⟨hm2242, fun b hb => hs2241 b (hNs2053 b hb)⟩
  have hRq2247 : ∀ j, j < 20 → ∀ k, k < 10 → aa2044 j k ≠ q2237 := fun j hj k hk e => hq2240 (e ▸ (hR2191.1 j hj k hk).1)
  have hR2248 : RINGP g L1897 L2238 f2239 20 aa2044 := RINGP.tr hR2191 hRq2247 hs2241 (fun b hb _ => ho2244 b hb)
  have hfr2249 : ∀ b, b ∈ L → b ≠ x → f2239 b = f b := fun b hb z0 => (ho2244 b (hsb2055 b hb)).trans (hfr2192 b hb z0)
  have hnq2251 : q2237 ∉ L := fun h => hq2240 (hsb2055 _ h)
  have hsb2250 : ∀ b, b ∈ L → b ∈ _ := fun b hb => hs2241 b (hsb2055 b hb)
  have hf2252 := (ho2244 x hm2057).trans hf2190
  have hn2254 : x ≠ q2237 := fun e => hq2240 (e ▸ hm2057)
  have hm2253 := hs2241 _ hm2057
  have hf2255 := (ho2244 q1 hm2060).trans hf2193
  have hn2257 : q1 ≠ q2237 := fun e => hq2240 (e ▸ hm2060)
  have hm2256 := hs2241 _ hm2060
  have hf2258 := (ho2244 q21 hm2063).trans hf2194
  have hn2260 : q21 ≠ q2237 := fun e => hq2240 (e ▸ hm2063)
  have hm2259 := hs2241 _ hm2063
  have hf2261 := (ho2244 q45 hm2066).trans hf2195
  have hn2263 : q45 ≠ q2237 := fun e => hq2240 (e ▸ hm2066)
  have hm2262 := hs2241 _ hm2066
  have hf2264 := (ho2244 q91 hm2069).trans hf2196
  have hn2266 : q91 ≠ q2237 := fun e => hq2240 (e ▸ hm2069)
  have hm2265 := hs2241 _ hm2069
  have hf2267 := (ho2244 q143 hm2072).trans hf2197
  have hn2269 : q143 ≠ q2237 := fun e => hq2240 (e ▸ hm2072)
  have hm2268 := hs2241 _ hm2072
  have hf2270 := (ho2244 q201 hm2075).trans hf2198
  have hn2272 : q201 ≠ q2237 := fun e => hq2240 (e ▸ hm2075)
  have hm2271 := hs2241 _ hm2075
  have hf2273 := (ho2244 q236 hm2078).trans hf2199
  have hn2275 : q236 ≠ q2237 := fun e => hq2240 (e ▸ hm2078)
  have hm2274 := hs2241 _ hm2078
  have hf2276 := (ho2244 q280 hm2081).trans hf2200
  have hn2278 : q280 ≠ q2237 := fun e => hq2240 (e ▸ hm2081)
  have hm2277 := hs2241 _ hm2081
  have hf2279 := (ho2244 q321 hm2084).trans hf2201
  have hn2281 : q321 ≠ q2237 := fun e => hq2240 (e ▸ hm2084)
  have hm2280 := hs2241 _ hm2084
  have hf2282 := (ho2244 q322 hm2087).trans hf2202
  have hn2284 : q322 ≠ q2237 := fun e => hq2240 (e ▸ hm2087)
  have hm2283 := hs2241 _ hm2087
  have hf2285 := (ho2244 q388 hm2090).trans hf2203
  have hn2287 : q388 ≠ q2237 := fun e => hq2240 (e ▸ hm2090)
  have hm2286 := hs2241 _ hm2090
  have hf2288 := (ho2244 q482 hm2093).trans hf2204
  have hn2290 : q482 ≠ q2237 := fun e => hq2240 (e ▸ hm2093)
  have hm2289 := hs2241 _ hm2093
  have hf2291 := (ho2244 q582 hm2096).trans hf2205
  have hn2293 : q582 ≠ q2237 := fun e => hq2240 (e ▸ hm2096)
  have hm2292 := hs2241 _ hm2096
  have hf2294 := (ho2244 q638 hm2099).trans hf2206
  have hn2296 : q638 ≠ q2237 := fun e => hq2240 (e ▸ hm2099)
  have hm2295 := hs2241 _ hm2099
  have hf2297 := (ho2244 q639 hm2102).trans hf2207
  have hn2299 : q639 ≠ q2237 := fun e => hq2240 (e ▸ hm2102)
  have hm2298 := hs2241 _ hm2102
  have hf2300 := (ho2244 q640 hm2105).trans hf2208
  have hn2302 : q640 ≠ q2237 := fun e => hq2240 (e ▸ hm2105)
  have hm2301 := hs2241 _ hm2105
  have hf2303 := (ho2244 q641 hm2108).trans hf2209
  have hn2305 : q641 ≠ q2237 := fun e => hq2240 (e ▸ hm2108)
  have hm2304 := hs2241 _ hm2108
  have hf2306 := (ho2244 q642 hm2111).trans hf2210
  have hn2308 : q642 ≠ q2237 := fun e => hq2240 (e ▸ hm2111)
  have hm2307 := hs2241 _ hm2111
  have hf2309 := (ho2244 q643 hm2114).trans hf2211
  have hn2311 : q643 ≠ q2237 := fun e => hq2240 (e ▸ hm2114)
  have hm2310 := hs2241 _ hm2114
  have hf2312 := (ho2244 q644 hm2117).trans hf2212
  have hn2314 : q644 ≠ q2237 := fun e => hq2240 (e ▸ hm2117)
  have hm2313 := hs2241 _ hm2117
  have hf2315 := (ho2244 q645 hm2120).trans hf2213
  have hn2317 : q645 ≠ q2237 := fun e => hq2240 (e ▸ hm2120)
  have hm2316 := hs2241 _ hm2120
  have hf2318 := (ho2244 q646 hm2123).trans hf2214
  have hn2320 : q646 ≠ q2237 := fun e => hq2240 (e ▸ hm2123)
  have hm2319 := hs2241 _ hm2123
  have hf2321 := (ho2244 q870 hm2126).trans hf2215
  have hn2323 : q870 ≠ q2237 := fun e => hq2240 (e ▸ hm2126)
  have hm2322 := hs2241 _ hm2126
  have hf2324 := (ho2244 q956 hm2129).trans hf2216
  have hn2326 : q956 ≠ q2237 := fun e => hq2240 (e ▸ hm2129)
  have hm2325 := hs2241 _ hm2129
  have hf2327 := (ho2244 q957 hm2132).trans hf2217
  have hn2329 : q957 ≠ q2237 := fun e => hq2240 (e ▸ hm2132)
  have hm2328 := hs2241 _ hm2132
  have hf2330 := (ho2244 q958 hm2135).trans hf2218
  have hn2332 : q958 ≠ q2237 := fun e => hq2240 (e ▸ hm2135)
  have hm2331 := hs2241 _ hm2135
  have hf2333 := (ho2244 q959 hm2138).trans hf2219
  have hn2335 : q959 ≠ q2237 := fun e => hq2240 (e ▸ hm2138)
  have hm2334 := hs2241 _ hm2138
  have hf2336 := (ho2244 q960 hm2141).trans hf2220
  have hn2338 : q960 ≠ q2237 := fun e => hq2240 (e ▸ hm2141)
  have hm2337 := hs2241 _ hm2141
  have hf2339 := (ho2244 q961 hm2144).trans hf2221
  have hn2341 : q961 ≠ q2237 := fun e => hq2240 (e ▸ hm2144)
  have hm2340 := hs2241 _ hm2144
  have hf2342 := (ho2244 q962 hm2147).trans hf2222
  have hn2344 : q962 ≠ q2237 := fun e => hq2240 (e ▸ hm2147)
  have hm2343 := hs2241 _ hm2147
  have hf2345 := (ho2244 q963 hm2150).trans hf2223
  have hn2347 : q963 ≠ q2237 := fun e => hq2240 (e ▸ hm2150)
  have hm2346 := hs2241 _ hm2150
  have hf2348 := (ho2244 q964 hm2153).trans hf2224
  have hn2350 : q964 ≠ q2237 := fun e => hq2240 (e ▸ hm2153)
  have hm2349 := hs2241 _ hm2153
  have hf2351 := (ho2244 q1308 hm2156).trans hf2225
  have hn2353 : q1308 ≠ q2237 := fun e => hq2240 (e ▸ hm2156)
  have hm2352 := hs2241 _ hm2156
  have hf2354 := (ho2244 q1424 hm2159).trans hf2226
  have hn2356 : q1424 ≠ q2237 := fun e => hq2240 (e ▸ hm2159)
  have hm2355 := hs2241 _ hm2159
  have hf2357 := (ho2244 q1425 hm2162).trans hf2227
  have hn2359 : q1425 ≠ q2237 := fun e => hq2240 (e ▸ hm2162)
  have hm2358 := hs2241 _ hm2162
  have hf2360 := (ho2244 q1426 hm2165).trans hf2228
  have hn2362 : q1426 ≠ q2237 := fun e => hq2240 (e ▸ hm2165)
  have hm2361 := hs2241 _ hm2165
  have hf2363 := (ho2244 q1427 hm2168).trans hf2229
  have hn2365 : q1427 ≠ q2237 := fun e => hq2240 (e ▸ hm2168)
  have hm2364 := hs2241 _ hm2168
  have hf2366 := (ho2244 q1428 hm2171).trans hf2230
  have hn2368 : q1428 ≠ q2237 := fun e => hq2240 (e ▸ hm2171)
  have hm2367 := hs2241 _ hm2171
  have hf2369 := (ho2244 q1429 hm2174).trans hf2231
  have hn2371 : q1429 ≠ q2237 := fun e => hq2240 (e ▸ hm2174)
  have hm2370 := hs2241 _ hm2174
  have hf2372 := (ho2244 q1430 hm2177).trans hf2232
  have hn2374 : q1430 ≠ q2237 := fun e => hq2240 (e ▸ hm2177)
  have hm2373 := hs2241 _ hm2177
  have hf2375 := (ho2244 q1431 hm2180).trans hf2233
  have hn2377 : q1431 ≠ q2237 := fun e => hq2240 (e ▸ hm2180)
  have hm2376 := hs2241 _ hm2180
  have hf2378 := (ho2244 q1432 hm2183).trans hf2234
  have hn2380 : q1432 ≠ q2237 := fun e => hq2240 (e ▸ hm2183)
  have hm2379 := hs2241 _ hm2183
  have hf2381 := (ho2244 q1896 hm2186).trans hf2235
  have hn2383 : q1896 ≠ q2237 := fun e => hq2240 (e ▸ hm2186)
  have hm2382 := hs2241 _ hm2186
  have hf2384 := (ho2244 q2042 hm2046).trans hf2236
  have hn2386 : q2042 ≠ q2237 := fun e => hq2240 (e ▸ hm2046)
  have hm2385 := hs2241 _ hm2046
  refine lv_dup hx hb dX10_init_140 rfl ?_
  refine call_v (run_IN (rm := { frames := 2, cells := 6, slots := 288, locals := 32 }) hx hb hml hown hts (k_X7_init l g _ _ _ q2237 hm2242 hf2243) cI_X7_init wn_426 ⟨Nat.le_of_ble_eq_true rfl, Nat.le_of_ble_eq_true rfl⟩ hG hE hA hP hD hS rfl hl.1 (As := []) (rest := [.ref q2237, .ref x]) rfl (Nat.le_of_ble_eq_true rfl) dX10_init_141 ⟨Nat.le_of_ble_eq_true rfl, Nat.le_of_ble_eq_true rfl⟩) hA hD hS (fun L2388 f2389 H locs hp2390 hP hD hS => ?_)
  obtain ⟨q2391, q2392, q2393, q2394, q2395, q2396, hn2397, hm2398, hf2399, hn2400, hm2401, hf2402, hn2403, hm2404, hf2405, hn2406, hm2407, hf2408, hn2409, hm2410, hf2411, hn2412, hm2413, hf2414, hf2415, er2416, fr2417, sb2418⟩ := hp2390
  have hN2419 : [q2391, q2392, q2393, q2394, q2395, q2396, q2237, q2042, q1896, q1424, q1425, q1426, q1427, q1428, q1429, q1430, q1431, q1432, q1308, q956, q957, q958, q959, q960, q961, q962, q963, q964, q870, q638, q639, q640, q641, q642, q643, q644, q645, q646, q582, q482, q388, q321, q322, q280, q236, q201, q143, q91, q45, q21, q1].Nodup := nd_app (l := [q2391, q2392, q2393, q2394, q2395, q2396]) (k := [q2237, q2042, q1896, q1424, q1425, q1426, q1427, q1428, q1429, q1430, q1431, q1432, q1308, q956, q957, q958, q959, q960, q961, q962, q963, q964, q870, q638, q639, q640, q641, q642, q643, q644, q645, q646, q582, q482, q388, q321, q322, q280, q236, q201, q143, q91, q45, q21, q1]) er2416 (List.forall_mem_cons.mpr ⟨hn2397, (List.forall_mem_cons.mpr ⟨hn2400, (List.forall_mem_cons.mpr ⟨hn2403, (List.forall_mem_cons.mpr ⟨hn2406, (List.forall_mem_cons.mpr ⟨hn2409, (List.forall_mem_cons.mpr ⟨hn2412, (fun _ h => absurd h List.not_mem_nil)⟩)⟩)⟩)⟩)⟩)⟩) hN2245 hNs2246
  have hNs2420 : ∀ b, b ∈ [q2391, q2392, q2393, q2394, q2395, q2396, q2237, q2042, q1896, q1424, q1425, q1426, q1427, q1428, q1429, q1430, q1431, q1432, q1308, q956, q957, q958, q959, q960, q961, q962, q963, q964, q870, q638, q639, q640, q641, q642, q643, q644, q645, q646, q582, q482, q388, q321, q322, q280, q236, q201, q143, q91, q45, q21, q1] → b ∈ L2388 := fm_app (l := [q2391, q2392, q2393, q2394, q2395, q2396]) (k := [q2237, q2042, q1896, q1424, q1425, q1426, q1427, q1428, q1429, q1430, q1431, q1432, q1308, q956, q957, q958, q959, q960, q961, q962, q963, q964, q870, q638, q639, q640, q641, q642, q643, q644, q645, q646, q582, q482, q388, q321, q322, q280, q236, q201, q143, q91, q45, q21, q1]) (List.forall_mem_cons.mpr ⟨hm2398, (List.forall_mem_cons.mpr ⟨hm2401, (List.forall_mem_cons.mpr ⟨hm2404, (List.forall_mem_cons.mpr ⟨hm2407, (List.forall_mem_cons.mpr ⟨hm2410, (List.forall_mem_cons.mpr ⟨hm2413, (fun _ h => absurd h List.not_mem_nil)⟩)⟩)⟩)⟩)⟩)⟩) (fun b hb => sb2418 b (hNs2246 b hb))
  have hRq2421 : ∀ j, j < 20 → ∀ k, k < 10 → aa2044 j k ≠ q2391 := fun j hj k hk e => hn2397 (e ▸ (hR2248.1 j hj k hk).1)
  have hRq2422 : ∀ j, j < 20 → ∀ k, k < 10 → aa2044 j k ≠ q2392 := fun j hj k hk e => hn2400 (e ▸ (hR2248.1 j hj k hk).1)
  have hRq2423 : ∀ j, j < 20 → ∀ k, k < 10 → aa2044 j k ≠ q2393 := fun j hj k hk e => hn2403 (e ▸ (hR2248.1 j hj k hk).1)
  have hRq2424 : ∀ j, j < 20 → ∀ k, k < 10 → aa2044 j k ≠ q2394 := fun j hj k hk e => hn2406 (e ▸ (hR2248.1 j hj k hk).1)
  have hRq2425 : ∀ j, j < 20 → ∀ k, k < 10 → aa2044 j k ≠ q2395 := fun j hj k hk e => hn2409 (e ▸ (hR2248.1 j hj k hk).1)
  have hRq2426 : ∀ j, j < 20 → ∀ k, k < 10 → aa2044 j k ≠ q2396 := fun j hj k hk e => hn2412 (e ▸ (hR2248.1 j hj k hk).1)
  have hR2427 : RINGP g L1897 L2388 f2389 20 aa2044 := RINGP.tr hR2248 hRq2247 sb2418 (fun b hb hn => fr2417 b hb hn)
  have hfr2428 : ∀ b, b ∈ L → b ≠ x → f2389 b = f b := fun b hb z0 => (fr2417 b (hsb2250 b hb) (fun e => hnq2251 (e ▸ hb))).trans (hfr2249 b hb z0)
  have hnq2430 : q2391 ∉ L := fun h => hn2397 (hsb2250 _ h)
  have hnq2431 : q2392 ∉ L := fun h => hn2400 (hsb2250 _ h)
  have hnq2432 : q2393 ∉ L := fun h => hn2403 (hsb2250 _ h)
  have hnq2433 : q2394 ∉ L := fun h => hn2406 (hsb2250 _ h)
  have hnq2434 : q2395 ∉ L := fun h => hn2409 (hsb2250 _ h)
  have hnq2435 : q2396 ∉ L := fun h => hn2412 (hsb2250 _ h)
  have hsb2429 : ∀ b, b ∈ L → b ∈ L2388 := fun b hb => sb2418 b (hsb2250 b hb)
  have hn2437 : x ≠ q2391 := fun e => hn2397 (e ▸ hm2253)
  have hn2438 : x ≠ q2392 := fun e => hn2400 (e ▸ hm2253)
  have hn2439 : x ≠ q2393 := fun e => hn2403 (e ▸ hm2253)
  have hn2440 : x ≠ q2394 := fun e => hn2406 (e ▸ hm2253)
  have hn2441 : x ≠ q2395 := fun e => hn2409 (e ▸ hm2253)
  have hn2442 : x ≠ q2396 := fun e => hn2412 (e ▸ hm2253)
  have hf2443 := (fr2417 x hm2253 hn2254).trans hf2252
  have hm2436 := sb2418 _ hm2253
  have hn2445 : q1 ≠ q2391 := fun e => hn2397 (e ▸ hm2256)
  have hn2446 : q1 ≠ q2392 := fun e => hn2400 (e ▸ hm2256)
  have hn2447 : q1 ≠ q2393 := fun e => hn2403 (e ▸ hm2256)
  have hn2448 : q1 ≠ q2394 := fun e => hn2406 (e ▸ hm2256)
  have hn2449 : q1 ≠ q2395 := fun e => hn2409 (e ▸ hm2256)
  have hn2450 : q1 ≠ q2396 := fun e => hn2412 (e ▸ hm2256)
  have hf2451 := (fr2417 q1 hm2256 hn2257).trans hf2255
  have hm2444 := sb2418 _ hm2256
  have hn2453 : q21 ≠ q2391 := fun e => hn2397 (e ▸ hm2259)
  have hn2454 : q21 ≠ q2392 := fun e => hn2400 (e ▸ hm2259)
  have hn2455 : q21 ≠ q2393 := fun e => hn2403 (e ▸ hm2259)
  have hn2456 : q21 ≠ q2394 := fun e => hn2406 (e ▸ hm2259)
  have hn2457 : q21 ≠ q2395 := fun e => hn2409 (e ▸ hm2259)
  have hn2458 : q21 ≠ q2396 := fun e => hn2412 (e ▸ hm2259)
  have hf2459 := (fr2417 q21 hm2259 hn2260).trans hf2258
  have hm2452 := sb2418 _ hm2259
  have hn2461 : q45 ≠ q2391 := fun e => hn2397 (e ▸ hm2262)
  have hn2462 : q45 ≠ q2392 := fun e => hn2400 (e ▸ hm2262)
  have hn2463 : q45 ≠ q2393 := fun e => hn2403 (e ▸ hm2262)
  have hn2464 : q45 ≠ q2394 := fun e => hn2406 (e ▸ hm2262)
  have hn2465 : q45 ≠ q2395 := fun e => hn2409 (e ▸ hm2262)
  have hn2466 : q45 ≠ q2396 := fun e => hn2412 (e ▸ hm2262)
  have hf2467 := (fr2417 q45 hm2262 hn2263).trans hf2261
  have hm2460 := sb2418 _ hm2262
  have hn2469 : q91 ≠ q2391 := fun e => hn2397 (e ▸ hm2265)
  have hn2470 : q91 ≠ q2392 := fun e => hn2400 (e ▸ hm2265)
  have hn2471 : q91 ≠ q2393 := fun e => hn2403 (e ▸ hm2265)
  have hn2472 : q91 ≠ q2394 := fun e => hn2406 (e ▸ hm2265)
  have hn2473 : q91 ≠ q2395 := fun e => hn2409 (e ▸ hm2265)
  have hn2474 : q91 ≠ q2396 := fun e => hn2412 (e ▸ hm2265)
  have hf2475 := (fr2417 q91 hm2265 hn2266).trans hf2264
  have hm2468 := sb2418 _ hm2265
  have hn2477 : q143 ≠ q2391 := fun e => hn2397 (e ▸ hm2268)
  have hn2478 : q143 ≠ q2392 := fun e => hn2400 (e ▸ hm2268)
  have hn2479 : q143 ≠ q2393 := fun e => hn2403 (e ▸ hm2268)
  have hn2480 : q143 ≠ q2394 := fun e => hn2406 (e ▸ hm2268)
  have hn2481 : q143 ≠ q2395 := fun e => hn2409 (e ▸ hm2268)
  have hn2482 : q143 ≠ q2396 := fun e => hn2412 (e ▸ hm2268)
  have hf2483 := (fr2417 q143 hm2268 hn2269).trans hf2267
  have hm2476 := sb2418 _ hm2268
  have hn2485 : q201 ≠ q2391 := fun e => hn2397 (e ▸ hm2271)
  have hn2486 : q201 ≠ q2392 := fun e => hn2400 (e ▸ hm2271)
  have hn2487 : q201 ≠ q2393 := fun e => hn2403 (e ▸ hm2271)
  have hn2488 : q201 ≠ q2394 := fun e => hn2406 (e ▸ hm2271)
  have hn2489 : q201 ≠ q2395 := fun e => hn2409 (e ▸ hm2271)
  have hn2490 : q201 ≠ q2396 := fun e => hn2412 (e ▸ hm2271)
  have hf2491 := (fr2417 q201 hm2271 hn2272).trans hf2270
  have hm2484 := sb2418 _ hm2271
  have hn2493 : q236 ≠ q2391 := fun e => hn2397 (e ▸ hm2274)
  have hn2494 : q236 ≠ q2392 := fun e => hn2400 (e ▸ hm2274)
  have hn2495 : q236 ≠ q2393 := fun e => hn2403 (e ▸ hm2274)
  have hn2496 : q236 ≠ q2394 := fun e => hn2406 (e ▸ hm2274)
  have hn2497 : q236 ≠ q2395 := fun e => hn2409 (e ▸ hm2274)
  have hn2498 : q236 ≠ q2396 := fun e => hn2412 (e ▸ hm2274)
  have hf2499 := (fr2417 q236 hm2274 hn2275).trans hf2273
  have hm2492 := sb2418 _ hm2274
  have hn2501 : q280 ≠ q2391 := fun e => hn2397 (e ▸ hm2277)
  have hn2502 : q280 ≠ q2392 := fun e => hn2400 (e ▸ hm2277)
  have hn2503 : q280 ≠ q2393 := fun e => hn2403 (e ▸ hm2277)
  have hn2504 : q280 ≠ q2394 := fun e => hn2406 (e ▸ hm2277)
  have hn2505 : q280 ≠ q2395 := fun e => hn2409 (e ▸ hm2277)
  have hn2506 : q280 ≠ q2396 := fun e => hn2412 (e ▸ hm2277)
  have hf2507 := (fr2417 q280 hm2277 hn2278).trans hf2276
  have hm2500 := sb2418 _ hm2277
  have hn2509 : q321 ≠ q2391 := fun e => hn2397 (e ▸ hm2280)
  have hn2510 : q321 ≠ q2392 := fun e => hn2400 (e ▸ hm2280)
  have hn2511 : q321 ≠ q2393 := fun e => hn2403 (e ▸ hm2280)
  have hn2512 : q321 ≠ q2394 := fun e => hn2406 (e ▸ hm2280)
  have hn2513 : q321 ≠ q2395 := fun e => hn2409 (e ▸ hm2280)
  have hn2514 : q321 ≠ q2396 := fun e => hn2412 (e ▸ hm2280)
  have hf2515 := (fr2417 q321 hm2280 hn2281).trans hf2279
  have hm2508 := sb2418 _ hm2280
  have hn2517 : q322 ≠ q2391 := fun e => hn2397 (e ▸ hm2283)
  have hn2518 : q322 ≠ q2392 := fun e => hn2400 (e ▸ hm2283)
  have hn2519 : q322 ≠ q2393 := fun e => hn2403 (e ▸ hm2283)
  have hn2520 : q322 ≠ q2394 := fun e => hn2406 (e ▸ hm2283)
  have hn2521 : q322 ≠ q2395 := fun e => hn2409 (e ▸ hm2283)
  have hn2522 : q322 ≠ q2396 := fun e => hn2412 (e ▸ hm2283)
  have hf2523 := (fr2417 q322 hm2283 hn2284).trans hf2282
  have hm2516 := sb2418 _ hm2283
  have hn2525 : q388 ≠ q2391 := fun e => hn2397 (e ▸ hm2286)
  have hn2526 : q388 ≠ q2392 := fun e => hn2400 (e ▸ hm2286)
  have hn2527 : q388 ≠ q2393 := fun e => hn2403 (e ▸ hm2286)
  have hn2528 : q388 ≠ q2394 := fun e => hn2406 (e ▸ hm2286)
  have hn2529 : q388 ≠ q2395 := fun e => hn2409 (e ▸ hm2286)
  have hn2530 : q388 ≠ q2396 := fun e => hn2412 (e ▸ hm2286)
  have hf2531 := (fr2417 q388 hm2286 hn2287).trans hf2285
  have hm2524 := sb2418 _ hm2286
  have hn2533 : q482 ≠ q2391 := fun e => hn2397 (e ▸ hm2289)
  have hn2534 : q482 ≠ q2392 := fun e => hn2400 (e ▸ hm2289)
  have hn2535 : q482 ≠ q2393 := fun e => hn2403 (e ▸ hm2289)
  have hn2536 : q482 ≠ q2394 := fun e => hn2406 (e ▸ hm2289)
  have hn2537 : q482 ≠ q2395 := fun e => hn2409 (e ▸ hm2289)
  have hn2538 : q482 ≠ q2396 := fun e => hn2412 (e ▸ hm2289)
  have hf2539 := (fr2417 q482 hm2289 hn2290).trans hf2288
  have hm2532 := sb2418 _ hm2289
  have hn2541 : q582 ≠ q2391 := fun e => hn2397 (e ▸ hm2292)
  have hn2542 : q582 ≠ q2392 := fun e => hn2400 (e ▸ hm2292)
  have hn2543 : q582 ≠ q2393 := fun e => hn2403 (e ▸ hm2292)
  have hn2544 : q582 ≠ q2394 := fun e => hn2406 (e ▸ hm2292)
  have hn2545 : q582 ≠ q2395 := fun e => hn2409 (e ▸ hm2292)
  have hn2546 : q582 ≠ q2396 := fun e => hn2412 (e ▸ hm2292)
  have hf2547 := (fr2417 q582 hm2292 hn2293).trans hf2291
  have hm2540 := sb2418 _ hm2292
  have hn2549 : q638 ≠ q2391 := fun e => hn2397 (e ▸ hm2295)
  have hn2550 : q638 ≠ q2392 := fun e => hn2400 (e ▸ hm2295)
  have hn2551 : q638 ≠ q2393 := fun e => hn2403 (e ▸ hm2295)
  have hn2552 : q638 ≠ q2394 := fun e => hn2406 (e ▸ hm2295)
  have hn2553 : q638 ≠ q2395 := fun e => hn2409 (e ▸ hm2295)
  have hn2554 : q638 ≠ q2396 := fun e => hn2412 (e ▸ hm2295)
  have hf2555 := (fr2417 q638 hm2295 hn2296).trans hf2294
  have hm2548 := sb2418 _ hm2295
  have hn2557 : q639 ≠ q2391 := fun e => hn2397 (e ▸ hm2298)
  have hn2558 : q639 ≠ q2392 := fun e => hn2400 (e ▸ hm2298)
  have hn2559 : q639 ≠ q2393 := fun e => hn2403 (e ▸ hm2298)
  have hn2560 : q639 ≠ q2394 := fun e => hn2406 (e ▸ hm2298)
  have hn2561 : q639 ≠ q2395 := fun e => hn2409 (e ▸ hm2298)
  have hn2562 : q639 ≠ q2396 := fun e => hn2412 (e ▸ hm2298)
  have hf2563 := (fr2417 q639 hm2298 hn2299).trans hf2297
  have hm2556 := sb2418 _ hm2298
  have hn2565 : q640 ≠ q2391 := fun e => hn2397 (e ▸ hm2301)
  have hn2566 : q640 ≠ q2392 := fun e => hn2400 (e ▸ hm2301)
  have hn2567 : q640 ≠ q2393 := fun e => hn2403 (e ▸ hm2301)
  have hn2568 : q640 ≠ q2394 := fun e => hn2406 (e ▸ hm2301)
  have hn2569 : q640 ≠ q2395 := fun e => hn2409 (e ▸ hm2301)
  have hn2570 : q640 ≠ q2396 := fun e => hn2412 (e ▸ hm2301)
  have hf2571 := (fr2417 q640 hm2301 hn2302).trans hf2300
  have hm2564 := sb2418 _ hm2301
  have hn2573 : q641 ≠ q2391 := fun e => hn2397 (e ▸ hm2304)
  have hn2574 : q641 ≠ q2392 := fun e => hn2400 (e ▸ hm2304)
  have hn2575 : q641 ≠ q2393 := fun e => hn2403 (e ▸ hm2304)
  have hn2576 : q641 ≠ q2394 := fun e => hn2406 (e ▸ hm2304)
  have hn2577 : q641 ≠ q2395 := fun e => hn2409 (e ▸ hm2304)
  have hn2578 : q641 ≠ q2396 := fun e => hn2412 (e ▸ hm2304)
  have hf2579 := (fr2417 q641 hm2304 hn2305).trans hf2303
  have hm2572 := sb2418 _ hm2304
  have hn2581 : q642 ≠ q2391 := fun e => hn2397 (e ▸ hm2307)
  have hn2582 : q642 ≠ q2392 := fun e => hn2400 (e ▸ hm2307)
  have hn2583 : q642 ≠ q2393 := fun e => hn2403 (e ▸ hm2307)
  have hn2584 : q642 ≠ q2394 := fun e => hn2406 (e ▸ hm2307)
  have hn2585 : q642 ≠ q2395 := fun e => hn2409 (e ▸ hm2307)
  have hn2586 : q642 ≠ q2396 := fun e => hn2412 (e ▸ hm2307)
  have hf2587 := (fr2417 q642 hm2307 hn2308).trans hf2306
  have hm2580 := sb2418 _ hm2307
  have hn2589 : q643 ≠ q2391 := fun e => hn2397 (e ▸ hm2310)
  have hn2590 : q643 ≠ q2392 := fun e => hn2400 (e ▸ hm2310)
  have hn2591 : q643 ≠ q2393 := fun e => hn2403 (e ▸ hm2310)
  have hn2592 : q643 ≠ q2394 := fun e => hn2406 (e ▸ hm2310)
  have hn2593 : q643 ≠ q2395 := fun e => hn2409 (e ▸ hm2310)
  have hn2594 : q643 ≠ q2396 := fun e => hn2412 (e ▸ hm2310)
  have hf2595 := (fr2417 q643 hm2310 hn2311).trans hf2309
  have hm2588 := sb2418 _ hm2310
  have hn2597 : q644 ≠ q2391 := fun e => hn2397 (e ▸ hm2313)
  have hn2598 : q644 ≠ q2392 := fun e => hn2400 (e ▸ hm2313)
  have hn2599 : q644 ≠ q2393 := fun e => hn2403 (e ▸ hm2313)
  have hn2600 : q644 ≠ q2394 := fun e => hn2406 (e ▸ hm2313)
  have hn2601 : q644 ≠ q2395 := fun e => hn2409 (e ▸ hm2313)
  have hn2602 : q644 ≠ q2396 := fun e => hn2412 (e ▸ hm2313)
  have hf2603 := (fr2417 q644 hm2313 hn2314).trans hf2312
  have hm2596 := sb2418 _ hm2313
  have hn2605 : q645 ≠ q2391 := fun e => hn2397 (e ▸ hm2316)
  have hn2606 : q645 ≠ q2392 := fun e => hn2400 (e ▸ hm2316)
  have hn2607 : q645 ≠ q2393 := fun e => hn2403 (e ▸ hm2316)
  have hn2608 : q645 ≠ q2394 := fun e => hn2406 (e ▸ hm2316)
  have hn2609 : q645 ≠ q2395 := fun e => hn2409 (e ▸ hm2316)
  have hn2610 : q645 ≠ q2396 := fun e => hn2412 (e ▸ hm2316)
  have hf2611 := (fr2417 q645 hm2316 hn2317).trans hf2315
  have hm2604 := sb2418 _ hm2316
  have hn2613 : q646 ≠ q2391 := fun e => hn2397 (e ▸ hm2319)
  have hn2614 : q646 ≠ q2392 := fun e => hn2400 (e ▸ hm2319)
  have hn2615 : q646 ≠ q2393 := fun e => hn2403 (e ▸ hm2319)
  have hn2616 : q646 ≠ q2394 := fun e => hn2406 (e ▸ hm2319)
  have hn2617 : q646 ≠ q2395 := fun e => hn2409 (e ▸ hm2319)
  have hn2618 : q646 ≠ q2396 := fun e => hn2412 (e ▸ hm2319)
  have hf2619 := (fr2417 q646 hm2319 hn2320).trans hf2318
  have hm2612 := sb2418 _ hm2319
  have hn2621 : q870 ≠ q2391 := fun e => hn2397 (e ▸ hm2322)
  have hn2622 : q870 ≠ q2392 := fun e => hn2400 (e ▸ hm2322)
  have hn2623 : q870 ≠ q2393 := fun e => hn2403 (e ▸ hm2322)
  have hn2624 : q870 ≠ q2394 := fun e => hn2406 (e ▸ hm2322)
  have hn2625 : q870 ≠ q2395 := fun e => hn2409 (e ▸ hm2322)
  have hn2626 : q870 ≠ q2396 := fun e => hn2412 (e ▸ hm2322)
  have hf2627 := (fr2417 q870 hm2322 hn2323).trans hf2321
  have hm2620 := sb2418 _ hm2322
  have hn2629 : q956 ≠ q2391 := fun e => hn2397 (e ▸ hm2325)
  have hn2630 : q956 ≠ q2392 := fun e => hn2400 (e ▸ hm2325)
  have hn2631 : q956 ≠ q2393 := fun e => hn2403 (e ▸ hm2325)
  have hn2632 : q956 ≠ q2394 := fun e => hn2406 (e ▸ hm2325)
  have hn2633 : q956 ≠ q2395 := fun e => hn2409 (e ▸ hm2325)
  have hn2634 : q956 ≠ q2396 := fun e => hn2412 (e ▸ hm2325)
  have hf2635 := (fr2417 q956 hm2325 hn2326).trans hf2324
  have hm2628 := sb2418 _ hm2325
  have hn2637 : q957 ≠ q2391 := fun e => hn2397 (e ▸ hm2328)
  have hn2638 : q957 ≠ q2392 := fun e => hn2400 (e ▸ hm2328)
  have hn2639 : q957 ≠ q2393 := fun e => hn2403 (e ▸ hm2328)
  have hn2640 : q957 ≠ q2394 := fun e => hn2406 (e ▸ hm2328)
  have hn2641 : q957 ≠ q2395 := fun e => hn2409 (e ▸ hm2328)
  have hn2642 : q957 ≠ q2396 := fun e => hn2412 (e ▸ hm2328)
  have hf2643 := (fr2417 q957 hm2328 hn2329).trans hf2327
  have hm2636 := sb2418 _ hm2328
  have hn2645 : q958 ≠ q2391 := fun e => hn2397 (e ▸ hm2331)
  have hn2646 : q958 ≠ q2392 := fun e => hn2400 (e ▸ hm2331)
  have hn2647 : q958 ≠ q2393 := fun e => hn2403 (e ▸ hm2331)
  have hn2648 : q958 ≠ q2394 := fun e => hn2406 (e ▸ hm2331)
  have hn2649 : q958 ≠ q2395 := fun e => hn2409 (e ▸ hm2331)
  have hn2650 : q958 ≠ q2396 := fun e => hn2412 (e ▸ hm2331)
  have hf2651 := (fr2417 q958 hm2331 hn2332).trans hf2330
  have hm2644 := sb2418 _ hm2331
  have hn2653 : q959 ≠ q2391 := fun e => hn2397 (e ▸ hm2334)
  have hn2654 : q959 ≠ q2392 := fun e => hn2400 (e ▸ hm2334)
  have hn2655 : q959 ≠ q2393 := fun e => hn2403 (e ▸ hm2334)
  have hn2656 : q959 ≠ q2394 := fun e => hn2406 (e ▸ hm2334)
  have hn2657 : q959 ≠ q2395 := fun e => hn2409 (e ▸ hm2334)
  have hn2658 : q959 ≠ q2396 := fun e => hn2412 (e ▸ hm2334)
  have hf2659 := (fr2417 q959 hm2334 hn2335).trans hf2333
  have hm2652 := sb2418 _ hm2334
  have hn2661 : q960 ≠ q2391 := fun e => hn2397 (e ▸ hm2337)
  have hn2662 : q960 ≠ q2392 := fun e => hn2400 (e ▸ hm2337)
  have hn2663 : q960 ≠ q2393 := fun e => hn2403 (e ▸ hm2337)
  have hn2664 : q960 ≠ q2394 := fun e => hn2406 (e ▸ hm2337)
  have hn2665 : q960 ≠ q2395 := fun e => hn2409 (e ▸ hm2337)
  have hn2666 : q960 ≠ q2396 := fun e => hn2412 (e ▸ hm2337)
  have hf2667 := (fr2417 q960 hm2337 hn2338).trans hf2336
  have hm2660 := sb2418 _ hm2337
  have hn2669 : q961 ≠ q2391 := fun e => hn2397 (e ▸ hm2340)
  have hn2670 : q961 ≠ q2392 := fun e => hn2400 (e ▸ hm2340)
  have hn2671 : q961 ≠ q2393 := fun e => hn2403 (e ▸ hm2340)
  have hn2672 : q961 ≠ q2394 := fun e => hn2406 (e ▸ hm2340)
  have hn2673 : q961 ≠ q2395 := fun e => hn2409 (e ▸ hm2340)
  have hn2674 : q961 ≠ q2396 := fun e => hn2412 (e ▸ hm2340)
  have hf2675 := (fr2417 q961 hm2340 hn2341).trans hf2339
  have hm2668 := sb2418 _ hm2340
  have hn2677 : q962 ≠ q2391 := fun e => hn2397 (e ▸ hm2343)
  have hn2678 : q962 ≠ q2392 := fun e => hn2400 (e ▸ hm2343)
  have hn2679 : q962 ≠ q2393 := fun e => hn2403 (e ▸ hm2343)
  have hn2680 : q962 ≠ q2394 := fun e => hn2406 (e ▸ hm2343)
  have hn2681 : q962 ≠ q2395 := fun e => hn2409 (e ▸ hm2343)
  have hn2682 : q962 ≠ q2396 := fun e => hn2412 (e ▸ hm2343)
  have hf2683 := (fr2417 q962 hm2343 hn2344).trans hf2342
  have hm2676 := sb2418 _ hm2343
  have hn2685 : q963 ≠ q2391 := fun e => hn2397 (e ▸ hm2346)
  have hn2686 : q963 ≠ q2392 := fun e => hn2400 (e ▸ hm2346)
  have hn2687 : q963 ≠ q2393 := fun e => hn2403 (e ▸ hm2346)
  have hn2688 : q963 ≠ q2394 := fun e => hn2406 (e ▸ hm2346)
  have hn2689 : q963 ≠ q2395 := fun e => hn2409 (e ▸ hm2346)
  have hn2690 : q963 ≠ q2396 := fun e => hn2412 (e ▸ hm2346)
  have hf2691 := (fr2417 q963 hm2346 hn2347).trans hf2345
  have hm2684 := sb2418 _ hm2346
  have hn2693 : q964 ≠ q2391 := fun e => hn2397 (e ▸ hm2349)
  have hn2694 : q964 ≠ q2392 := fun e => hn2400 (e ▸ hm2349)
  have hn2695 : q964 ≠ q2393 := fun e => hn2403 (e ▸ hm2349)
  have hn2696 : q964 ≠ q2394 := fun e => hn2406 (e ▸ hm2349)
  have hn2697 : q964 ≠ q2395 := fun e => hn2409 (e ▸ hm2349)
  have hn2698 : q964 ≠ q2396 := fun e => hn2412 (e ▸ hm2349)
  have hf2699 := (fr2417 q964 hm2349 hn2350).trans hf2348
  have hm2692 := sb2418 _ hm2349
  have hn2701 : q1308 ≠ q2391 := fun e => hn2397 (e ▸ hm2352)
  have hn2702 : q1308 ≠ q2392 := fun e => hn2400 (e ▸ hm2352)
  have hn2703 : q1308 ≠ q2393 := fun e => hn2403 (e ▸ hm2352)
  have hn2704 : q1308 ≠ q2394 := fun e => hn2406 (e ▸ hm2352)
  have hn2705 : q1308 ≠ q2395 := fun e => hn2409 (e ▸ hm2352)
  have hn2706 : q1308 ≠ q2396 := fun e => hn2412 (e ▸ hm2352)
  have hf2707 := (fr2417 q1308 hm2352 hn2353).trans hf2351
  have hm2700 := sb2418 _ hm2352
  have hn2709 : q1424 ≠ q2391 := fun e => hn2397 (e ▸ hm2355)
  have hn2710 : q1424 ≠ q2392 := fun e => hn2400 (e ▸ hm2355)
  have hn2711 : q1424 ≠ q2393 := fun e => hn2403 (e ▸ hm2355)
  have hn2712 : q1424 ≠ q2394 := fun e => hn2406 (e ▸ hm2355)
  have hn2713 : q1424 ≠ q2395 := fun e => hn2409 (e ▸ hm2355)
  have hn2714 : q1424 ≠ q2396 := fun e => hn2412 (e ▸ hm2355)
  have hf2715 := (fr2417 q1424 hm2355 hn2356).trans hf2354
  have hm2708 := sb2418 _ hm2355
  have hn2717 : q1425 ≠ q2391 := fun e => hn2397 (e ▸ hm2358)
  have hn2718 : q1425 ≠ q2392 := fun e => hn2400 (e ▸ hm2358)
  have hn2719 : q1425 ≠ q2393 := fun e => hn2403 (e ▸ hm2358)
  have hn2720 : q1425 ≠ q2394 := fun e => hn2406 (e ▸ hm2358)
  have hn2721 : q1425 ≠ q2395 := fun e => hn2409 (e ▸ hm2358)
  have hn2722 : q1425 ≠ q2396 := fun e => hn2412 (e ▸ hm2358)
  have hf2723 := (fr2417 q1425 hm2358 hn2359).trans hf2357
  have hm2716 := sb2418 _ hm2358
  have hn2725 : q1426 ≠ q2391 := fun e => hn2397 (e ▸ hm2361)
  have hn2726 : q1426 ≠ q2392 := fun e => hn2400 (e ▸ hm2361)
  have hn2727 : q1426 ≠ q2393 := fun e => hn2403 (e ▸ hm2361)
  have hn2728 : q1426 ≠ q2394 := fun e => hn2406 (e ▸ hm2361)
  have hn2729 : q1426 ≠ q2395 := fun e => hn2409 (e ▸ hm2361)
  have hn2730 : q1426 ≠ q2396 := fun e => hn2412 (e ▸ hm2361)
  have hf2731 := (fr2417 q1426 hm2361 hn2362).trans hf2360
  have hm2724 := sb2418 _ hm2361
  have hn2733 : q1427 ≠ q2391 := fun e => hn2397 (e ▸ hm2364)
  have hn2734 : q1427 ≠ q2392 := fun e => hn2400 (e ▸ hm2364)
  have hn2735 : q1427 ≠ q2393 := fun e => hn2403 (e ▸ hm2364)
  have hn2736 : q1427 ≠ q2394 := fun e => hn2406 (e ▸ hm2364)
  have hn2737 : q1427 ≠ q2395 := fun e => hn2409 (e ▸ hm2364)
  have hn2738 : q1427 ≠ q2396 := fun e => hn2412 (e ▸ hm2364)
  have hf2739 := (fr2417 q1427 hm2364 hn2365).trans hf2363
  have hm2732 := sb2418 _ hm2364
  have hn2741 : q1428 ≠ q2391 := fun e => hn2397 (e ▸ hm2367)
  have hn2742 : q1428 ≠ q2392 := fun e => hn2400 (e ▸ hm2367)
  have hn2743 : q1428 ≠ q2393 := fun e => hn2403 (e ▸ hm2367)
  have hn2744 : q1428 ≠ q2394 := fun e => hn2406 (e ▸ hm2367)
  have hn2745 : q1428 ≠ q2395 := fun e => hn2409 (e ▸ hm2367)
  have hn2746 : q1428 ≠ q2396 := fun e => hn2412 (e ▸ hm2367)
  have hf2747 := (fr2417 q1428 hm2367 hn2368).trans hf2366
  have hm2740 := sb2418 _ hm2367
  have hn2749 : q1429 ≠ q2391 := fun e => hn2397 (e ▸ hm2370)
  have hn2750 : q1429 ≠ q2392 := fun e => hn2400 (e ▸ hm2370)
  have hn2751 : q1429 ≠ q2393 := fun e => hn2403 (e ▸ hm2370)
  have hn2752 : q1429 ≠ q2394 := fun e => hn2406 (e ▸ hm2370)
  have hn2753 : q1429 ≠ q2395 := fun e => hn2409 (e ▸ hm2370)
  have hn2754 : q1429 ≠ q2396 := fun e => hn2412 (e ▸ hm2370)
  have hf2755 := (fr2417 q1429 hm2370 hn2371).trans hf2369
  have hm2748 := sb2418 _ hm2370
  have hn2757 : q1430 ≠ q2391 := fun e => hn2397 (e ▸ hm2373)
  have hn2758 : q1430 ≠ q2392 := fun e => hn2400 (e ▸ hm2373)
  have hn2759 : q1430 ≠ q2393 := fun e => hn2403 (e ▸ hm2373)
  have hn2760 : q1430 ≠ q2394 := fun e => hn2406 (e ▸ hm2373)
  have hn2761 : q1430 ≠ q2395 := fun e => hn2409 (e ▸ hm2373)
  have hn2762 : q1430 ≠ q2396 := fun e => hn2412 (e ▸ hm2373)
  have hf2763 := (fr2417 q1430 hm2373 hn2374).trans hf2372
  have hm2756 := sb2418 _ hm2373
  have hn2765 : q1431 ≠ q2391 := fun e => hn2397 (e ▸ hm2376)
  have hn2766 : q1431 ≠ q2392 := fun e => hn2400 (e ▸ hm2376)
  have hn2767 : q1431 ≠ q2393 := fun e => hn2403 (e ▸ hm2376)
  have hn2768 : q1431 ≠ q2394 := fun e => hn2406 (e ▸ hm2376)
  have hn2769 : q1431 ≠ q2395 := fun e => hn2409 (e ▸ hm2376)
  have hn2770 : q1431 ≠ q2396 := fun e => hn2412 (e ▸ hm2376)
  have hf2771 := (fr2417 q1431 hm2376 hn2377).trans hf2375
  have hm2764 := sb2418 _ hm2376
  have hn2773 : q1432 ≠ q2391 := fun e => hn2397 (e ▸ hm2379)
  have hn2774 : q1432 ≠ q2392 := fun e => hn2400 (e ▸ hm2379)
  have hn2775 : q1432 ≠ q2393 := fun e => hn2403 (e ▸ hm2379)
  have hn2776 : q1432 ≠ q2394 := fun e => hn2406 (e ▸ hm2379)
  have hn2777 : q1432 ≠ q2395 := fun e => hn2409 (e ▸ hm2379)
  have hn2778 : q1432 ≠ q2396 := fun e => hn2412 (e ▸ hm2379)
  have hf2779 := (fr2417 q1432 hm2379 hn2380).trans hf2378
  have hm2772 := sb2418 _ hm2379
  have hn2781 : q1896 ≠ q2391 := fun e => hn2397 (e ▸ hm2382)
  have hn2782 : q1896 ≠ q2392 := fun e => hn2400 (e ▸ hm2382)
  have hn2783 : q1896 ≠ q2393 := fun e => hn2403 (e ▸ hm2382)
  have hn2784 : q1896 ≠ q2394 := fun e => hn2406 (e ▸ hm2382)
  have hn2785 : q1896 ≠ q2395 := fun e => hn2409 (e ▸ hm2382)
  have hn2786 : q1896 ≠ q2396 := fun e => hn2412 (e ▸ hm2382)
  have hf2787 := (fr2417 q1896 hm2382 hn2383).trans hf2381
  have hm2780 := sb2418 _ hm2382
  have hn2789 : q2042 ≠ q2391 := fun e => hn2397 (e ▸ hm2385)
  have hn2790 : q2042 ≠ q2392 := fun e => hn2400 (e ▸ hm2385)
  have hn2791 : q2042 ≠ q2393 := fun e => hn2403 (e ▸ hm2385)
  have hn2792 : q2042 ≠ q2394 := fun e => hn2406 (e ▸ hm2385)
  have hn2793 : q2042 ≠ q2395 := fun e => hn2409 (e ▸ hm2385)
  have hn2794 : q2042 ≠ q2396 := fun e => hn2412 (e ▸ hm2385)
  have hf2795 := (fr2417 q2042 hm2385 hn2386).trans hf2384
  have hm2788 := sb2418 _ hm2385
  have hn2797 : q2237 ≠ q2391 := fun e => hn2397 (e ▸ hm2242)
  have hn2798 : q2237 ≠ q2392 := fun e => hn2400 (e ▸ hm2242)
  have hn2799 : q2237 ≠ q2393 := fun e => hn2403 (e ▸ hm2242)
  have hn2800 : q2237 ≠ q2394 := fun e => hn2406 (e ▸ hm2242)
  have hn2801 : q2237 ≠ q2395 := fun e => hn2409 (e ▸ hm2242)
  have hn2802 : q2237 ≠ q2396 := fun e => hn2412 (e ▸ hm2242)
  have hm2796 := sb2418 _ hm2242
  refine pl_putF (ty := (.object "RulerWord$Search")) (v := .ref q2237) (fs' := [.ref q1, .ref q45, .ref q91, .ref q143, .ref q201, .ref q280, .ref q388, .ref q482, .ref q582, .ref q870, .ref q1308, .ref q1896, .ref q2237, .null, .null, .int 0, .int 0, .long 0]) hx hb hts (fun w h => mT (inX10 w h)) tyX10 tyX10_ok nmX10 hown hG.1 hP hD hS hm2436 hf2443 rfl 12 (by decide) (hts _ (mT wg_487)) (fun _ h => h) rfl hnm rfl (by decide +kernel) (rfl) (rfl) (Nat.le_of_ble_eq_true rfl) rfl dX10_init_144 (fun H locs f2803 hf2805 ho2804 hP hD hS => ?_)
  have hR2806 : RINGP g L1897 L2388 f2803 20 aa2044 := RINGP.tr hR2427 (fun j hj k hk e => (hR2427.1 j hj k hk).2 (e ▸ hm1910)) (fun b hb => hb) (fun b _ hb => ho2804 b hb)
  have hfr2807 : ∀ b, b ∈ L → b ≠ x → f2803 b = f b := fun b hb z0 => (ho2804 b z0).trans (hfr2428 b hb z0)
  have hf2808 := (ho2804 q1 hn16.symm).trans hf2451
  have hf2809 := (ho2804 q21 hn35.symm).trans hf2459
  have hf2810 := (ho2804 q45 hn60.symm).trans hf2467
  have hf2811 := (ho2804 q91 hn106.symm).trans hf2475
  have hf2812 := (ho2804 q143 hn158.symm).trans hf2483
  have hf2813 := (ho2804 q201 hn216.symm).trans hf2491
  have hf2814 := (ho2804 q236 hn250.symm).trans hf2499
  have hf2815 := (ho2804 q280 hn295.symm).trans hf2507
  have hf2816 := (ho2804 q321 hn340.symm).trans hf2515
  have hf2817 := (ho2804 q322 hn341.symm).trans hf2523
  have hf2818 := (ho2804 q388 hn403.symm).trans hf2531
  have hf2819 := (ho2804 q482 hn497.symm).trans hf2539
  have hf2820 := (ho2804 q582 hn597.symm).trans hf2547
  have hf2821 := (ho2804 q638 hn692.symm).trans hf2555
  have hf2822 := (ho2804 q639 hn693.symm).trans hf2563
  have hf2823 := (ho2804 q640 hn694.symm).trans hf2571
  have hf2824 := (ho2804 q641 hn695.symm).trans hf2579
  have hf2825 := (ho2804 q642 hn696.symm).trans hf2587
  have hf2826 := (ho2804 q643 hn697.symm).trans hf2595
  have hf2827 := (ho2804 q644 hn698.symm).trans hf2603
  have hf2828 := (ho2804 q645 hn699.symm).trans hf2611
  have hf2829 := (ho2804 q646 hn700.symm).trans hf2619
  have hf2830 := (ho2804 q870 hn885.symm).trans hf2627
  have hf2831 := (ho2804 q956 hn1010.symm).trans hf2635
  have hf2832 := (ho2804 q957 hn1011.symm).trans hf2643
  have hf2833 := (ho2804 q958 hn1012.symm).trans hf2651
  have hf2834 := (ho2804 q959 hn1013.symm).trans hf2659
  have hf2835 := (ho2804 q960 hn1014.symm).trans hf2667
  have hf2836 := (ho2804 q961 hn1015.symm).trans hf2675
  have hf2837 := (ho2804 q962 hn1016.symm).trans hf2683
  have hf2838 := (ho2804 q963 hn1017.symm).trans hf2691
  have hf2839 := (ho2804 q964 hn1018.symm).trans hf2699
  have hf2840 := (ho2804 q1308 hn1323.symm).trans hf2707
  have hf2841 := (ho2804 q1424 hn1478.symm).trans hf2715
  have hf2842 := (ho2804 q1425 hn1479.symm).trans hf2723
  have hf2843 := (ho2804 q1426 hn1480.symm).trans hf2731
  have hf2844 := (ho2804 q1427 hn1481.symm).trans hf2739
  have hf2845 := (ho2804 q1428 hn1482.symm).trans hf2747
  have hf2846 := (ho2804 q1429 hn1483.symm).trans hf2755
  have hf2847 := (ho2804 q1430 hn1484.symm).trans hf2763
  have hf2848 := (ho2804 q1431 hn1485.symm).trans hf2771
  have hf2849 := (ho2804 q1432 hn1486.symm).trans hf2779
  have hf2850 := (ho2804 q1896 hn1911.symm).trans hf2787
  have hf2851 := (ho2804 q2042 hn2058.symm).trans hf2795
  have hf2852 := (ho2804 q2237 hn2254.symm).trans hf2415
  have hf2853 := (ho2804 q2391 hn2437.symm).trans hf2399
  have hf2854 := (ho2804 q2392 hn2438.symm).trans hf2402
  have hf2855 := (ho2804 q2393 hn2439.symm).trans hf2405
  have hf2856 := (ho2804 q2394 hn2440.symm).trans hf2408
  have hf2857 := (ho2804 q2395 hn2441.symm).trans hf2411
  have hf2858 := (ho2804 q2396 hn2442.symm).trans hf2414
  refine lv_aload_n hx hb dX10_init_147 rfl (lv_at hl 0 rfl) ?_
  refine pl_new (ci := 8) (fs := [.null, .int 0, .int 0, .int 0, .int 0]) (C := RX8) (T := TX8) (N := 5) hx hb hts (fun w h => mT (inX8 w h)) tyX8 tyX8_ok hown (hts _ (mT wg_189)) (hts _ (mT wg_190)) (hts _ (mT wg_158)) hG.1 hP hD hS hA rfl dvX8 (Nat.le_of_ble_eq_true rfl) (Nat.le_of_ble_eq_true rfl) dX10_init_148 (fun q2859 H L2860 f2861 hq2862 hs2863 hm2864 hf2865 ho2866 hP hD hS => ?_)
  have hN2867 : [q2859, q2391, q2392, q2393, q2394, q2395, q2396, q2237, q2042, q1896, q1424, q1425, q1426, q1427, q1428, q1429, q1430, q1431, q1432, q1308, q956, q957, q958, q959, q960, q961, q962, q963, q964, q870, q638, q639, q640, q641, q642, q643, q644, q645, q646, q582, q482, q388, q321, q322, q280, q236, q201, q143, q91, q45, q21, q1].Nodup := List.nodup_cons.mpr ⟨fun h => hq2862 (hNs2420 _ h), hN2419⟩
  have hNs2868 : ∀ b, b ∈ [q2859, q2391, q2392, q2393, q2394, q2395, q2396, q2237, q2042, q1896, q1424, q1425, q1426, q1427, q1428, q1429, q1430, q1431, q1432, q1308, q956, q957, q958, q959, q960, q961, q962, q963, q964, q870, q638, q639, q640, q641, q642, q643, q644, q645, q646, q582, q482, q388, q321, q322, q280, q236, q201, q143, q91, q45, q21, q1] → b ∈ L2860 := List.forall_mem_cons.mpr ⟨hm2864, fun b hb => hs2863 b (hNs2420 b hb)⟩
  have hRq2869 : ∀ j, j < 20 → ∀ k, k < 10 → aa2044 j k ≠ q2859 := fun j hj k hk e => hq2862 (e ▸ (hR2806.1 j hj k hk).1)
  have hR2870 : RINGP g L1897 L2860 f2861 20 aa2044 := RINGP.tr hR2806 hRq2869 hs2863 (fun b hb _ => ho2866 b hb)
  have hfr2871 : ∀ b, b ∈ L → b ≠ x → f2861 b = f b := fun b hb z0 => (ho2866 b (hsb2429 b hb)).trans (hfr2807 b hb z0)
  have hnq2873 : q2859 ∉ L := fun h => hq2862 (hsb2429 _ h)
  have hsb2872 : ∀ b, b ∈ L → b ∈ _ := fun b hb => hs2863 b (hsb2429 b hb)
  have hf2874 := (ho2866 x hm2436).trans hf2805
  have hn2876 : x ≠ q2859 := fun e => hq2862 (e ▸ hm2436)
  have hm2875 := hs2863 _ hm2436
  have hf2877 := (ho2866 q1 hm2444).trans hf2808
  have hn2879 : q1 ≠ q2859 := fun e => hq2862 (e ▸ hm2444)
  have hm2878 := hs2863 _ hm2444
  have hf2880 := (ho2866 q21 hm2452).trans hf2809
  have hn2882 : q21 ≠ q2859 := fun e => hq2862 (e ▸ hm2452)
  have hm2881 := hs2863 _ hm2452
  have hf2883 := (ho2866 q45 hm2460).trans hf2810
  have hn2885 : q45 ≠ q2859 := fun e => hq2862 (e ▸ hm2460)
  have hm2884 := hs2863 _ hm2460
  have hf2886 := (ho2866 q91 hm2468).trans hf2811
  have hn2888 : q91 ≠ q2859 := fun e => hq2862 (e ▸ hm2468)
  have hm2887 := hs2863 _ hm2468
  have hf2889 := (ho2866 q143 hm2476).trans hf2812
  have hn2891 : q143 ≠ q2859 := fun e => hq2862 (e ▸ hm2476)
  have hm2890 := hs2863 _ hm2476
  have hf2892 := (ho2866 q201 hm2484).trans hf2813
  have hn2894 : q201 ≠ q2859 := fun e => hq2862 (e ▸ hm2484)
  have hm2893 := hs2863 _ hm2484
  have hf2895 := (ho2866 q236 hm2492).trans hf2814
  have hn2897 : q236 ≠ q2859 := fun e => hq2862 (e ▸ hm2492)
  have hm2896 := hs2863 _ hm2492
  have hf2898 := (ho2866 q280 hm2500).trans hf2815
  have hn2900 : q280 ≠ q2859 := fun e => hq2862 (e ▸ hm2500)
  have hm2899 := hs2863 _ hm2500
  have hf2901 := (ho2866 q321 hm2508).trans hf2816
  have hn2903 : q321 ≠ q2859 := fun e => hq2862 (e ▸ hm2508)
  have hm2902 := hs2863 _ hm2508
  have hf2904 := (ho2866 q322 hm2516).trans hf2817
  have hn2906 : q322 ≠ q2859 := fun e => hq2862 (e ▸ hm2516)
  have hm2905 := hs2863 _ hm2516
  have hf2907 := (ho2866 q388 hm2524).trans hf2818
  have hn2909 : q388 ≠ q2859 := fun e => hq2862 (e ▸ hm2524)
  have hm2908 := hs2863 _ hm2524
  have hf2910 := (ho2866 q482 hm2532).trans hf2819
  have hn2912 : q482 ≠ q2859 := fun e => hq2862 (e ▸ hm2532)
  have hm2911 := hs2863 _ hm2532
  have hf2913 := (ho2866 q582 hm2540).trans hf2820
  have hn2915 : q582 ≠ q2859 := fun e => hq2862 (e ▸ hm2540)
  have hm2914 := hs2863 _ hm2540
  have hf2916 := (ho2866 q638 hm2548).trans hf2821
  have hn2918 : q638 ≠ q2859 := fun e => hq2862 (e ▸ hm2548)
  have hm2917 := hs2863 _ hm2548
  have hf2919 := (ho2866 q639 hm2556).trans hf2822
  have hn2921 : q639 ≠ q2859 := fun e => hq2862 (e ▸ hm2556)
  have hm2920 := hs2863 _ hm2556
  have hf2922 := (ho2866 q640 hm2564).trans hf2823
  have hn2924 : q640 ≠ q2859 := fun e => hq2862 (e ▸ hm2564)
  have hm2923 := hs2863 _ hm2564
  have hf2925 := (ho2866 q641 hm2572).trans hf2824
  have hn2927 : q641 ≠ q2859 := fun e => hq2862 (e ▸ hm2572)
  have hm2926 := hs2863 _ hm2572
  have hf2928 := (ho2866 q642 hm2580).trans hf2825
  have hn2930 : q642 ≠ q2859 := fun e => hq2862 (e ▸ hm2580)
  have hm2929 := hs2863 _ hm2580
  have hf2931 := (ho2866 q643 hm2588).trans hf2826
  have hn2933 : q643 ≠ q2859 := fun e => hq2862 (e ▸ hm2588)
  have hm2932 := hs2863 _ hm2588
  have hf2934 := (ho2866 q644 hm2596).trans hf2827
  have hn2936 : q644 ≠ q2859 := fun e => hq2862 (e ▸ hm2596)
  have hm2935 := hs2863 _ hm2596
  have hf2937 := (ho2866 q645 hm2604).trans hf2828
  have hn2939 : q645 ≠ q2859 := fun e => hq2862 (e ▸ hm2604)
  have hm2938 := hs2863 _ hm2604
  have hf2940 := (ho2866 q646 hm2612).trans hf2829
  have hn2942 : q646 ≠ q2859 := fun e => hq2862 (e ▸ hm2612)
  have hm2941 := hs2863 _ hm2612
  have hf2943 := (ho2866 q870 hm2620).trans hf2830
  have hn2945 : q870 ≠ q2859 := fun e => hq2862 (e ▸ hm2620)
  have hm2944 := hs2863 _ hm2620
  have hf2946 := (ho2866 q956 hm2628).trans hf2831
  have hn2948 : q956 ≠ q2859 := fun e => hq2862 (e ▸ hm2628)
  have hm2947 := hs2863 _ hm2628
  have hf2949 := (ho2866 q957 hm2636).trans hf2832
  have hn2951 : q957 ≠ q2859 := fun e => hq2862 (e ▸ hm2636)
  have hm2950 := hs2863 _ hm2636
  have hf2952 := (ho2866 q958 hm2644).trans hf2833
  have hn2954 : q958 ≠ q2859 := fun e => hq2862 (e ▸ hm2644)
  have hm2953 := hs2863 _ hm2644
  have hf2955 := (ho2866 q959 hm2652).trans hf2834
  have hn2957 : q959 ≠ q2859 := fun e => hq2862 (e ▸ hm2652)
  have hm2956 := hs2863 _ hm2652
  have hf2958 := (ho2866 q960 hm2660).trans hf2835
  have hn2960 : q960 ≠ q2859 := fun e => hq2862 (e ▸ hm2660)
  have hm2959 := hs2863 _ hm2660
  have hf2961 := (ho2866 q961 hm2668).trans hf2836
  have hn2963 : q961 ≠ q2859 := fun e => hq2862 (e ▸ hm2668)
  have hm2962 := hs2863 _ hm2668
  have hf2964 := (ho2866 q962 hm2676).trans hf2837
  have hn2966 : q962 ≠ q2859 := fun e => hq2862 (e ▸ hm2676)
  have hm2965 := hs2863 _ hm2676
  have hf2967 := (ho2866 q963 hm2684).trans hf2838
  have hn2969 : q963 ≠ q2859 := fun e => hq2862 (e ▸ hm2684)
  have hm2968 := hs2863 _ hm2684
  have hf2970 := (ho2866 q964 hm2692).trans hf2839
  have hn2972 : q964 ≠ q2859 := fun e => hq2862 (e ▸ hm2692)
  have hm2971 := hs2863 _ hm2692
  have hf2973 := (ho2866 q1308 hm2700).trans hf2840
  have hn2975 : q1308 ≠ q2859 := fun e => hq2862 (e ▸ hm2700)
  have hm2974 := hs2863 _ hm2700
  have hf2976 := (ho2866 q1424 hm2708).trans hf2841
  have hn2978 : q1424 ≠ q2859 := fun e => hq2862 (e ▸ hm2708)
  have hm2977 := hs2863 _ hm2708
  have hf2979 := (ho2866 q1425 hm2716).trans hf2842
  have hn2981 : q1425 ≠ q2859 := fun e => hq2862 (e ▸ hm2716)
  have hm2980 := hs2863 _ hm2716
  have hf2982 := (ho2866 q1426 hm2724).trans hf2843
  have hn2984 : q1426 ≠ q2859 := fun e => hq2862 (e ▸ hm2724)
  have hm2983 := hs2863 _ hm2724
  have hf2985 := (ho2866 q1427 hm2732).trans hf2844
  have hn2987 : q1427 ≠ q2859 := fun e => hq2862 (e ▸ hm2732)
  have hm2986 := hs2863 _ hm2732
  have hf2988 := (ho2866 q1428 hm2740).trans hf2845
  have hn2990 : q1428 ≠ q2859 := fun e => hq2862 (e ▸ hm2740)
  have hm2989 := hs2863 _ hm2740
  have hf2991 := (ho2866 q1429 hm2748).trans hf2846
  have hn2993 : q1429 ≠ q2859 := fun e => hq2862 (e ▸ hm2748)
  have hm2992 := hs2863 _ hm2748
  have hf2994 := (ho2866 q1430 hm2756).trans hf2847
  have hn2996 : q1430 ≠ q2859 := fun e => hq2862 (e ▸ hm2756)
  have hm2995 := hs2863 _ hm2756
  have hf2997 := (ho2866 q1431 hm2764).trans hf2848
  have hn2999 : q1431 ≠ q2859 := fun e => hq2862 (e ▸ hm2764)
  have hm2998 := hs2863 _ hm2764
  have hf3000 := (ho2866 q1432 hm2772).trans hf2849
  have hn3002 : q1432 ≠ q2859 := fun e => hq2862 (e ▸ hm2772)
  have hm3001 := hs2863 _ hm2772
  have hf3003 := (ho2866 q1896 hm2780).trans hf2850
  have hn3005 : q1896 ≠ q2859 := fun e => hq2862 (e ▸ hm2780)
  have hm3004 := hs2863 _ hm2780
  have hf3006 := (ho2866 q2042 hm2788).trans hf2851
  have hn3008 : q2042 ≠ q2859 := fun e => hq2862 (e ▸ hm2788)
  have hm3007 := hs2863 _ hm2788
  have hf3009 := (ho2866 q2237 hm2796).trans hf2852
  have hn3011 : q2237 ≠ q2859 := fun e => hq2862 (e ▸ hm2796)
  have hm3010 := hs2863 _ hm2796
  have hf3012 := (ho2866 q2391 hm2398).trans hf2853
  have hn3014 : q2391 ≠ q2859 := fun e => hq2862 (e ▸ hm2398)
  have hm3013 := hs2863 _ hm2398
  have hf3015 := (ho2866 q2392 hm2401).trans hf2854
  have hn3017 : q2392 ≠ q2859 := fun e => hq2862 (e ▸ hm2401)
  have hm3016 := hs2863 _ hm2401
  have hf3018 := (ho2866 q2393 hm2404).trans hf2855
  have hn3020 : q2393 ≠ q2859 := fun e => hq2862 (e ▸ hm2404)
  have hm3019 := hs2863 _ hm2404
  have hf3021 := (ho2866 q2394 hm2407).trans hf2856
  have hn3023 : q2394 ≠ q2859 := fun e => hq2862 (e ▸ hm2407)
  have hm3022 := hs2863 _ hm2407
  have hf3024 := (ho2866 q2395 hm2410).trans hf2857
  have hn3026 : q2395 ≠ q2859 := fun e => hq2862 (e ▸ hm2410)
  have hm3025 := hs2863 _ hm2410
  have hf3027 := (ho2866 q2396 hm2413).trans hf2858
  have hn3029 : q2396 ≠ q2859 := fun e => hq2862 (e ▸ hm2413)
  have hm3028 := hs2863 _ hm2413
  refine lv_dup hx hb dX10_init_151 rfl ?_
  refine call_v (run_IN (rm := { frames := 1, cells := 1, slots := 520, locals := 12 }) hx hb hml hown hts (k_X8_init l g _ _ _ q2859 hm2864 hf2865) cI_X8_init wn_191 ⟨Nat.le_of_ble_eq_true rfl, Nat.le_of_ble_eq_true rfl⟩ hG hE hA hP hD hS rfl hl.1 (As := []) (rest := [.ref q2859, .ref x]) rfl (Nat.le_of_ble_eq_true rfl) dX10_init_152 ⟨Nat.le_of_ble_eq_true rfl, Nat.le_of_ble_eq_true rfl⟩) hA hD hS (fun L3031 f3032 H locs hp3033 hP hD hS => ?_)
  obtain ⟨q3034, hn3035, hm3036, hf3037, hf3038, er3039, fr3040, sb3041⟩ := hp3033
  have hN3042 : [q3034, q2859, q2391, q2392, q2393, q2394, q2395, q2396, q2237, q2042, q1896, q1424, q1425, q1426, q1427, q1428, q1429, q1430, q1431, q1432, q1308, q956, q957, q958, q959, q960, q961, q962, q963, q964, q870, q638, q639, q640, q641, q642, q643, q644, q645, q646, q582, q482, q388, q321, q322, q280, q236, q201, q143, q91, q45, q21, q1].Nodup := nd_app (l := [q3034]) (k := [q2859, q2391, q2392, q2393, q2394, q2395, q2396, q2237, q2042, q1896, q1424, q1425, q1426, q1427, q1428, q1429, q1430, q1431, q1432, q1308, q956, q957, q958, q959, q960, q961, q962, q963, q964, q870, q638, q639, q640, q641, q642, q643, q644, q645, q646, q582, q482, q388, q321, q322, q280, q236, q201, q143, q91, q45, q21, q1]) er3039 (List.forall_mem_cons.mpr ⟨hn3035, (fun _ h => absurd h List.not_mem_nil)⟩) hN2867 hNs2868
  have hNs3043 : ∀ b, b ∈ [q3034, q2859, q2391, q2392, q2393, q2394, q2395, q2396, q2237, q2042, q1896, q1424, q1425, q1426, q1427, q1428, q1429, q1430, q1431, q1432, q1308, q956, q957, q958, q959, q960, q961, q962, q963, q964, q870, q638, q639, q640, q641, q642, q643, q644, q645, q646, q582, q482, q388, q321, q322, q280, q236, q201, q143, q91, q45, q21, q1] → b ∈ L3031 := fm_app (l := [q3034]) (k := [q2859, q2391, q2392, q2393, q2394, q2395, q2396, q2237, q2042, q1896, q1424, q1425, q1426, q1427, q1428, q1429, q1430, q1431, q1432, q1308, q956, q957, q958, q959, q960, q961, q962, q963, q964, q870, q638, q639, q640, q641, q642, q643, q644, q645, q646, q582, q482, q388, q321, q322, q280, q236, q201, q143, q91, q45, q21, q1]) (List.forall_mem_cons.mpr ⟨hm3036, (fun _ h => absurd h List.not_mem_nil)⟩) (fun b hb => sb3041 b (hNs2868 b hb))
  have hRq3044 : ∀ j, j < 20 → ∀ k, k < 10 → aa2044 j k ≠ q3034 := fun j hj k hk e => hn3035 (e ▸ (hR2870.1 j hj k hk).1)
  have hR3045 : RINGP g L1897 L3031 f3032 20 aa2044 := RINGP.tr hR2870 hRq2869 sb3041 (fun b hb hn => fr3040 b hb hn)
  have hfr3046 : ∀ b, b ∈ L → b ≠ x → f3032 b = f b := fun b hb z0 => (fr3040 b (hsb2872 b hb) (fun e => hnq2873 (e ▸ hb))).trans (hfr2871 b hb z0)
  have hnq3048 : q3034 ∉ L := fun h => hn3035 (hsb2872 _ h)
  have hsb3047 : ∀ b, b ∈ L → b ∈ L3031 := fun b hb => sb3041 b (hsb2872 b hb)
  have hn3050 : x ≠ q3034 := fun e => hn3035 (e ▸ hm2875)
  have hf3051 := (fr3040 x hm2875 hn2876).trans hf2874
  have hm3049 := sb3041 _ hm2875
  have hn3053 : q1 ≠ q3034 := fun e => hn3035 (e ▸ hm2878)
  have hf3054 := (fr3040 q1 hm2878 hn2879).trans hf2877
  have hm3052 := sb3041 _ hm2878
  have hn3056 : q21 ≠ q3034 := fun e => hn3035 (e ▸ hm2881)
  have hf3057 := (fr3040 q21 hm2881 hn2882).trans hf2880
  have hm3055 := sb3041 _ hm2881
  have hn3059 : q45 ≠ q3034 := fun e => hn3035 (e ▸ hm2884)
  have hf3060 := (fr3040 q45 hm2884 hn2885).trans hf2883
  have hm3058 := sb3041 _ hm2884
  have hn3062 : q91 ≠ q3034 := fun e => hn3035 (e ▸ hm2887)
  have hf3063 := (fr3040 q91 hm2887 hn2888).trans hf2886
  have hm3061 := sb3041 _ hm2887
  have hn3065 : q143 ≠ q3034 := fun e => hn3035 (e ▸ hm2890)
  have hf3066 := (fr3040 q143 hm2890 hn2891).trans hf2889
  have hm3064 := sb3041 _ hm2890
  have hn3068 : q201 ≠ q3034 := fun e => hn3035 (e ▸ hm2893)
  have hf3069 := (fr3040 q201 hm2893 hn2894).trans hf2892
  have hm3067 := sb3041 _ hm2893
  have hn3071 : q236 ≠ q3034 := fun e => hn3035 (e ▸ hm2896)
  have hf3072 := (fr3040 q236 hm2896 hn2897).trans hf2895
  have hm3070 := sb3041 _ hm2896
  have hn3074 : q280 ≠ q3034 := fun e => hn3035 (e ▸ hm2899)
  have hf3075 := (fr3040 q280 hm2899 hn2900).trans hf2898
  have hm3073 := sb3041 _ hm2899
  have hn3077 : q321 ≠ q3034 := fun e => hn3035 (e ▸ hm2902)
  have hf3078 := (fr3040 q321 hm2902 hn2903).trans hf2901
  have hm3076 := sb3041 _ hm2902
  have hn3080 : q322 ≠ q3034 := fun e => hn3035 (e ▸ hm2905)
  have hf3081 := (fr3040 q322 hm2905 hn2906).trans hf2904
  have hm3079 := sb3041 _ hm2905
  have hn3083 : q388 ≠ q3034 := fun e => hn3035 (e ▸ hm2908)
  have hf3084 := (fr3040 q388 hm2908 hn2909).trans hf2907
  have hm3082 := sb3041 _ hm2908
  have hn3086 : q482 ≠ q3034 := fun e => hn3035 (e ▸ hm2911)
  have hf3087 := (fr3040 q482 hm2911 hn2912).trans hf2910
  have hm3085 := sb3041 _ hm2911
  have hn3089 : q582 ≠ q3034 := fun e => hn3035 (e ▸ hm2914)
  have hf3090 := (fr3040 q582 hm2914 hn2915).trans hf2913
  have hm3088 := sb3041 _ hm2914
  have hn3092 : q638 ≠ q3034 := fun e => hn3035 (e ▸ hm2917)
  have hf3093 := (fr3040 q638 hm2917 hn2918).trans hf2916
  have hm3091 := sb3041 _ hm2917
  have hn3095 : q639 ≠ q3034 := fun e => hn3035 (e ▸ hm2920)
  have hf3096 := (fr3040 q639 hm2920 hn2921).trans hf2919
  have hm3094 := sb3041 _ hm2920
  have hn3098 : q640 ≠ q3034 := fun e => hn3035 (e ▸ hm2923)
  have hf3099 := (fr3040 q640 hm2923 hn2924).trans hf2922
  have hm3097 := sb3041 _ hm2923
  have hn3101 : q641 ≠ q3034 := fun e => hn3035 (e ▸ hm2926)
  have hf3102 := (fr3040 q641 hm2926 hn2927).trans hf2925
  have hm3100 := sb3041 _ hm2926
  have hn3104 : q642 ≠ q3034 := fun e => hn3035 (e ▸ hm2929)
  have hf3105 := (fr3040 q642 hm2929 hn2930).trans hf2928
  have hm3103 := sb3041 _ hm2929
  have hn3107 : q643 ≠ q3034 := fun e => hn3035 (e ▸ hm2932)
  have hf3108 := (fr3040 q643 hm2932 hn2933).trans hf2931
  have hm3106 := sb3041 _ hm2932
  have hn3110 : q644 ≠ q3034 := fun e => hn3035 (e ▸ hm2935)
  have hf3111 := (fr3040 q644 hm2935 hn2936).trans hf2934
  have hm3109 := sb3041 _ hm2935
  have hn3113 : q645 ≠ q3034 := fun e => hn3035 (e ▸ hm2938)
  have hf3114 := (fr3040 q645 hm2938 hn2939).trans hf2937
  have hm3112 := sb3041 _ hm2938
  have hn3116 : q646 ≠ q3034 := fun e => hn3035 (e ▸ hm2941)
  have hf3117 := (fr3040 q646 hm2941 hn2942).trans hf2940
  have hm3115 := sb3041 _ hm2941
  have hn3119 : q870 ≠ q3034 := fun e => hn3035 (e ▸ hm2944)
  have hf3120 := (fr3040 q870 hm2944 hn2945).trans hf2943
  have hm3118 := sb3041 _ hm2944
  have hn3122 : q956 ≠ q3034 := fun e => hn3035 (e ▸ hm2947)
  have hf3123 := (fr3040 q956 hm2947 hn2948).trans hf2946
  have hm3121 := sb3041 _ hm2947
  have hn3125 : q957 ≠ q3034 := fun e => hn3035 (e ▸ hm2950)
  have hf3126 := (fr3040 q957 hm2950 hn2951).trans hf2949
  have hm3124 := sb3041 _ hm2950
  have hn3128 : q958 ≠ q3034 := fun e => hn3035 (e ▸ hm2953)
  have hf3129 := (fr3040 q958 hm2953 hn2954).trans hf2952
  have hm3127 := sb3041 _ hm2953
  have hn3131 : q959 ≠ q3034 := fun e => hn3035 (e ▸ hm2956)
  have hf3132 := (fr3040 q959 hm2956 hn2957).trans hf2955
  have hm3130 := sb3041 _ hm2956
  have hn3134 : q960 ≠ q3034 := fun e => hn3035 (e ▸ hm2959)
  have hf3135 := (fr3040 q960 hm2959 hn2960).trans hf2958
  have hm3133 := sb3041 _ hm2959
  have hn3137 : q961 ≠ q3034 := fun e => hn3035 (e ▸ hm2962)
  have hf3138 := (fr3040 q961 hm2962 hn2963).trans hf2961
  have hm3136 := sb3041 _ hm2962
  have hn3140 : q962 ≠ q3034 := fun e => hn3035 (e ▸ hm2965)
  have hf3141 := (fr3040 q962 hm2965 hn2966).trans hf2964
  have hm3139 := sb3041 _ hm2965
  have hn3143 : q963 ≠ q3034 := fun e => hn3035 (e ▸ hm2968)
  have hf3144 := (fr3040 q963 hm2968 hn2969).trans hf2967
  have hm3142 := sb3041 _ hm2968
  have hn3146 : q964 ≠ q3034 := fun e => hn3035 (e ▸ hm2971)
  have hf3147 := (fr3040 q964 hm2971 hn2972).trans hf2970
  have hm3145 := sb3041 _ hm2971
  have hn3149 : q1308 ≠ q3034 := fun e => hn3035 (e ▸ hm2974)
  have hf3150 := (fr3040 q1308 hm2974 hn2975).trans hf2973
  have hm3148 := sb3041 _ hm2974
  have hn3152 : q1424 ≠ q3034 := fun e => hn3035 (e ▸ hm2977)
  have hf3153 := (fr3040 q1424 hm2977 hn2978).trans hf2976
  have hm3151 := sb3041 _ hm2977
  have hn3155 : q1425 ≠ q3034 := fun e => hn3035 (e ▸ hm2980)
  have hf3156 := (fr3040 q1425 hm2980 hn2981).trans hf2979
  have hm3154 := sb3041 _ hm2980
  have hn3158 : q1426 ≠ q3034 := fun e => hn3035 (e ▸ hm2983)
  have hf3159 := (fr3040 q1426 hm2983 hn2984).trans hf2982
  have hm3157 := sb3041 _ hm2983
  have hn3161 : q1427 ≠ q3034 := fun e => hn3035 (e ▸ hm2986)
  have hf3162 := (fr3040 q1427 hm2986 hn2987).trans hf2985
  have hm3160 := sb3041 _ hm2986
  have hn3164 : q1428 ≠ q3034 := fun e => hn3035 (e ▸ hm2989)
  have hf3165 := (fr3040 q1428 hm2989 hn2990).trans hf2988
  have hm3163 := sb3041 _ hm2989
  have hn3167 : q1429 ≠ q3034 := fun e => hn3035 (e ▸ hm2992)
  have hf3168 := (fr3040 q1429 hm2992 hn2993).trans hf2991
  have hm3166 := sb3041 _ hm2992
  have hn3170 : q1430 ≠ q3034 := fun e => hn3035 (e ▸ hm2995)
  have hf3171 := (fr3040 q1430 hm2995 hn2996).trans hf2994
  have hm3169 := sb3041 _ hm2995
  have hn3173 : q1431 ≠ q3034 := fun e => hn3035 (e ▸ hm2998)
  have hf3174 := (fr3040 q1431 hm2998 hn2999).trans hf2997
  have hm3172 := sb3041 _ hm2998
  have hn3176 : q1432 ≠ q3034 := fun e => hn3035 (e ▸ hm3001)
  have hf3177 := (fr3040 q1432 hm3001 hn3002).trans hf3000
  have hm3175 := sb3041 _ hm3001
  have hn3179 : q1896 ≠ q3034 := fun e => hn3035 (e ▸ hm3004)
  have hf3180 := (fr3040 q1896 hm3004 hn3005).trans hf3003
  have hm3178 := sb3041 _ hm3004
  have hn3182 : q2042 ≠ q3034 := fun e => hn3035 (e ▸ hm3007)
  have hf3183 := (fr3040 q2042 hm3007 hn3008).trans hf3006
  have hm3181 := sb3041 _ hm3007
  have hn3185 : q2237 ≠ q3034 := fun e => hn3035 (e ▸ hm3010)
  have hf3186 := (fr3040 q2237 hm3010 hn3011).trans hf3009
  have hm3184 := sb3041 _ hm3010
  have hn3188 : q2391 ≠ q3034 := fun e => hn3035 (e ▸ hm3013)
  have hf3189 := (fr3040 q2391 hm3013 hn3014).trans hf3012
  have hm3187 := sb3041 _ hm3013
  have hn3191 : q2392 ≠ q3034 := fun e => hn3035 (e ▸ hm3016)
  have hf3192 := (fr3040 q2392 hm3016 hn3017).trans hf3015
  have hm3190 := sb3041 _ hm3016
  have hn3194 : q2393 ≠ q3034 := fun e => hn3035 (e ▸ hm3019)
  have hf3195 := (fr3040 q2393 hm3019 hn3020).trans hf3018
  have hm3193 := sb3041 _ hm3019
  have hn3197 : q2394 ≠ q3034 := fun e => hn3035 (e ▸ hm3022)
  have hf3198 := (fr3040 q2394 hm3022 hn3023).trans hf3021
  have hm3196 := sb3041 _ hm3022
  have hn3200 : q2395 ≠ q3034 := fun e => hn3035 (e ▸ hm3025)
  have hf3201 := (fr3040 q2395 hm3025 hn3026).trans hf3024
  have hm3199 := sb3041 _ hm3025
  have hn3203 : q2396 ≠ q3034 := fun e => hn3035 (e ▸ hm3028)
  have hf3204 := (fr3040 q2396 hm3028 hn3029).trans hf3027
  have hm3202 := sb3041 _ hm3028
  have hn3206 : q2859 ≠ q3034 := fun e => hn3035 (e ▸ hm2864)
  have hm3205 := sb3041 _ hm2864
  refine pl_putF (ty := (.object "RulerWord$Tape")) (v := .ref q2859) (fs' := [.ref q1, .ref q45, .ref q91, .ref q143, .ref q201, .ref q280, .ref q388, .ref q482, .ref q582, .ref q870, .ref q1308, .ref q1896, .ref q2237, .ref q2859, .null, .int 0, .int 0, .long 0]) hx hb hts (fun w h => mT (inX10 w h)) tyX10 tyX10_ok nmX10 hown hG.1 hP hD hS hm3049 hf3051 rfl 13 (by decide) (hts _ (mT wg_488)) (fun _ h => h) rfl hnm rfl (by decide +kernel) (rfl) (rfl) (Nat.le_of_ble_eq_true rfl) rfl dX10_init_155 (fun H locs f3207 hf3209 ho3208 hP hD hS => ?_)
  have hR3210 : RINGP g L1897 L3031 f3207 20 aa2044 := RINGP.tr hR3045 (fun j hj k hk e => (hR3045.1 j hj k hk).2 (e ▸ hm1910)) (fun b hb => hb) (fun b _ hb => ho3208 b hb)
  have hfr3211 : ∀ b, b ∈ L → b ≠ x → f3207 b = f b := fun b hb z0 => (ho3208 b z0).trans (hfr3046 b hb z0)
  have hf3212 := (ho3208 q1 hn16.symm).trans hf3054
  have hf3213 := (ho3208 q21 hn35.symm).trans hf3057
  have hf3214 := (ho3208 q45 hn60.symm).trans hf3060
  have hf3215 := (ho3208 q91 hn106.symm).trans hf3063
  have hf3216 := (ho3208 q143 hn158.symm).trans hf3066
  have hf3217 := (ho3208 q201 hn216.symm).trans hf3069
  have hf3218 := (ho3208 q236 hn250.symm).trans hf3072
  have hf3219 := (ho3208 q280 hn295.symm).trans hf3075
  have hf3220 := (ho3208 q321 hn340.symm).trans hf3078
  have hf3221 := (ho3208 q322 hn341.symm).trans hf3081
  have hf3222 := (ho3208 q388 hn403.symm).trans hf3084
  have hf3223 := (ho3208 q482 hn497.symm).trans hf3087
  have hf3224 := (ho3208 q582 hn597.symm).trans hf3090
  have hf3225 := (ho3208 q638 hn692.symm).trans hf3093
  have hf3226 := (ho3208 q639 hn693.symm).trans hf3096
  have hf3227 := (ho3208 q640 hn694.symm).trans hf3099
  have hf3228 := (ho3208 q641 hn695.symm).trans hf3102
  have hf3229 := (ho3208 q642 hn696.symm).trans hf3105
  have hf3230 := (ho3208 q643 hn697.symm).trans hf3108
  have hf3231 := (ho3208 q644 hn698.symm).trans hf3111
  have hf3232 := (ho3208 q645 hn699.symm).trans hf3114
  have hf3233 := (ho3208 q646 hn700.symm).trans hf3117
  have hf3234 := (ho3208 q870 hn885.symm).trans hf3120
  have hf3235 := (ho3208 q956 hn1010.symm).trans hf3123
  have hf3236 := (ho3208 q957 hn1011.symm).trans hf3126
  have hf3237 := (ho3208 q958 hn1012.symm).trans hf3129
  have hf3238 := (ho3208 q959 hn1013.symm).trans hf3132
  have hf3239 := (ho3208 q960 hn1014.symm).trans hf3135
  have hf3240 := (ho3208 q961 hn1015.symm).trans hf3138
  have hf3241 := (ho3208 q962 hn1016.symm).trans hf3141
  have hf3242 := (ho3208 q963 hn1017.symm).trans hf3144
  have hf3243 := (ho3208 q964 hn1018.symm).trans hf3147
  have hf3244 := (ho3208 q1308 hn1323.symm).trans hf3150
  have hf3245 := (ho3208 q1424 hn1478.symm).trans hf3153
  have hf3246 := (ho3208 q1425 hn1479.symm).trans hf3156
  have hf3247 := (ho3208 q1426 hn1480.symm).trans hf3159
  have hf3248 := (ho3208 q1427 hn1481.symm).trans hf3162
  have hf3249 := (ho3208 q1428 hn1482.symm).trans hf3165
  have hf3250 := (ho3208 q1429 hn1483.symm).trans hf3168
  have hf3251 := (ho3208 q1430 hn1484.symm).trans hf3171
  have hf3252 := (ho3208 q1431 hn1485.symm).trans hf3174
  have hf3253 := (ho3208 q1432 hn1486.symm).trans hf3177
  have hf3254 := (ho3208 q1896 hn1911.symm).trans hf3180
  have hf3255 := (ho3208 q2042 hn2058.symm).trans hf3183
  have hf3256 := (ho3208 q2237 hn2254.symm).trans hf3186
  have hf3257 := (ho3208 q2391 hn2437.symm).trans hf3189
  have hf3258 := (ho3208 q2392 hn2438.symm).trans hf3192
  have hf3259 := (ho3208 q2393 hn2439.symm).trans hf3195
  have hf3260 := (ho3208 q2394 hn2440.symm).trans hf3198
  have hf3261 := (ho3208 q2395 hn2441.symm).trans hf3201
  have hf3262 := (ho3208 q2396 hn2442.symm).trans hf3204
  have hf3263 := (ho3208 q2859 hn2876.symm).trans hf3038
  have hf3264 := (ho3208 q3034 hn3050.symm).trans hf3037
  refine lv_aload_n hx hb dX10_init_158 rfl (lv_at hl 0 rfl) ?_
  refine lv_iconst (v := 5) hx hb dX10_init_159 (by decide) ?_
  refine pl_newa (atype := .int) (ty := .int) (N' := 5) (a0 := (5, .inl (fun _ => 0))) hx hb (hts _ (mT wg_217)) rfl hG.1 hP hD hS hA 0 rfl (fun _ h => h) (fun _ => rfl) (by decide) (by decide) (Nat.le_of_ble_eq_true rfl) (Nat.le_of_ble_eq_true rfl) (Nat.le_of_ble_eq_true rfl) dX10_init_160 (fun q3265 H L3266 f3267 hq3268 hs3269 hm3270 hf3271 ho3272 hP hD hS => ?_)
  have hN3273 : [q3265, q3034, q2859, q2391, q2392, q2393, q2394, q2395, q2396, q2237, q2042, q1896, q1424, q1425, q1426, q1427, q1428, q1429, q1430, q1431, q1432, q1308, q956, q957, q958, q959, q960, q961, q962, q963, q964, q870, q638, q639, q640, q641, q642, q643, q644, q645, q646, q582, q482, q388, q321, q322, q280, q236, q201, q143, q91, q45, q21, q1].Nodup := List.nodup_cons.mpr ⟨fun h => hq3268 (hNs3043 _ h), hN3042⟩
  have hNs3274 : ∀ b, b ∈ [q3265, q3034, q2859, q2391, q2392, q2393, q2394, q2395, q2396, q2237, q2042, q1896, q1424, q1425, q1426, q1427, q1428, q1429, q1430, q1431, q1432, q1308, q956, q957, q958, q959, q960, q961, q962, q963, q964, q870, q638, q639, q640, q641, q642, q643, q644, q645, q646, q582, q482, q388, q321, q322, q280, q236, q201, q143, q91, q45, q21, q1] → b ∈ L3266 := List.forall_mem_cons.mpr ⟨hm3270, fun b hb => hs3269 b (hNs3043 b hb)⟩
  have hRq3275 : ∀ j, j < 20 → ∀ k, k < 10 → aa2044 j k ≠ q3265 := fun j hj k hk e => hq3268 (e ▸ (hR3210.1 j hj k hk).1)
  have hR3276 : RINGP g L1897 L3266 f3267 20 aa2044 := RINGP.tr hR3210 hRq3275 hs3269 (fun b hb _ => ho3272 b hb)
  have hfr3277 : ∀ b, b ∈ L → b ≠ x → f3267 b = f b := fun b hb z0 => (ho3272 b (hsb3047 b hb)).trans (hfr3211 b hb z0)
  have hnq3279 : q3265 ∉ L := fun h => hq3268 (hsb3047 _ h)
  have hsb3278 : ∀ b, b ∈ L → b ∈ _ := fun b hb => hs3269 b (hsb3047 b hb)
  have hf3280 := (ho3272 x hm3049).trans hf3209
  have hn3282 : x ≠ q3265 := fun e => hq3268 (e ▸ hm3049)
  have hm3281 := hs3269 _ hm3049
  have hf3283 := (ho3272 q1 hm3052).trans hf3212
  have hn3285 : q1 ≠ q3265 := fun e => hq3268 (e ▸ hm3052)
  have hm3284 := hs3269 _ hm3052
  have hf3286 := (ho3272 q21 hm3055).trans hf3213
  have hn3288 : q21 ≠ q3265 := fun e => hq3268 (e ▸ hm3055)
  have hm3287 := hs3269 _ hm3055
  have hf3289 := (ho3272 q45 hm3058).trans hf3214
  have hn3291 : q45 ≠ q3265 := fun e => hq3268 (e ▸ hm3058)
  have hm3290 := hs3269 _ hm3058
  have hf3292 := (ho3272 q91 hm3061).trans hf3215
  have hn3294 : q91 ≠ q3265 := fun e => hq3268 (e ▸ hm3061)
  have hm3293 := hs3269 _ hm3061
  have hf3295 := (ho3272 q143 hm3064).trans hf3216
  have hn3297 : q143 ≠ q3265 := fun e => hq3268 (e ▸ hm3064)
  have hm3296 := hs3269 _ hm3064
  have hf3298 := (ho3272 q201 hm3067).trans hf3217
  have hn3300 : q201 ≠ q3265 := fun e => hq3268 (e ▸ hm3067)
  have hm3299 := hs3269 _ hm3067
  have hf3301 := (ho3272 q236 hm3070).trans hf3218
  have hn3303 : q236 ≠ q3265 := fun e => hq3268 (e ▸ hm3070)
  have hm3302 := hs3269 _ hm3070
  have hf3304 := (ho3272 q280 hm3073).trans hf3219
  have hn3306 : q280 ≠ q3265 := fun e => hq3268 (e ▸ hm3073)
  have hm3305 := hs3269 _ hm3073
  have hf3307 := (ho3272 q321 hm3076).trans hf3220
  have hn3309 : q321 ≠ q3265 := fun e => hq3268 (e ▸ hm3076)
  have hm3308 := hs3269 _ hm3076
  have hf3310 := (ho3272 q322 hm3079).trans hf3221
  have hn3312 : q322 ≠ q3265 := fun e => hq3268 (e ▸ hm3079)
  have hm3311 := hs3269 _ hm3079
  have hf3313 := (ho3272 q388 hm3082).trans hf3222
  have hn3315 : q388 ≠ q3265 := fun e => hq3268 (e ▸ hm3082)
  have hm3314 := hs3269 _ hm3082
  have hf3316 := (ho3272 q482 hm3085).trans hf3223
  have hn3318 : q482 ≠ q3265 := fun e => hq3268 (e ▸ hm3085)
  have hm3317 := hs3269 _ hm3085
  have hf3319 := (ho3272 q582 hm3088).trans hf3224
  have hn3321 : q582 ≠ q3265 := fun e => hq3268 (e ▸ hm3088)
  have hm3320 := hs3269 _ hm3088
  have hf3322 := (ho3272 q638 hm3091).trans hf3225
  have hn3324 : q638 ≠ q3265 := fun e => hq3268 (e ▸ hm3091)
  have hm3323 := hs3269 _ hm3091
  have hf3325 := (ho3272 q639 hm3094).trans hf3226
  have hn3327 : q639 ≠ q3265 := fun e => hq3268 (e ▸ hm3094)
  have hm3326 := hs3269 _ hm3094
  have hf3328 := (ho3272 q640 hm3097).trans hf3227
  have hn3330 : q640 ≠ q3265 := fun e => hq3268 (e ▸ hm3097)
  have hm3329 := hs3269 _ hm3097
  have hf3331 := (ho3272 q641 hm3100).trans hf3228
  have hn3333 : q641 ≠ q3265 := fun e => hq3268 (e ▸ hm3100)
  have hm3332 := hs3269 _ hm3100
  have hf3334 := (ho3272 q642 hm3103).trans hf3229
  have hn3336 : q642 ≠ q3265 := fun e => hq3268 (e ▸ hm3103)
  have hm3335 := hs3269 _ hm3103
  have hf3337 := (ho3272 q643 hm3106).trans hf3230
  have hn3339 : q643 ≠ q3265 := fun e => hq3268 (e ▸ hm3106)
  have hm3338 := hs3269 _ hm3106
  have hf3340 := (ho3272 q644 hm3109).trans hf3231
  have hn3342 : q644 ≠ q3265 := fun e => hq3268 (e ▸ hm3109)
  have hm3341 := hs3269 _ hm3109
  have hf3343 := (ho3272 q645 hm3112).trans hf3232
  have hn3345 : q645 ≠ q3265 := fun e => hq3268 (e ▸ hm3112)
  have hm3344 := hs3269 _ hm3112
  have hf3346 := (ho3272 q646 hm3115).trans hf3233
  have hn3348 : q646 ≠ q3265 := fun e => hq3268 (e ▸ hm3115)
  have hm3347 := hs3269 _ hm3115
  have hf3349 := (ho3272 q870 hm3118).trans hf3234
  have hn3351 : q870 ≠ q3265 := fun e => hq3268 (e ▸ hm3118)
  have hm3350 := hs3269 _ hm3118
  have hf3352 := (ho3272 q956 hm3121).trans hf3235
  have hn3354 : q956 ≠ q3265 := fun e => hq3268 (e ▸ hm3121)
  have hm3353 := hs3269 _ hm3121
  have hf3355 := (ho3272 q957 hm3124).trans hf3236
  have hn3357 : q957 ≠ q3265 := fun e => hq3268 (e ▸ hm3124)
  have hm3356 := hs3269 _ hm3124
  have hf3358 := (ho3272 q958 hm3127).trans hf3237
  have hn3360 : q958 ≠ q3265 := fun e => hq3268 (e ▸ hm3127)
  have hm3359 := hs3269 _ hm3127
  have hf3361 := (ho3272 q959 hm3130).trans hf3238
  have hn3363 : q959 ≠ q3265 := fun e => hq3268 (e ▸ hm3130)
  have hm3362 := hs3269 _ hm3130
  have hf3364 := (ho3272 q960 hm3133).trans hf3239
  have hn3366 : q960 ≠ q3265 := fun e => hq3268 (e ▸ hm3133)
  have hm3365 := hs3269 _ hm3133
  have hf3367 := (ho3272 q961 hm3136).trans hf3240
  have hn3369 : q961 ≠ q3265 := fun e => hq3268 (e ▸ hm3136)
  have hm3368 := hs3269 _ hm3136
  have hf3370 := (ho3272 q962 hm3139).trans hf3241
  have hn3372 : q962 ≠ q3265 := fun e => hq3268 (e ▸ hm3139)
  have hm3371 := hs3269 _ hm3139
  have hf3373 := (ho3272 q963 hm3142).trans hf3242
  have hn3375 : q963 ≠ q3265 := fun e => hq3268 (e ▸ hm3142)
  have hm3374 := hs3269 _ hm3142
  have hf3376 := (ho3272 q964 hm3145).trans hf3243
  have hn3378 : q964 ≠ q3265 := fun e => hq3268 (e ▸ hm3145)
  have hm3377 := hs3269 _ hm3145
  have hf3379 := (ho3272 q1308 hm3148).trans hf3244
  have hn3381 : q1308 ≠ q3265 := fun e => hq3268 (e ▸ hm3148)
  have hm3380 := hs3269 _ hm3148
  have hf3382 := (ho3272 q1424 hm3151).trans hf3245
  have hn3384 : q1424 ≠ q3265 := fun e => hq3268 (e ▸ hm3151)
  have hm3383 := hs3269 _ hm3151
  have hf3385 := (ho3272 q1425 hm3154).trans hf3246
  have hn3387 : q1425 ≠ q3265 := fun e => hq3268 (e ▸ hm3154)
  have hm3386 := hs3269 _ hm3154
  have hf3388 := (ho3272 q1426 hm3157).trans hf3247
  have hn3390 : q1426 ≠ q3265 := fun e => hq3268 (e ▸ hm3157)
  have hm3389 := hs3269 _ hm3157
  have hf3391 := (ho3272 q1427 hm3160).trans hf3248
  have hn3393 : q1427 ≠ q3265 := fun e => hq3268 (e ▸ hm3160)
  have hm3392 := hs3269 _ hm3160
  have hf3394 := (ho3272 q1428 hm3163).trans hf3249
  have hn3396 : q1428 ≠ q3265 := fun e => hq3268 (e ▸ hm3163)
  have hm3395 := hs3269 _ hm3163
  have hf3397 := (ho3272 q1429 hm3166).trans hf3250
  have hn3399 : q1429 ≠ q3265 := fun e => hq3268 (e ▸ hm3166)
  have hm3398 := hs3269 _ hm3166
  have hf3400 := (ho3272 q1430 hm3169).trans hf3251
  have hn3402 : q1430 ≠ q3265 := fun e => hq3268 (e ▸ hm3169)
  have hm3401 := hs3269 _ hm3169
  have hf3403 := (ho3272 q1431 hm3172).trans hf3252
  have hn3405 : q1431 ≠ q3265 := fun e => hq3268 (e ▸ hm3172)
  have hm3404 := hs3269 _ hm3172
  have hf3406 := (ho3272 q1432 hm3175).trans hf3253
  have hn3408 : q1432 ≠ q3265 := fun e => hq3268 (e ▸ hm3175)
  have hm3407 := hs3269 _ hm3175
  have hf3409 := (ho3272 q1896 hm3178).trans hf3254
  have hn3411 : q1896 ≠ q3265 := fun e => hq3268 (e ▸ hm3178)
  have hm3410 := hs3269 _ hm3178
  have hf3412 := (ho3272 q2042 hm3181).trans hf3255
  have hn3414 : q2042 ≠ q3265 := fun e => hq3268 (e ▸ hm3181)
  have hm3413 := hs3269 _ hm3181
  have hf3415 := (ho3272 q2237 hm3184).trans hf3256
  have hn3417 : q2237 ≠ q3265 := fun e => hq3268 (e ▸ hm3184)
  have hm3416 := hs3269 _ hm3184
  have hf3418 := (ho3272 q2391 hm3187).trans hf3257
  have hn3420 : q2391 ≠ q3265 := fun e => hq3268 (e ▸ hm3187)
  have hm3419 := hs3269 _ hm3187
  have hf3421 := (ho3272 q2392 hm3190).trans hf3258
  have hn3423 : q2392 ≠ q3265 := fun e => hq3268 (e ▸ hm3190)
  have hm3422 := hs3269 _ hm3190
  have hf3424 := (ho3272 q2393 hm3193).trans hf3259
  have hn3426 : q2393 ≠ q3265 := fun e => hq3268 (e ▸ hm3193)
  have hm3425 := hs3269 _ hm3193
  have hf3427 := (ho3272 q2394 hm3196).trans hf3260
  have hn3429 : q2394 ≠ q3265 := fun e => hq3268 (e ▸ hm3196)
  have hm3428 := hs3269 _ hm3196
  have hf3430 := (ho3272 q2395 hm3199).trans hf3261
  have hn3432 : q2395 ≠ q3265 := fun e => hq3268 (e ▸ hm3199)
  have hm3431 := hs3269 _ hm3199
  have hf3433 := (ho3272 q2396 hm3202).trans hf3262
  have hn3435 : q2396 ≠ q3265 := fun e => hq3268 (e ▸ hm3202)
  have hm3434 := hs3269 _ hm3202
  have hf3436 := (ho3272 q2859 hm3205).trans hf3263
  have hn3438 : q2859 ≠ q3265 := fun e => hq3268 (e ▸ hm3205)
  have hm3437 := hs3269 _ hm3205
  have hf3439 := (ho3272 q3034 hm3036).trans hf3264
  have hn3441 : q3034 ≠ q3265 := fun e => hq3268 (e ▸ hm3036)
  have hm3440 := hs3269 _ hm3036
  refine pl_putF (ty := (.array .int)) (v := .ref q3265) (fs' := [.ref q1, .ref q45, .ref q91, .ref q143, .ref q201, .ref q280, .ref q388, .ref q482, .ref q582, .ref q870, .ref q1308, .ref q1896, .ref q2237, .ref q2859, .ref q3265, .int 0, .int 0, .long 0]) hx hb hts (fun w h => mT (inX10 w h)) tyX10 tyX10_ok nmX10 hown hG.1 hP hD hS hm3281 hf3280 rfl 14 (by decide) (hts _ (mT wg_489)) (fun _ h => h) rfl hnm rfl (by decide +kernel) (rfl) (rfl) (Nat.le_of_ble_eq_true rfl) rfl dX10_init_162 (fun H locs f3442 hf3444 ho3443 hP hD hS => ?_)
  have hR3445 : RINGP g L1897 L3266 f3442 20 aa2044 := RINGP.tr hR3276 (fun j hj k hk e => (hR3276.1 j hj k hk).2 (e ▸ hm1910)) (fun b hb => hb) (fun b _ hb => ho3443 b hb)
  have hfr3446 : ∀ b, b ∈ L → b ≠ x → f3442 b = f b := fun b hb z0 => (ho3443 b z0).trans (hfr3277 b hb z0)
  have hf3447 := (ho3443 q1 hn16.symm).trans hf3283
  have hf3448 := (ho3443 q21 hn35.symm).trans hf3286
  have hf3449 := (ho3443 q45 hn60.symm).trans hf3289
  have hf3450 := (ho3443 q91 hn106.symm).trans hf3292
  have hf3451 := (ho3443 q143 hn158.symm).trans hf3295
  have hf3452 := (ho3443 q201 hn216.symm).trans hf3298
  have hf3453 := (ho3443 q236 hn250.symm).trans hf3301
  have hf3454 := (ho3443 q280 hn295.symm).trans hf3304
  have hf3455 := (ho3443 q321 hn340.symm).trans hf3307
  have hf3456 := (ho3443 q322 hn341.symm).trans hf3310
  have hf3457 := (ho3443 q388 hn403.symm).trans hf3313
  have hf3458 := (ho3443 q482 hn497.symm).trans hf3316
  have hf3459 := (ho3443 q582 hn597.symm).trans hf3319
  have hf3460 := (ho3443 q638 hn692.symm).trans hf3322
  have hf3461 := (ho3443 q639 hn693.symm).trans hf3325
  have hf3462 := (ho3443 q640 hn694.symm).trans hf3328
  have hf3463 := (ho3443 q641 hn695.symm).trans hf3331
  have hf3464 := (ho3443 q642 hn696.symm).trans hf3334
  have hf3465 := (ho3443 q643 hn697.symm).trans hf3337
  have hf3466 := (ho3443 q644 hn698.symm).trans hf3340
  have hf3467 := (ho3443 q645 hn699.symm).trans hf3343
  have hf3468 := (ho3443 q646 hn700.symm).trans hf3346
  have hf3469 := (ho3443 q870 hn885.symm).trans hf3349
  have hf3470 := (ho3443 q956 hn1010.symm).trans hf3352
  have hf3471 := (ho3443 q957 hn1011.symm).trans hf3355
  have hf3472 := (ho3443 q958 hn1012.symm).trans hf3358
  have hf3473 := (ho3443 q959 hn1013.symm).trans hf3361
  have hf3474 := (ho3443 q960 hn1014.symm).trans hf3364
  have hf3475 := (ho3443 q961 hn1015.symm).trans hf3367
  have hf3476 := (ho3443 q962 hn1016.symm).trans hf3370
  have hf3477 := (ho3443 q963 hn1017.symm).trans hf3373
  have hf3478 := (ho3443 q964 hn1018.symm).trans hf3376
  have hf3479 := (ho3443 q1308 hn1323.symm).trans hf3379
  have hf3480 := (ho3443 q1424 hn1478.symm).trans hf3382
  have hf3481 := (ho3443 q1425 hn1479.symm).trans hf3385
  have hf3482 := (ho3443 q1426 hn1480.symm).trans hf3388
  have hf3483 := (ho3443 q1427 hn1481.symm).trans hf3391
  have hf3484 := (ho3443 q1428 hn1482.symm).trans hf3394
  have hf3485 := (ho3443 q1429 hn1483.symm).trans hf3397
  have hf3486 := (ho3443 q1430 hn1484.symm).trans hf3400
  have hf3487 := (ho3443 q1431 hn1485.symm).trans hf3403
  have hf3488 := (ho3443 q1432 hn1486.symm).trans hf3406
  have hf3489 := (ho3443 q1896 hn1911.symm).trans hf3409
  have hf3490 := (ho3443 q2042 hn2058.symm).trans hf3412
  have hf3491 := (ho3443 q2237 hn2254.symm).trans hf3415
  have hf3492 := (ho3443 q2391 hn2437.symm).trans hf3418
  have hf3493 := (ho3443 q2392 hn2438.symm).trans hf3421
  have hf3494 := (ho3443 q2393 hn2439.symm).trans hf3424
  have hf3495 := (ho3443 q2394 hn2440.symm).trans hf3427
  have hf3496 := (ho3443 q2395 hn2441.symm).trans hf3430
  have hf3497 := (ho3443 q2396 hn2442.symm).trans hf3433
  have hf3498 := (ho3443 q2859 hn2876.symm).trans hf3436
  have hf3499 := (ho3443 q3034 hn3050.symm).trans hf3439
  have hf3500 := (ho3443 q3265 hn3282.symm).trans hf3271
  exact ret_v hx hb hr hlocks hP hD hS (Nat.le_of_ble_eq_true rfl) (Nat.le_of_ble_eq_true rfl) (⟨q3265, q3034, q2859, q2391, q2392, q2393, q2394, q2395, q2396, q2237, q2042, q1896, q1424, q1425, q1426, q1427, q1428, q1429, q1430, q1431, q1432, q1308, q956, q957, q958, q959, q960, q961, q962, q963, q964, q870, q638, q639, q640, q641, q642, q643, q644, q645, q646, q582, q482, q388, q321, q322, q280, q236, q201, q143, q91, q45, q21, q1, r2043, aa2044, hnq3279, hm3270, hf3500, hnq3048, hm3440, hf3499, hnq2873, hm3437, hf3498, hnq2430, hm3419, hf3492, hnq2431, hm3422, hf3493, hnq2432, hm3425, hf3494, hnq2433, hm3428, hf3495, hnq2434, hm3431, hf3496, hnq2435, hm3434, hf3497, hnq2251, hm3416, hf3491, hnq2056, hm3413, hf3490, hnq1908, hm3410, hf3489, hnq1468, hm3383, hf3480, hnq1469, hm3386, hf3481, hnq1470, hm3389, hf3482, hnq1471, hm3392, hf3483, hnq1472, hm3395, hf3484, hnq1473, hm3398, hf3485, hnq1474, hm3401, hf3486, hnq1475, hm3404, hf3487, hnq1476, hm3407, hf3488, hnq1320, hm3380, hf3479, hnq1000, hm3353, hf3470, hnq1001, hm3356, hf3471, hnq1002, hm3359, hf3472, hnq1003, hm3362, hf3473, hnq1004, hm3365, hf3474, hnq1005, hm3368, hf3475, hnq1006, hm3371, hf3476, hnq1007, hm3374, hf3477, hnq1008, hm3377, hf3478, hnq882, hm3350, hf3469, hnq682, hm3323, hf3460, hnq683, hm3326, hf3461, hnq684, hm3329, hf3462, hnq685, hm3332, hf3463, hnq686, hm3335, hf3464, hnq687, hm3338, hf3465, hnq688, hm3341, hf3466, hnq689, hm3344, hf3467, hnq690, hm3347, hf3468, hnq594, hm3320, hf3459, hnq494, hm3317, hf3458, hnq400, hm3314, hf3457, hnq337, hm3308, hf3455, hnq338, hm3311, hf3456, hnq292, hm3305, hf3454, hnq248, hm3302, hf3453, hnq213, hm3299, hf3452, hnq155, hm3296, hf3451, hnq103, hm3293, hf3450, hnq57, hm3290, hf3449, hnq33, hm3287, hf3448, hnq13, hm3284, hf3447, hf3444, ⟨hN3273, RINGP.sub hR3445 hsb1907, fun j hj k hk => ⟨(hRq3275) j hj k hk, (hRq3044) j hj k hk, (hRq2869) j hj k hk, (hRq2421) j hj k hk, (hRq2422) j hj k hk, (hRq2423) j hj k hk, (hRq2424) j hj k hk, (hRq2425) j hj k hk, (hRq2426) j hj k hk, (hRq2247) j hj k hk, ((fun j hj k hk => (er2049ne j hj k hk))) j hj k hk, (fun e => (hR3445.1 j hj k hk).2 (e ▸ hm1901)), (fun e => (hR3445.1 j hj k hk).2 (e ▸ hm2012)), (fun e => (hR3445.1 j hj k hk).2 (e ▸ hm2015)), (fun e => (hR3445.1 j hj k hk).2 (e ▸ hm2018)), (fun e => (hR3445.1 j hj k hk).2 (e ▸ hm2021)), (fun e => (hR3445.1 j hj k hk).2 (e ▸ hm2024)), (fun e => (hR3445.1 j hj k hk).2 (e ▸ hm2027)), (fun e => (hR3445.1 j hj k hk).2 (e ▸ hm2030)), (fun e => (hR3445.1 j hj k hk).2 (e ▸ hm2033)), (fun e => (hR3445.1 j hj k hk).2 (e ▸ hm2036)), (fun e => (hR3445.1 j hj k hk).2 (e ▸ hm2009)), (fun e => (hR3445.1 j hj k hk).2 (e ▸ hm1982)), (fun e => (hR3445.1 j hj k hk).2 (e ▸ hm1985)), (fun e => (hR3445.1 j hj k hk).2 (e ▸ hm1988)), (fun e => (hR3445.1 j hj k hk).2 (e ▸ hm1991)), (fun e => (hR3445.1 j hj k hk).2 (e ▸ hm1994)), (fun e => (hR3445.1 j hj k hk).2 (e ▸ hm1997)), (fun e => (hR3445.1 j hj k hk).2 (e ▸ hm2000)), (fun e => (hR3445.1 j hj k hk).2 (e ▸ hm2003)), (fun e => (hR3445.1 j hj k hk).2 (e ▸ hm2006)), (fun e => (hR3445.1 j hj k hk).2 (e ▸ hm1979)), (fun e => (hR3445.1 j hj k hk).2 (e ▸ hm1952)), (fun e => (hR3445.1 j hj k hk).2 (e ▸ hm1955)), (fun e => (hR3445.1 j hj k hk).2 (e ▸ hm1958)), (fun e => (hR3445.1 j hj k hk).2 (e ▸ hm1961)), (fun e => (hR3445.1 j hj k hk).2 (e ▸ hm1964)), (fun e => (hR3445.1 j hj k hk).2 (e ▸ hm1967)), (fun e => (hR3445.1 j hj k hk).2 (e ▸ hm1970)), (fun e => (hR3445.1 j hj k hk).2 (e ▸ hm1973)), (fun e => (hR3445.1 j hj k hk).2 (e ▸ hm1976)), (fun e => (hR3445.1 j hj k hk).2 (e ▸ hm1949)), (fun e => (hR3445.1 j hj k hk).2 (e ▸ hm1946)), (fun e => (hR3445.1 j hj k hk).2 (e ▸ hm1943)), (fun e => (hR3445.1 j hj k hk).2 (e ▸ hm1937)), (fun e => (hR3445.1 j hj k hk).2 (e ▸ hm1940)), (fun e => (hR3445.1 j hj k hk).2 (e ▸ hm1934)), (fun e => (hR3445.1 j hj k hk).2 (e ▸ hm1931)), (fun e => (hR3445.1 j hj k hk).2 (e ▸ hm1928)), (fun e => (hR3445.1 j hj k hk).2 (e ▸ hm1925)), (fun e => (hR3445.1 j hj k hk).2 (e ▸ hm1922)), (fun e => (hR3445.1 j hj k hk).2 (e ▸ hm1919)), (fun e => (hR3445.1 j hj k hk).2 (e ▸ hm1916)), (fun e => (hR3445.1 j hj k hk).2 (e ▸ hm1913))⟩, er2049rr⟩, hfr3446, hsb3278⟩) dX10_init_165

set_option maxHeartbeats 4000000 in
set_option maxRecDepth 100000 in
theorem k_X11_init (l : Launch) (g : GG) (L : List Nat) (f : HP) (sz : Nat) (mo : Nat) (hm_mo : mo ∈ L) (hf_mo : f mo = .inr (10, [.int 0, .null, .int 0, .int 0, .int 0, .int 0, .int 0, .null, .int 0, .int 0, .null, .null, .int 0, .int 0, .int 0, .int 0, .int 0, .int 0, .int 0, .int 0, .int 0, .long 0, .long 0, .int 0, .null, .int 0, .null, .null, .null, .null, .null, .null, .null, .null, .null, .null, .int 0, .int 0, .int 0, .int 0, .int 0, .null, .null, .null, .null, .long 0, .long 0, .int 0, .int 0, .null, .int 0, .int 0, .null, .int 0, .null, .int 0])) : MtV l g yX11_init cX11_init 1 ({ frames := 1, cells := 22, slots := 48415, locals := 12 }) [.ref mo] L f sz (fun u => ∃ (c21 : Nat) (c20 : Nat) (c19 : Nat) (c18 : Nat) (c17 : Nat) (c16 : Nat) (c15 : Nat) (c14 : Nat) (c13 : Nat) (c12 : Nat) (c11 : Nat) (c10 : Nat) (c9 : Nat) (c8 : Nat) (c7 : Nat) (c6 : Nat) (c5 : Nat) (c4 : Nat) (c3 : Nat) (c2 : Nat) (c1 : Nat) (c0 : Nat), c21 ∉ L ∧ c21 ∈ u.1 ∧ u.2 c21 = .inl (g.2.1 0, 200, .inl (fun _ => 0)) ∧ c20 ∉ L ∧ c20 ∈ u.1 ∧ u.2 c20 = .inl (g.2.1 0, 400, .inl (fun _ => 0)) ∧ c19 ∉ L ∧ c19 ∈ u.1 ∧ u.2 c19 = .inl (g.2.1 0, 5, .inl (fun _ => 0)) ∧ c18 ∉ L ∧ c18 ∈ u.1 ∧ u.2 c18 = .inl (g.2.1 1, 20, .inr (.inl (fun _ => 0))) ∧ c17 ∉ L ∧ c17 ∈ u.1 ∧ u.2 c17 = .inl (g.2.1 0, 42520, .inl (fun _ => 0)) ∧ c16 ∉ L ∧ c16 ∈ u.1 ∧ u.2 c16 = .inl (g.2.1 0, 2126, .inl (fun _ => 0)) ∧ c15 ∉ L ∧ c15 ∈ u.1 ∧ u.2 c15 = .inl (g.2.1 0, 2126, .inl (fun _ => 0)) ∧ c14 ∉ L ∧ c14 ∈ u.1 ∧ u.2 c14 = .inl (g.2.1 3, 9, .inl (fun _ => 0)) ∧ c13 ∉ L ∧ c13 ∈ u.1 ∧ u.2 c13 = .inl (g.2.1 3, 9, .inl (fun _ => 0)) ∧ c12 ∉ L ∧ c12 ∈ u.1 ∧ u.2 c12 = .inl (g.2.1 0, 81, .inl (fun _ => 0)) ∧ c11 ∉ L ∧ c11 ∈ u.1 ∧ u.2 c11 = .inl (g.2.1 0, 9, .inl (fun _ => 0)) ∧ c10 ∉ L ∧ c10 ∈ u.1 ∧ u.2 c10 = .inl (g.2.1 0, 9, .inl (fun _ => 0)) ∧ c9 ∉ L ∧ c9 ∈ u.1 ∧ u.2 c9 = .inl (g.2.1 0, 9, .inl (fun _ => 0)) ∧ c8 ∉ L ∧ c8 ∈ u.1 ∧ u.2 c8 = .inl (g.2.1 0, 9, .inl (fun _ => 0)) ∧ c7 ∉ L ∧ c7 ∈ u.1 ∧ u.2 c7 = .inl (g.2.1 0, 9, .inl (fun _ => 0)) ∧ c6 ∉ L ∧ c6 ∈ u.1 ∧ u.2 c6 = .inl (g.2.1 0, 9, .inl (fun _ => 0)) ∧ c5 ∉ L ∧ c5 ∈ u.1 ∧ u.2 c5 = .inl (g.2.1 0, 9, .inl (fun _ => 0)) ∧ c4 ∉ L ∧ c4 ∈ u.1 ∧ u.2 c4 = .inl (g.2.1 0, 150, .inl (fun _ => 0)) ∧ c3 ∉ L ∧ c3 ∈ u.1 ∧ u.2 c3 = .inl (g.2.1 0, 100, .inl (fun _ => 0)) ∧ c2 ∉ L ∧ c2 ∈ u.1 ∧ u.2 c2 = .inl (g.2.1 0, 100, .inl (fun _ => 0)) ∧ c1 ∉ L ∧ c1 ∈ u.1 ∧ u.2 c1 = .inl (g.2.1 0, 6, .inl (fun _ => 0)) ∧ c0 ∉ L ∧ c0 ∈ u.1 ∧ u.2 c0 = .inl (g.2.1 2, 500, .inl (fun _ => 0)) ∧ u.2 mo = .inr (10, [.int 0, .ref c0, .int 0, .int 0, .int 0, .int 0, .int 0, .ref c1, .int 0, .int 0, .ref c2, .ref c3, .int 0, .int 0, .int 0, .int 0, .int 0, .int 0, .int 0, .int 0, .int 0, .long 0, .long 0, .int 0, .ref c4, .int 0, .ref c5, .ref c6, .ref c7, .ref c8, .ref c9, .ref c10, .ref c11, .ref c12, .ref c13, .ref c14, .int 0, .int 0, .int 0, .int 0, .int 0, .ref c15, .ref c16, .ref c17, .ref c18, .long 0, .long 0, .int 0, .int 0, .ref c19, .int 0, .int 0, .ref c20, .int 0, .ref c21, .int 0]) ∧ [c21, c20, c19, c18, c17, c16, c15, c14, c13, c12, c11, c10, c9, c8, c7, c6, c5, c4, c3, c2, c1, c0].Nodup ∧ (∀ b, b ∈ L → b ≠ mo → u.2 b = f b) ∧ (∀ b, b ∈ L → b ∈ u.1)) := by
  refine MtV.of (by decide +kernel) (Nat.le_of_ble_eq_true rfl) ?_
  intro p e s m below meth c A hEn hP hD hS ls hl
  obtain ⟨hx, hb, hr, hml, hown, hlocks, hts, hG, hA, hE, hnm⟩ := hEn
  have hown : s.vm.findClass "RulerWordModel" = some m.cls := hown
  have hl : lv_has ls 1 [(0, .ref mo)] := hl
  have hfr0 : ∀ b, b ∈ L → b ≠ mo → f b = f b := fun b hb z0 => rfl
  have hsb0 : ∀ b, b ∈ L → b ∈ L := fun b hb => hb
  refine lv_aload_n hx hb dX11_init_0 rfl (lv_at hl 0 rfl) ?_
  refine W.objInit hx hb hown (hts _ (mT wg_1334)) (hts _ (mT wg_187)) (hts _ (mT wg_objInit)) rfl (by rw [hml]; exact hl.1) rfl dX11_init_1 (Nat.le_of_ble_eq_true rfl) (Nat.le_of_ble_eq_true rfl) ?_
  refine W.eq (g2 := F0 m 4 ls []) rfl ?_
  refine lv_aload_n hx hb dX11_init_4 rfl (lv_at hl 0 rfl) ?_
  refine lv_sipush (v := 500) hx hb dX11_init_5 (by decide) ?_
  refine pl_newa (atype := .byte) (ty := .byte) (N' := 500) (a0 := (500, .inl (fun _ => 0))) hx hb (hts _ (mT wg_705)) rfl hG.1 hP hD hS hA 2 rfl (fun _ h => h) (fun _ => rfl) (by decide) (by decide) (Nat.le_of_ble_eq_true rfl) (Nat.le_of_ble_eq_true rfl) (Nat.le_of_ble_eq_true rfl) dX11_init_8 (fun q1 H L2 f3 hq4 hs5 hm6 hf7 ho8 hP hD hS => ?_)
  have hN9 : [q1].Nodup := List.nodup_cons.mpr ⟨fun h => hq4 (nil_in _ h), List.nodup_nil⟩
  have hNs10 : ∀ b, b ∈ [q1] → b ∈ L2 := List.forall_mem_cons.mpr ⟨hm6, fun b hb => hs5 b (nil_in b hb)⟩
  have hfr11 : ∀ b, b ∈ L → b ≠ mo → f3 b = f b := fun b hb z0 => (ho8 b (hsb0 b hb)).trans (hfr0 b hb z0)
  have hnq13 : q1 ∉ L := fun h => hq4 (hsb0 _ h)
  have hsb12 : ∀ b, b ∈ L → b ∈ _ := fun b hb => hs5 b (hsb0 b hb)
  have hf14 := (ho8 mo hm_mo).trans hf_mo
  have hn16 : mo ≠ q1 := fun e => hq4 (e ▸ hm_mo)
  have hm15 := hs5 _ hm_mo
  refine pl_putF (ty := (.array .byte)) (v := .ref q1) (fs' := [.int 0, .ref q1, .int 0, .int 0, .int 0, .int 0, .int 0, .null, .int 0, .int 0, .null, .null, .int 0, .int 0, .int 0, .int 0, .int 0, .int 0, .int 0, .int 0, .int 0, .long 0, .long 0, .int 0, .null, .int 0, .null, .null, .null, .null, .null, .null, .null, .null, .null, .null, .int 0, .int 0, .int 0, .int 0, .int 0, .null, .null, .null, .null, .long 0, .long 0, .int 0, .int 0, .null, .int 0, .int 0, .null, .int 0, .null, .int 0]) hx hb hts (fun w h => mT (inX11 w h)) tyX11 tyX11_ok nmX11 hown hG.1 hP hD hS hm15 hf14 rfl 1 (by decide) (hts _ (mT wg_1337)) (fun _ h => h) rfl hnm rfl (by decide +kernel) (rfl) (rfl) (Nat.le_of_ble_eq_true rfl) rfl dX11_init_10 (fun H locs f17 hf19 ho18 hP hD hS => ?_)
  have hfr20 : ∀ b, b ∈ L → b ≠ mo → f17 b = f b := fun b hb z0 => (ho18 b z0).trans (hfr11 b hb z0)
  have hf21 := (ho18 q1 hn16.symm).trans hf7
  refine lv_aload_n hx hb dX11_init_13 rfl (lv_at hl 0 rfl) ?_
  refine lv_bipush (v := 6) hx hb dX11_init_14 (by decide) ?_
  refine pl_newa (atype := .int) (ty := .int) (N' := 6) (a0 := (6, .inl (fun _ => 0))) hx hb (hts _ (mT wg_217)) rfl hG.1 hP hD hS hA 0 rfl (fun _ h => h) (fun _ => rfl) (by decide) (by decide) (Nat.le_of_ble_eq_true rfl) (Nat.le_of_ble_eq_true rfl) (Nat.le_of_ble_eq_true rfl) dX11_init_16 (fun q22 H L23 f24 hq25 hs26 hm27 hf28 ho29 hP hD hS => ?_)
  have hN30 : [q22, q1].Nodup := List.nodup_cons.mpr ⟨fun h => hq25 (hNs10 _ h), hN9⟩
  have hNs31 : ∀ b, b ∈ [q22, q1] → b ∈ L23 := List.forall_mem_cons.mpr ⟨hm27, fun b hb => hs26 b (hNs10 b hb)⟩
  have hfr32 : ∀ b, b ∈ L → b ≠ mo → f24 b = f b := fun b hb z0 => (ho29 b (hsb12 b hb)).trans (hfr20 b hb z0)
  have hnq34 : q22 ∉ L := fun h => hq25 (hsb12 _ h)
  have hsb33 : ∀ b, b ∈ L → b ∈ _ := fun b hb => hs26 b (hsb12 b hb)
  have hf35 := (ho29 mo hm15).trans hf19
  have hn37 : mo ≠ q22 := fun e => hq25 (e ▸ hm15)
  have hm36 := hs26 _ hm15
  have hf38 := (ho29 q1 hm6).trans hf21
  have hn40 : q1 ≠ q22 := fun e => hq25 (e ▸ hm6)
  have hm39 := hs26 _ hm6
  refine pl_putF (ty := (.array .int)) (v := .ref q22) (fs' := [.int 0, .ref q1, .int 0, .int 0, .int 0, .int 0, .int 0, .ref q22, .int 0, .int 0, .null, .null, .int 0, .int 0, .int 0, .int 0, .int 0, .int 0, .int 0, .int 0, .int 0, .long 0, .long 0, .int 0, .null, .int 0, .null, .null, .null, .null, .null, .null, .null, .null, .null, .null, .int 0, .int 0, .int 0, .int 0, .int 0, .null, .null, .null, .null, .long 0, .long 0, .int 0, .int 0, .null, .int 0, .int 0, .null, .int 0, .null, .int 0]) hx hb hts (fun w h => mT (inX11 w h)) tyX11 tyX11_ok nmX11 hown hG.1 hP hD hS hm36 hf35 rfl 7 (by decide) (hts _ (mT wg_1343)) (fun _ h => h) rfl hnm rfl (by decide +kernel) (rfl) (rfl) (Nat.le_of_ble_eq_true rfl) rfl dX11_init_18 (fun H locs f41 hf43 ho42 hP hD hS => ?_)
  have hfr44 : ∀ b, b ∈ L → b ≠ mo → f41 b = f b := fun b hb z0 => (ho42 b z0).trans (hfr32 b hb z0)
  have hf45 := (ho42 q1 hn16.symm).trans hf38
  have hf46 := (ho42 q22 hn37.symm).trans hf28
  refine lv_aload_n hx hb dX11_init_21 rfl (lv_at hl 0 rfl) ?_
  refine lv_bipush (v := 100) hx hb dX11_init_22 (by decide) ?_
  refine pl_newa (atype := .int) (ty := .int) (N' := 100) (a0 := (100, .inl (fun _ => 0))) hx hb (hts _ (mT wg_217)) rfl hG.1 hP hD hS hA 0 rfl (fun _ h => h) (fun _ => rfl) (by decide) (by decide) (Nat.le_of_ble_eq_true rfl) (Nat.le_of_ble_eq_true rfl) (Nat.le_of_ble_eq_true rfl) dX11_init_24 (fun q47 H L48 f49 hq50 hs51 hm52 hf53 ho54 hP hD hS => ?_)
  have hN55 : [q47, q22, q1].Nodup := List.nodup_cons.mpr ⟨fun h => hq50 (hNs31 _ h), hN30⟩
  have hNs56 : ∀ b, b ∈ [q47, q22, q1] → b ∈ L48 := List.forall_mem_cons.mpr ⟨hm52, fun b hb => hs51 b (hNs31 b hb)⟩
  have hfr57 : ∀ b, b ∈ L → b ≠ mo → f49 b = f b := fun b hb z0 => (ho54 b (hsb33 b hb)).trans (hfr44 b hb z0)
  have hnq59 : q47 ∉ L := fun h => hq50 (hsb33 _ h)
  have hsb58 : ∀ b, b ∈ L → b ∈ _ := fun b hb => hs51 b (hsb33 b hb)
  have hf60 := (ho54 mo hm36).trans hf43
  have hn62 : mo ≠ q47 := fun e => hq50 (e ▸ hm36)
  have hm61 := hs51 _ hm36
  have hf63 := (ho54 q1 hm39).trans hf45
  have hn65 : q1 ≠ q47 := fun e => hq50 (e ▸ hm39)
  have hm64 := hs51 _ hm39
  have hf66 := (ho54 q22 hm27).trans hf46
  have hn68 : q22 ≠ q47 := fun e => hq50 (e ▸ hm27)
  have hm67 := hs51 _ hm27
  refine pl_putF (ty := (.array .int)) (v := .ref q47) (fs' := [.int 0, .ref q1, .int 0, .int 0, .int 0, .int 0, .int 0, .ref q22, .int 0, .int 0, .ref q47, .null, .int 0, .int 0, .int 0, .int 0, .int 0, .int 0, .int 0, .int 0, .int 0, .long 0, .long 0, .int 0, .null, .int 0, .null, .null, .null, .null, .null, .null, .null, .null, .null, .null, .int 0, .int 0, .int 0, .int 0, .int 0, .null, .null, .null, .null, .long 0, .long 0, .int 0, .int 0, .null, .int 0, .int 0, .null, .int 0, .null, .int 0]) hx hb hts (fun w h => mT (inX11 w h)) tyX11 tyX11_ok nmX11 hown hG.1 hP hD hS hm61 hf60 rfl 10 (by decide) (hts _ (mT wg_1346)) (fun _ h => h) rfl hnm rfl (by decide +kernel) (rfl) (rfl) (Nat.le_of_ble_eq_true rfl) rfl dX11_init_26 (fun H locs f69 hf71 ho70 hP hD hS => ?_)
  have hfr72 : ∀ b, b ∈ L → b ≠ mo → f69 b = f b := fun b hb z0 => (ho70 b z0).trans (hfr57 b hb z0)
  have hf73 := (ho70 q1 hn16.symm).trans hf63
  have hf74 := (ho70 q22 hn37.symm).trans hf66
  have hf75 := (ho70 q47 hn62.symm).trans hf53
  refine lv_aload_n hx hb dX11_init_29 rfl (lv_at hl 0 rfl) ?_
  refine lv_bipush (v := 100) hx hb dX11_init_30 (by decide) ?_
  refine pl_newa (atype := .int) (ty := .int) (N' := 100) (a0 := (100, .inl (fun _ => 0))) hx hb (hts _ (mT wg_217)) rfl hG.1 hP hD hS hA 0 rfl (fun _ h => h) (fun _ => rfl) (by decide) (by decide) (Nat.le_of_ble_eq_true rfl) (Nat.le_of_ble_eq_true rfl) (Nat.le_of_ble_eq_true rfl) dX11_init_32 (fun q76 H L77 f78 hq79 hs80 hm81 hf82 ho83 hP hD hS => ?_)
  have hN84 : [q76, q47, q22, q1].Nodup := List.nodup_cons.mpr ⟨fun h => hq79 (hNs56 _ h), hN55⟩
  have hNs85 : ∀ b, b ∈ [q76, q47, q22, q1] → b ∈ L77 := List.forall_mem_cons.mpr ⟨hm81, fun b hb => hs80 b (hNs56 b hb)⟩
  have hfr86 : ∀ b, b ∈ L → b ≠ mo → f78 b = f b := fun b hb z0 => (ho83 b (hsb58 b hb)).trans (hfr72 b hb z0)
  have hnq88 : q76 ∉ L := fun h => hq79 (hsb58 _ h)
  have hsb87 : ∀ b, b ∈ L → b ∈ _ := fun b hb => hs80 b (hsb58 b hb)
  have hf89 := (ho83 mo hm61).trans hf71
  have hn91 : mo ≠ q76 := fun e => hq79 (e ▸ hm61)
  have hm90 := hs80 _ hm61
  have hf92 := (ho83 q1 hm64).trans hf73
  have hn94 : q1 ≠ q76 := fun e => hq79 (e ▸ hm64)
  have hm93 := hs80 _ hm64
  have hf95 := (ho83 q22 hm67).trans hf74
  have hn97 : q22 ≠ q76 := fun e => hq79 (e ▸ hm67)
  have hm96 := hs80 _ hm67
  have hf98 := (ho83 q47 hm52).trans hf75
  have hn100 : q47 ≠ q76 := fun e => hq79 (e ▸ hm52)
  have hm99 := hs80 _ hm52
  refine pl_putF (ty := (.array .int)) (v := .ref q76) (fs' := [.int 0, .ref q1, .int 0, .int 0, .int 0, .int 0, .int 0, .ref q22, .int 0, .int 0, .ref q47, .ref q76, .int 0, .int 0, .int 0, .int 0, .int 0, .int 0, .int 0, .int 0, .int 0, .long 0, .long 0, .int 0, .null, .int 0, .null, .null, .null, .null, .null, .null, .null, .null, .null, .null, .int 0, .int 0, .int 0, .int 0, .int 0, .null, .null, .null, .null, .long 0, .long 0, .int 0, .int 0, .null, .int 0, .int 0, .null, .int 0, .null, .int 0]) hx hb hts (fun w h => mT (inX11 w h)) tyX11 tyX11_ok nmX11 hown hG.1 hP hD hS hm90 hf89 rfl 11 (by decide) (hts _ (mT wg_1347)) (fun _ h => h) rfl hnm rfl (by decide +kernel) (rfl) (rfl) (Nat.le_of_ble_eq_true rfl) rfl dX11_init_34 (fun H locs f101 hf103 ho102 hP hD hS => ?_)
  have hfr104 : ∀ b, b ∈ L → b ≠ mo → f101 b = f b := fun b hb z0 => (ho102 b z0).trans (hfr86 b hb z0)
  have hf105 := (ho102 q1 hn16.symm).trans hf92
  have hf106 := (ho102 q22 hn37.symm).trans hf95
  have hf107 := (ho102 q47 hn62.symm).trans hf98
  have hf108 := (ho102 q76 hn91.symm).trans hf82
  refine lv_aload_n hx hb dX11_init_37 rfl (lv_at hl 0 rfl) ?_
  refine lv_sipush (v := 150) hx hb dX11_init_38 (by decide) ?_
  refine pl_newa (atype := .int) (ty := .int) (N' := 150) (a0 := (150, .inl (fun _ => 0))) hx hb (hts _ (mT wg_217)) rfl hG.1 hP hD hS hA 0 rfl (fun _ h => h) (fun _ => rfl) (by decide) (by decide) (Nat.le_of_ble_eq_true rfl) (Nat.le_of_ble_eq_true rfl) (Nat.le_of_ble_eq_true rfl) dX11_init_41 (fun q109 H L110 f111 hq112 hs113 hm114 hf115 ho116 hP hD hS => ?_)
  have hN117 : [q109, q76, q47, q22, q1].Nodup := List.nodup_cons.mpr ⟨fun h => hq112 (hNs85 _ h), hN84⟩
  have hNs118 : ∀ b, b ∈ [q109, q76, q47, q22, q1] → b ∈ L110 := List.forall_mem_cons.mpr ⟨hm114, fun b hb => hs113 b (hNs85 b hb)⟩
  have hfr119 : ∀ b, b ∈ L → b ≠ mo → f111 b = f b := fun b hb z0 => (ho116 b (hsb87 b hb)).trans (hfr104 b hb z0)
  have hnq121 : q109 ∉ L := fun h => hq112 (hsb87 _ h)
  have hsb120 : ∀ b, b ∈ L → b ∈ _ := fun b hb => hs113 b (hsb87 b hb)
  have hf122 := (ho116 mo hm90).trans hf103
  have hn124 : mo ≠ q109 := fun e => hq112 (e ▸ hm90)
  have hm123 := hs113 _ hm90
  have hf125 := (ho116 q1 hm93).trans hf105
  have hn127 : q1 ≠ q109 := fun e => hq112 (e ▸ hm93)
  have hm126 := hs113 _ hm93
  have hf128 := (ho116 q22 hm96).trans hf106
  have hn130 : q22 ≠ q109 := fun e => hq112 (e ▸ hm96)
  have hm129 := hs113 _ hm96
  have hf131 := (ho116 q47 hm99).trans hf107
  have hn133 : q47 ≠ q109 := fun e => hq112 (e ▸ hm99)
  have hm132 := hs113 _ hm99
  have hf134 := (ho116 q76 hm81).trans hf108
  have hn136 : q76 ≠ q109 := fun e => hq112 (e ▸ hm81)
  have hm135 := hs113 _ hm81
  refine pl_putF (ty := (.array .int)) (v := .ref q109) (fs' := [.int 0, .ref q1, .int 0, .int 0, .int 0, .int 0, .int 0, .ref q22, .int 0, .int 0, .ref q47, .ref q76, .int 0, .int 0, .int 0, .int 0, .int 0, .int 0, .int 0, .int 0, .int 0, .long 0, .long 0, .int 0, .ref q109, .int 0, .null, .null, .null, .null, .null, .null, .null, .null, .null, .null, .int 0, .int 0, .int 0, .int 0, .int 0, .null, .null, .null, .null, .long 0, .long 0, .int 0, .int 0, .null, .int 0, .int 0, .null, .int 0, .null, .int 0]) hx hb hts (fun w h => mT (inX11 w h)) tyX11 tyX11_ok nmX11 hown hG.1 hP hD hS hm123 hf122 rfl 24 (by decide) (hts _ (mT wg_1360)) (fun _ h => h) rfl hnm rfl (by decide +kernel) (rfl) (rfl) (Nat.le_of_ble_eq_true rfl) rfl dX11_init_43 (fun H locs f137 hf139 ho138 hP hD hS => ?_)
  have hfr140 : ∀ b, b ∈ L → b ≠ mo → f137 b = f b := fun b hb z0 => (ho138 b z0).trans (hfr119 b hb z0)
  have hf141 := (ho138 q1 hn16.symm).trans hf125
  have hf142 := (ho138 q22 hn37.symm).trans hf128
  have hf143 := (ho138 q47 hn62.symm).trans hf131
  have hf144 := (ho138 q76 hn91.symm).trans hf134
  have hf145 := (ho138 q109 hn124.symm).trans hf115
  refine lv_aload_n hx hb dX11_init_46 rfl (lv_at hl 0 rfl) ?_
  refine lv_bipush (v := 9) hx hb dX11_init_47 (by decide) ?_
  refine pl_newa (atype := .int) (ty := .int) (N' := 9) (a0 := (9, .inl (fun _ => 0))) hx hb (hts _ (mT wg_217)) rfl hG.1 hP hD hS hA 0 rfl (fun _ h => h) (fun _ => rfl) (by decide) (by decide) (Nat.le_of_ble_eq_true rfl) (Nat.le_of_ble_eq_true rfl) (Nat.le_of_ble_eq_true rfl) dX11_init_49 (fun q146 H L147 f148 hq149 hs150 hm151 hf152 ho153 hP hD hS => ?_)
  have hN154 : [q146, q109, q76, q47, q22, q1].Nodup := List.nodup_cons.mpr ⟨fun h => hq149 (hNs118 _ h), hN117⟩
  have hNs155 : ∀ b, b ∈ [q146, q109, q76, q47, q22, q1] → b ∈ L147 := List.forall_mem_cons.mpr ⟨hm151, fun b hb => hs150 b (hNs118 b hb)⟩
  have hfr156 : ∀ b, b ∈ L → b ≠ mo → f148 b = f b := fun b hb z0 => (ho153 b (hsb120 b hb)).trans (hfr140 b hb z0)
  have hnq158 : q146 ∉ L := fun h => hq149 (hsb120 _ h)
  have hsb157 : ∀ b, b ∈ L → b ∈ _ := fun b hb => hs150 b (hsb120 b hb)
  have hf159 := (ho153 mo hm123).trans hf139
  have hn161 : mo ≠ q146 := fun e => hq149 (e ▸ hm123)
  have hm160 := hs150 _ hm123
  have hf162 := (ho153 q1 hm126).trans hf141
  have hn164 : q1 ≠ q146 := fun e => hq149 (e ▸ hm126)
  have hm163 := hs150 _ hm126
  have hf165 := (ho153 q22 hm129).trans hf142
  have hn167 : q22 ≠ q146 := fun e => hq149 (e ▸ hm129)
  have hm166 := hs150 _ hm129
  have hf168 := (ho153 q47 hm132).trans hf143
  have hn170 : q47 ≠ q146 := fun e => hq149 (e ▸ hm132)
  have hm169 := hs150 _ hm132
  have hf171 := (ho153 q76 hm135).trans hf144
  have hn173 : q76 ≠ q146 := fun e => hq149 (e ▸ hm135)
  have hm172 := hs150 _ hm135
  have hf174 := (ho153 q109 hm114).trans hf145
  have hn176 : q109 ≠ q146 := fun e => hq149 (e ▸ hm114)
  have hm175 := hs150 _ hm114
  refine pl_putF (ty := (.array .int)) (v := .ref q146) (fs' := [.int 0, .ref q1, .int 0, .int 0, .int 0, .int 0, .int 0, .ref q22, .int 0, .int 0, .ref q47, .ref q76, .int 0, .int 0, .int 0, .int 0, .int 0, .int 0, .int 0, .int 0, .int 0, .long 0, .long 0, .int 0, .ref q109, .int 0, .ref q146, .null, .null, .null, .null, .null, .null, .null, .null, .null, .int 0, .int 0, .int 0, .int 0, .int 0, .null, .null, .null, .null, .long 0, .long 0, .int 0, .int 0, .null, .int 0, .int 0, .null, .int 0, .null, .int 0]) hx hb hts (fun w h => mT (inX11 w h)) tyX11 tyX11_ok nmX11 hown hG.1 hP hD hS hm160 hf159 rfl 26 (by decide) (hts _ (mT wg_1362)) (fun _ h => h) rfl hnm rfl (by decide +kernel) (rfl) (rfl) (Nat.le_of_ble_eq_true rfl) rfl dX11_init_51 (fun H locs f177 hf179 ho178 hP hD hS => ?_)
  have hfr180 : ∀ b, b ∈ L → b ≠ mo → f177 b = f b := fun b hb z0 => (ho178 b z0).trans (hfr156 b hb z0)
  have hf181 := (ho178 q1 hn16.symm).trans hf162
  have hf182 := (ho178 q22 hn37.symm).trans hf165
  have hf183 := (ho178 q47 hn62.symm).trans hf168
  have hf184 := (ho178 q76 hn91.symm).trans hf171
  have hf185 := (ho178 q109 hn124.symm).trans hf174
  have hf186 := (ho178 q146 hn161.symm).trans hf152
  refine lv_aload_n hx hb dX11_init_54 rfl (lv_at hl 0 rfl) ?_
  refine lv_bipush (v := 9) hx hb dX11_init_55 (by decide) ?_
  refine pl_newa (atype := .int) (ty := .int) (N' := 9) (a0 := (9, .inl (fun _ => 0))) hx hb (hts _ (mT wg_217)) rfl hG.1 hP hD hS hA 0 rfl (fun _ h => h) (fun _ => rfl) (by decide) (by decide) (Nat.le_of_ble_eq_true rfl) (Nat.le_of_ble_eq_true rfl) (Nat.le_of_ble_eq_true rfl) dX11_init_57 (fun q187 H L188 f189 hq190 hs191 hm192 hf193 ho194 hP hD hS => ?_)
  have hN195 : [q187, q146, q109, q76, q47, q22, q1].Nodup := List.nodup_cons.mpr ⟨fun h => hq190 (hNs155 _ h), hN154⟩
  have hNs196 : ∀ b, b ∈ [q187, q146, q109, q76, q47, q22, q1] → b ∈ L188 := List.forall_mem_cons.mpr ⟨hm192, fun b hb => hs191 b (hNs155 b hb)⟩
  have hfr197 : ∀ b, b ∈ L → b ≠ mo → f189 b = f b := fun b hb z0 => (ho194 b (hsb157 b hb)).trans (hfr180 b hb z0)
  have hnq199 : q187 ∉ L := fun h => hq190 (hsb157 _ h)
  have hsb198 : ∀ b, b ∈ L → b ∈ _ := fun b hb => hs191 b (hsb157 b hb)
  have hf200 := (ho194 mo hm160).trans hf179
  have hn202 : mo ≠ q187 := fun e => hq190 (e ▸ hm160)
  have hm201 := hs191 _ hm160
  have hf203 := (ho194 q1 hm163).trans hf181
  have hn205 : q1 ≠ q187 := fun e => hq190 (e ▸ hm163)
  have hm204 := hs191 _ hm163
  have hf206 := (ho194 q22 hm166).trans hf182
  have hn208 : q22 ≠ q187 := fun e => hq190 (e ▸ hm166)
  have hm207 := hs191 _ hm166
  have hf209 := (ho194 q47 hm169).trans hf183
  have hn211 : q47 ≠ q187 := fun e => hq190 (e ▸ hm169)
  have hm210 := hs191 _ hm169
  have hf212 := (ho194 q76 hm172).trans hf184
  have hn214 : q76 ≠ q187 := fun e => hq190 (e ▸ hm172)
  have hm213 := hs191 _ hm172
  have hf215 := (ho194 q109 hm175).trans hf185
  have hn217 : q109 ≠ q187 := fun e => hq190 (e ▸ hm175)
  have hm216 := hs191 _ hm175
  have hf218 := (ho194 q146 hm151).trans hf186
  have hn220 : q146 ≠ q187 := fun e => hq190 (e ▸ hm151)
  have hm219 := hs191 _ hm151
  refine pl_putF (ty := (.array .int)) (v := .ref q187) (fs' := [.int 0, .ref q1, .int 0, .int 0, .int 0, .int 0, .int 0, .ref q22, .int 0, .int 0, .ref q47, .ref q76, .int 0, .int 0, .int 0, .int 0, .int 0, .int 0, .int 0, .int 0, .int 0, .long 0, .long 0, .int 0, .ref q109, .int 0, .ref q146, .ref q187, .null, .null, .null, .null, .null, .null, .null, .null, .int 0, .int 0, .int 0, .int 0, .int 0, .null, .null, .null, .null, .long 0, .long 0, .int 0, .int 0, .null, .int 0, .int 0, .null, .int 0, .null, .int 0]) hx hb hts (fun w h => mT (inX11 w h)) tyX11 tyX11_ok nmX11 hown hG.1 hP hD hS hm201 hf200 rfl 27 (by decide) (hts _ (mT wg_1363)) (fun _ h => h) rfl hnm rfl (by decide +kernel) (rfl) (rfl) (Nat.le_of_ble_eq_true rfl) rfl dX11_init_59 (fun H locs f221 hf223 ho222 hP hD hS => ?_)
  have hfr224 : ∀ b, b ∈ L → b ≠ mo → f221 b = f b := fun b hb z0 => (ho222 b z0).trans (hfr197 b hb z0)
  have hf225 := (ho222 q1 hn16.symm).trans hf203
  have hf226 := (ho222 q22 hn37.symm).trans hf206
  have hf227 := (ho222 q47 hn62.symm).trans hf209
  have hf228 := (ho222 q76 hn91.symm).trans hf212
  have hf229 := (ho222 q109 hn124.symm).trans hf215
  have hf230 := (ho222 q146 hn161.symm).trans hf218
  have hf231 := (ho222 q187 hn202.symm).trans hf193
  refine lv_aload_n hx hb dX11_init_62 rfl (lv_at hl 0 rfl) ?_
  refine lv_bipush (v := 9) hx hb dX11_init_63 (by decide) ?_
  refine pl_newa (atype := .int) (ty := .int) (N' := 9) (a0 := (9, .inl (fun _ => 0))) hx hb (hts _ (mT wg_217)) rfl hG.1 hP hD hS hA 0 rfl (fun _ h => h) (fun _ => rfl) (by decide) (by decide) (Nat.le_of_ble_eq_true rfl) (Nat.le_of_ble_eq_true rfl) (Nat.le_of_ble_eq_true rfl) dX11_init_65 (fun q232 H L233 f234 hq235 hs236 hm237 hf238 ho239 hP hD hS => ?_)
  have hN240 : [q232, q187, q146, q109, q76, q47, q22, q1].Nodup := List.nodup_cons.mpr ⟨fun h => hq235 (hNs196 _ h), hN195⟩
  have hNs241 : ∀ b, b ∈ [q232, q187, q146, q109, q76, q47, q22, q1] → b ∈ L233 := List.forall_mem_cons.mpr ⟨hm237, fun b hb => hs236 b (hNs196 b hb)⟩
  have hfr242 : ∀ b, b ∈ L → b ≠ mo → f234 b = f b := fun b hb z0 => (ho239 b (hsb198 b hb)).trans (hfr224 b hb z0)
  have hnq244 : q232 ∉ L := fun h => hq235 (hsb198 _ h)
  have hsb243 : ∀ b, b ∈ L → b ∈ _ := fun b hb => hs236 b (hsb198 b hb)
  have hf245 := (ho239 mo hm201).trans hf223
  have hn247 : mo ≠ q232 := fun e => hq235 (e ▸ hm201)
  have hm246 := hs236 _ hm201
  have hf248 := (ho239 q1 hm204).trans hf225
  have hn250 : q1 ≠ q232 := fun e => hq235 (e ▸ hm204)
  have hm249 := hs236 _ hm204
  have hf251 := (ho239 q22 hm207).trans hf226
  have hn253 : q22 ≠ q232 := fun e => hq235 (e ▸ hm207)
  have hm252 := hs236 _ hm207
  have hf254 := (ho239 q47 hm210).trans hf227
  have hn256 : q47 ≠ q232 := fun e => hq235 (e ▸ hm210)
  have hm255 := hs236 _ hm210
  have hf257 := (ho239 q76 hm213).trans hf228
  have hn259 : q76 ≠ q232 := fun e => hq235 (e ▸ hm213)
  have hm258 := hs236 _ hm213
  have hf260 := (ho239 q109 hm216).trans hf229
  have hn262 : q109 ≠ q232 := fun e => hq235 (e ▸ hm216)
  have hm261 := hs236 _ hm216
  have hf263 := (ho239 q146 hm219).trans hf230
  have hn265 : q146 ≠ q232 := fun e => hq235 (e ▸ hm219)
  have hm264 := hs236 _ hm219
  have hf266 := (ho239 q187 hm192).trans hf231
  have hn268 : q187 ≠ q232 := fun e => hq235 (e ▸ hm192)
  have hm267 := hs236 _ hm192
  refine pl_putF (ty := (.array .int)) (v := .ref q232) (fs' := [.int 0, .ref q1, .int 0, .int 0, .int 0, .int 0, .int 0, .ref q22, .int 0, .int 0, .ref q47, .ref q76, .int 0, .int 0, .int 0, .int 0, .int 0, .int 0, .int 0, .int 0, .int 0, .long 0, .long 0, .int 0, .ref q109, .int 0, .ref q146, .ref q187, .ref q232, .null, .null, .null, .null, .null, .null, .null, .int 0, .int 0, .int 0, .int 0, .int 0, .null, .null, .null, .null, .long 0, .long 0, .int 0, .int 0, .null, .int 0, .int 0, .null, .int 0, .null, .int 0]) hx hb hts (fun w h => mT (inX11 w h)) tyX11 tyX11_ok nmX11 hown hG.1 hP hD hS hm246 hf245 rfl 28 (by decide) (hts _ (mT wg_1364)) (fun _ h => h) rfl hnm rfl (by decide +kernel) (rfl) (rfl) (Nat.le_of_ble_eq_true rfl) rfl dX11_init_67 (fun H locs f269 hf271 ho270 hP hD hS => ?_)
  have hfr272 : ∀ b, b ∈ L → b ≠ mo → f269 b = f b := fun b hb z0 => (ho270 b z0).trans (hfr242 b hb z0)
  have hf273 := (ho270 q1 hn16.symm).trans hf248
  have hf274 := (ho270 q22 hn37.symm).trans hf251
  have hf275 := (ho270 q47 hn62.symm).trans hf254
  have hf276 := (ho270 q76 hn91.symm).trans hf257
  have hf277 := (ho270 q109 hn124.symm).trans hf260
  have hf278 := (ho270 q146 hn161.symm).trans hf263
  have hf279 := (ho270 q187 hn202.symm).trans hf266
  have hf280 := (ho270 q232 hn247.symm).trans hf238
  refine lv_aload_n hx hb dX11_init_70 rfl (lv_at hl 0 rfl) ?_
  refine lv_bipush (v := 9) hx hb dX11_init_71 (by decide) ?_
  refine pl_newa (atype := .int) (ty := .int) (N' := 9) (a0 := (9, .inl (fun _ => 0))) hx hb (hts _ (mT wg_217)) rfl hG.1 hP hD hS hA 0 rfl (fun _ h => h) (fun _ => rfl) (by decide) (by decide) (Nat.le_of_ble_eq_true rfl) (Nat.le_of_ble_eq_true rfl) (Nat.le_of_ble_eq_true rfl) dX11_init_73 (fun q281 H L282 f283 hq284 hs285 hm286 hf287 ho288 hP hD hS => ?_)
  have hN289 : [q281, q232, q187, q146, q109, q76, q47, q22, q1].Nodup := List.nodup_cons.mpr ⟨fun h => hq284 (hNs241 _ h), hN240⟩
  have hNs290 : ∀ b, b ∈ [q281, q232, q187, q146, q109, q76, q47, q22, q1] → b ∈ L282 := List.forall_mem_cons.mpr ⟨hm286, fun b hb => hs285 b (hNs241 b hb)⟩
  have hfr291 : ∀ b, b ∈ L → b ≠ mo → f283 b = f b := fun b hb z0 => (ho288 b (hsb243 b hb)).trans (hfr272 b hb z0)
  have hnq293 : q281 ∉ L := fun h => hq284 (hsb243 _ h)
  have hsb292 : ∀ b, b ∈ L → b ∈ _ := fun b hb => hs285 b (hsb243 b hb)
  have hf294 := (ho288 mo hm246).trans hf271
  have hn296 : mo ≠ q281 := fun e => hq284 (e ▸ hm246)
  have hm295 := hs285 _ hm246
  have hf297 := (ho288 q1 hm249).trans hf273
  have hn299 : q1 ≠ q281 := fun e => hq284 (e ▸ hm249)
  have hm298 := hs285 _ hm249
  have hf300 := (ho288 q22 hm252).trans hf274
  have hn302 : q22 ≠ q281 := fun e => hq284 (e ▸ hm252)
  have hm301 := hs285 _ hm252
  have hf303 := (ho288 q47 hm255).trans hf275
  have hn305 : q47 ≠ q281 := fun e => hq284 (e ▸ hm255)
  have hm304 := hs285 _ hm255
  have hf306 := (ho288 q76 hm258).trans hf276
  have hn308 : q76 ≠ q281 := fun e => hq284 (e ▸ hm258)
  have hm307 := hs285 _ hm258
  have hf309 := (ho288 q109 hm261).trans hf277
  have hn311 : q109 ≠ q281 := fun e => hq284 (e ▸ hm261)
  have hm310 := hs285 _ hm261
  have hf312 := (ho288 q146 hm264).trans hf278
  have hn314 : q146 ≠ q281 := fun e => hq284 (e ▸ hm264)
  have hm313 := hs285 _ hm264
  have hf315 := (ho288 q187 hm267).trans hf279
  have hn317 : q187 ≠ q281 := fun e => hq284 (e ▸ hm267)
  have hm316 := hs285 _ hm267
  have hf318 := (ho288 q232 hm237).trans hf280
  have hn320 : q232 ≠ q281 := fun e => hq284 (e ▸ hm237)
  have hm319 := hs285 _ hm237
  refine pl_putF (ty := (.array .int)) (v := .ref q281) (fs' := [.int 0, .ref q1, .int 0, .int 0, .int 0, .int 0, .int 0, .ref q22, .int 0, .int 0, .ref q47, .ref q76, .int 0, .int 0, .int 0, .int 0, .int 0, .int 0, .int 0, .int 0, .int 0, .long 0, .long 0, .int 0, .ref q109, .int 0, .ref q146, .ref q187, .ref q232, .ref q281, .null, .null, .null, .null, .null, .null, .int 0, .int 0, .int 0, .int 0, .int 0, .null, .null, .null, .null, .long 0, .long 0, .int 0, .int 0, .null, .int 0, .int 0, .null, .int 0, .null, .int 0]) hx hb hts (fun w h => mT (inX11 w h)) tyX11 tyX11_ok nmX11 hown hG.1 hP hD hS hm295 hf294 rfl 29 (by decide) (hts _ (mT wg_1365)) (fun _ h => h) rfl hnm rfl (by decide +kernel) (rfl) (rfl) (Nat.le_of_ble_eq_true rfl) rfl dX11_init_75 (fun H locs f321 hf323 ho322 hP hD hS => ?_)
  have hfr324 : ∀ b, b ∈ L → b ≠ mo → f321 b = f b := fun b hb z0 => (ho322 b z0).trans (hfr291 b hb z0)
  have hf325 := (ho322 q1 hn16.symm).trans hf297
  have hf326 := (ho322 q22 hn37.symm).trans hf300
  have hf327 := (ho322 q47 hn62.symm).trans hf303
  have hf328 := (ho322 q76 hn91.symm).trans hf306
  have hf329 := (ho322 q109 hn124.symm).trans hf309
  have hf330 := (ho322 q146 hn161.symm).trans hf312
  have hf331 := (ho322 q187 hn202.symm).trans hf315
  have hf332 := (ho322 q232 hn247.symm).trans hf318
  have hf333 := (ho322 q281 hn296.symm).trans hf287
  refine lv_aload_n hx hb dX11_init_78 rfl (lv_at hl 0 rfl) ?_
  refine lv_bipush (v := 9) hx hb dX11_init_79 (by decide) ?_
  refine pl_newa (atype := .int) (ty := .int) (N' := 9) (a0 := (9, .inl (fun _ => 0))) hx hb (hts _ (mT wg_217)) rfl hG.1 hP hD hS hA 0 rfl (fun _ h => h) (fun _ => rfl) (by decide) (by decide) (Nat.le_of_ble_eq_true rfl) (Nat.le_of_ble_eq_true rfl) (Nat.le_of_ble_eq_true rfl) dX11_init_81 (fun q334 H L335 f336 hq337 hs338 hm339 hf340 ho341 hP hD hS => ?_)
  have hN342 : [q334, q281, q232, q187, q146, q109, q76, q47, q22, q1].Nodup := List.nodup_cons.mpr ⟨fun h => hq337 (hNs290 _ h), hN289⟩
  have hNs343 : ∀ b, b ∈ [q334, q281, q232, q187, q146, q109, q76, q47, q22, q1] → b ∈ L335 := List.forall_mem_cons.mpr ⟨hm339, fun b hb => hs338 b (hNs290 b hb)⟩
  have hfr344 : ∀ b, b ∈ L → b ≠ mo → f336 b = f b := fun b hb z0 => (ho341 b (hsb292 b hb)).trans (hfr324 b hb z0)
  have hnq346 : q334 ∉ L := fun h => hq337 (hsb292 _ h)
  have hsb345 : ∀ b, b ∈ L → b ∈ _ := fun b hb => hs338 b (hsb292 b hb)
  have hf347 := (ho341 mo hm295).trans hf323
  have hn349 : mo ≠ q334 := fun e => hq337 (e ▸ hm295)
  have hm348 := hs338 _ hm295
  have hf350 := (ho341 q1 hm298).trans hf325
  have hn352 : q1 ≠ q334 := fun e => hq337 (e ▸ hm298)
  have hm351 := hs338 _ hm298
  have hf353 := (ho341 q22 hm301).trans hf326
  have hn355 : q22 ≠ q334 := fun e => hq337 (e ▸ hm301)
  have hm354 := hs338 _ hm301
  have hf356 := (ho341 q47 hm304).trans hf327
  have hn358 : q47 ≠ q334 := fun e => hq337 (e ▸ hm304)
  have hm357 := hs338 _ hm304
  have hf359 := (ho341 q76 hm307).trans hf328
  have hn361 : q76 ≠ q334 := fun e => hq337 (e ▸ hm307)
  have hm360 := hs338 _ hm307
  have hf362 := (ho341 q109 hm310).trans hf329
  have hn364 : q109 ≠ q334 := fun e => hq337 (e ▸ hm310)
  have hm363 := hs338 _ hm310
  have hf365 := (ho341 q146 hm313).trans hf330
  have hn367 : q146 ≠ q334 := fun e => hq337 (e ▸ hm313)
  have hm366 := hs338 _ hm313
  have hf368 := (ho341 q187 hm316).trans hf331
  have hn370 : q187 ≠ q334 := fun e => hq337 (e ▸ hm316)
  have hm369 := hs338 _ hm316
  have hf371 := (ho341 q232 hm319).trans hf332
  have hn373 : q232 ≠ q334 := fun e => hq337 (e ▸ hm319)
  have hm372 := hs338 _ hm319
  have hf374 := (ho341 q281 hm286).trans hf333
  have hn376 : q281 ≠ q334 := fun e => hq337 (e ▸ hm286)
  have hm375 := hs338 _ hm286
  refine pl_putF (ty := (.array .int)) (v := .ref q334) (fs' := [.int 0, .ref q1, .int 0, .int 0, .int 0, .int 0, .int 0, .ref q22, .int 0, .int 0, .ref q47, .ref q76, .int 0, .int 0, .int 0, .int 0, .int 0, .int 0, .int 0, .int 0, .int 0, .long 0, .long 0, .int 0, .ref q109, .int 0, .ref q146, .ref q187, .ref q232, .ref q281, .ref q334, .null, .null, .null, .null, .null, .int 0, .int 0, .int 0, .int 0, .int 0, .null, .null, .null, .null, .long 0, .long 0, .int 0, .int 0, .null, .int 0, .int 0, .null, .int 0, .null, .int 0]) hx hb hts (fun w h => mT (inX11 w h)) tyX11 tyX11_ok nmX11 hown hG.1 hP hD hS hm348 hf347 rfl 30 (by decide) (hts _ (mT wg_1366)) (fun _ h => h) rfl hnm rfl (by decide +kernel) (rfl) (rfl) (Nat.le_of_ble_eq_true rfl) rfl dX11_init_83 (fun H locs f377 hf379 ho378 hP hD hS => ?_)
  have hfr380 : ∀ b, b ∈ L → b ≠ mo → f377 b = f b := fun b hb z0 => (ho378 b z0).trans (hfr344 b hb z0)
  have hf381 := (ho378 q1 hn16.symm).trans hf350
  have hf382 := (ho378 q22 hn37.symm).trans hf353
  have hf383 := (ho378 q47 hn62.symm).trans hf356
  have hf384 := (ho378 q76 hn91.symm).trans hf359
  have hf385 := (ho378 q109 hn124.symm).trans hf362
  have hf386 := (ho378 q146 hn161.symm).trans hf365
  have hf387 := (ho378 q187 hn202.symm).trans hf368
  have hf388 := (ho378 q232 hn247.symm).trans hf371
  have hf389 := (ho378 q281 hn296.symm).trans hf374
  have hf390 := (ho378 q334 hn349.symm).trans hf340
  refine lv_aload_n hx hb dX11_init_86 rfl (lv_at hl 0 rfl) ?_
  refine lv_bipush (v := 9) hx hb dX11_init_87 (by decide) ?_
  refine pl_newa (atype := .int) (ty := .int) (N' := 9) (a0 := (9, .inl (fun _ => 0))) hx hb (hts _ (mT wg_217)) rfl hG.1 hP hD hS hA 0 rfl (fun _ h => h) (fun _ => rfl) (by decide) (by decide) (Nat.le_of_ble_eq_true rfl) (Nat.le_of_ble_eq_true rfl) (Nat.le_of_ble_eq_true rfl) dX11_init_89 (fun q391 H L392 f393 hq394 hs395 hm396 hf397 ho398 hP hD hS => ?_)
  have hN399 : [q391, q334, q281, q232, q187, q146, q109, q76, q47, q22, q1].Nodup := List.nodup_cons.mpr ⟨fun h => hq394 (hNs343 _ h), hN342⟩
  have hNs400 : ∀ b, b ∈ [q391, q334, q281, q232, q187, q146, q109, q76, q47, q22, q1] → b ∈ L392 := List.forall_mem_cons.mpr ⟨hm396, fun b hb => hs395 b (hNs343 b hb)⟩
  have hfr401 : ∀ b, b ∈ L → b ≠ mo → f393 b = f b := fun b hb z0 => (ho398 b (hsb345 b hb)).trans (hfr380 b hb z0)
  have hnq403 : q391 ∉ L := fun h => hq394 (hsb345 _ h)
  have hsb402 : ∀ b, b ∈ L → b ∈ _ := fun b hb => hs395 b (hsb345 b hb)
  have hf404 := (ho398 mo hm348).trans hf379
  have hn406 : mo ≠ q391 := fun e => hq394 (e ▸ hm348)
  have hm405 := hs395 _ hm348
  have hf407 := (ho398 q1 hm351).trans hf381
  have hn409 : q1 ≠ q391 := fun e => hq394 (e ▸ hm351)
  have hm408 := hs395 _ hm351
  have hf410 := (ho398 q22 hm354).trans hf382
  have hn412 : q22 ≠ q391 := fun e => hq394 (e ▸ hm354)
  have hm411 := hs395 _ hm354
  have hf413 := (ho398 q47 hm357).trans hf383
  have hn415 : q47 ≠ q391 := fun e => hq394 (e ▸ hm357)
  have hm414 := hs395 _ hm357
  have hf416 := (ho398 q76 hm360).trans hf384
  have hn418 : q76 ≠ q391 := fun e => hq394 (e ▸ hm360)
  have hm417 := hs395 _ hm360
  have hf419 := (ho398 q109 hm363).trans hf385
  have hn421 : q109 ≠ q391 := fun e => hq394 (e ▸ hm363)
  have hm420 := hs395 _ hm363
  have hf422 := (ho398 q146 hm366).trans hf386
  have hn424 : q146 ≠ q391 := fun e => hq394 (e ▸ hm366)
  have hm423 := hs395 _ hm366
  have hf425 := (ho398 q187 hm369).trans hf387
  have hn427 : q187 ≠ q391 := fun e => hq394 (e ▸ hm369)
  have hm426 := hs395 _ hm369
  have hf428 := (ho398 q232 hm372).trans hf388
  have hn430 : q232 ≠ q391 := fun e => hq394 (e ▸ hm372)
  have hm429 := hs395 _ hm372
  have hf431 := (ho398 q281 hm375).trans hf389
  have hn433 : q281 ≠ q391 := fun e => hq394 (e ▸ hm375)
  have hm432 := hs395 _ hm375
  have hf434 := (ho398 q334 hm339).trans hf390
  have hn436 : q334 ≠ q391 := fun e => hq394 (e ▸ hm339)
  have hm435 := hs395 _ hm339
  refine pl_putF (ty := (.array .int)) (v := .ref q391) (fs' := [.int 0, .ref q1, .int 0, .int 0, .int 0, .int 0, .int 0, .ref q22, .int 0, .int 0, .ref q47, .ref q76, .int 0, .int 0, .int 0, .int 0, .int 0, .int 0, .int 0, .int 0, .int 0, .long 0, .long 0, .int 0, .ref q109, .int 0, .ref q146, .ref q187, .ref q232, .ref q281, .ref q334, .ref q391, .null, .null, .null, .null, .int 0, .int 0, .int 0, .int 0, .int 0, .null, .null, .null, .null, .long 0, .long 0, .int 0, .int 0, .null, .int 0, .int 0, .null, .int 0, .null, .int 0]) hx hb hts (fun w h => mT (inX11 w h)) tyX11 tyX11_ok nmX11 hown hG.1 hP hD hS hm405 hf404 rfl 31 (by decide) (hts _ (mT wg_1367)) (fun _ h => h) rfl hnm rfl (by decide +kernel) (rfl) (rfl) (Nat.le_of_ble_eq_true rfl) rfl dX11_init_91 (fun H locs f437 hf439 ho438 hP hD hS => ?_)
  have hfr440 : ∀ b, b ∈ L → b ≠ mo → f437 b = f b := fun b hb z0 => (ho438 b z0).trans (hfr401 b hb z0)
  have hf441 := (ho438 q1 hn16.symm).trans hf407
  have hf442 := (ho438 q22 hn37.symm).trans hf410
  have hf443 := (ho438 q47 hn62.symm).trans hf413
  have hf444 := (ho438 q76 hn91.symm).trans hf416
  have hf445 := (ho438 q109 hn124.symm).trans hf419
  have hf446 := (ho438 q146 hn161.symm).trans hf422
  have hf447 := (ho438 q187 hn202.symm).trans hf425
  have hf448 := (ho438 q232 hn247.symm).trans hf428
  have hf449 := (ho438 q281 hn296.symm).trans hf431
  have hf450 := (ho438 q334 hn349.symm).trans hf434
  have hf451 := (ho438 q391 hn406.symm).trans hf397
  refine lv_aload_n hx hb dX11_init_94 rfl (lv_at hl 0 rfl) ?_
  refine lv_bipush (v := 9) hx hb dX11_init_95 (by decide) ?_
  refine pl_newa (atype := .int) (ty := .int) (N' := 9) (a0 := (9, .inl (fun _ => 0))) hx hb (hts _ (mT wg_217)) rfl hG.1 hP hD hS hA 0 rfl (fun _ h => h) (fun _ => rfl) (by decide) (by decide) (Nat.le_of_ble_eq_true rfl) (Nat.le_of_ble_eq_true rfl) (Nat.le_of_ble_eq_true rfl) dX11_init_97 (fun q452 H L453 f454 hq455 hs456 hm457 hf458 ho459 hP hD hS => ?_)
  have hN460 : [q452, q391, q334, q281, q232, q187, q146, q109, q76, q47, q22, q1].Nodup := List.nodup_cons.mpr ⟨fun h => hq455 (hNs400 _ h), hN399⟩
  have hNs461 : ∀ b, b ∈ [q452, q391, q334, q281, q232, q187, q146, q109, q76, q47, q22, q1] → b ∈ L453 := List.forall_mem_cons.mpr ⟨hm457, fun b hb => hs456 b (hNs400 b hb)⟩
  have hfr462 : ∀ b, b ∈ L → b ≠ mo → f454 b = f b := fun b hb z0 => (ho459 b (hsb402 b hb)).trans (hfr440 b hb z0)
  have hnq464 : q452 ∉ L := fun h => hq455 (hsb402 _ h)
  have hsb463 : ∀ b, b ∈ L → b ∈ _ := fun b hb => hs456 b (hsb402 b hb)
  have hf465 := (ho459 mo hm405).trans hf439
  have hn467 : mo ≠ q452 := fun e => hq455 (e ▸ hm405)
  have hm466 := hs456 _ hm405
  have hf468 := (ho459 q1 hm408).trans hf441
  have hn470 : q1 ≠ q452 := fun e => hq455 (e ▸ hm408)
  have hm469 := hs456 _ hm408
  have hf471 := (ho459 q22 hm411).trans hf442
  have hn473 : q22 ≠ q452 := fun e => hq455 (e ▸ hm411)
  have hm472 := hs456 _ hm411
  have hf474 := (ho459 q47 hm414).trans hf443
  have hn476 : q47 ≠ q452 := fun e => hq455 (e ▸ hm414)
  have hm475 := hs456 _ hm414
  have hf477 := (ho459 q76 hm417).trans hf444
  have hn479 : q76 ≠ q452 := fun e => hq455 (e ▸ hm417)
  have hm478 := hs456 _ hm417
  have hf480 := (ho459 q109 hm420).trans hf445
  have hn482 : q109 ≠ q452 := fun e => hq455 (e ▸ hm420)
  have hm481 := hs456 _ hm420
  have hf483 := (ho459 q146 hm423).trans hf446
  have hn485 : q146 ≠ q452 := fun e => hq455 (e ▸ hm423)
  have hm484 := hs456 _ hm423
  have hf486 := (ho459 q187 hm426).trans hf447
  have hn488 : q187 ≠ q452 := fun e => hq455 (e ▸ hm426)
  have hm487 := hs456 _ hm426
  have hf489 := (ho459 q232 hm429).trans hf448
  have hn491 : q232 ≠ q452 := fun e => hq455 (e ▸ hm429)
  have hm490 := hs456 _ hm429
  have hf492 := (ho459 q281 hm432).trans hf449
  have hn494 : q281 ≠ q452 := fun e => hq455 (e ▸ hm432)
  have hm493 := hs456 _ hm432
  have hf495 := (ho459 q334 hm435).trans hf450
  have hn497 : q334 ≠ q452 := fun e => hq455 (e ▸ hm435)
  have hm496 := hs456 _ hm435
  have hf498 := (ho459 q391 hm396).trans hf451
  have hn500 : q391 ≠ q452 := fun e => hq455 (e ▸ hm396)
  have hm499 := hs456 _ hm396
  refine pl_putF (ty := (.array .int)) (v := .ref q452) (fs' := [.int 0, .ref q1, .int 0, .int 0, .int 0, .int 0, .int 0, .ref q22, .int 0, .int 0, .ref q47, .ref q76, .int 0, .int 0, .int 0, .int 0, .int 0, .int 0, .int 0, .int 0, .int 0, .long 0, .long 0, .int 0, .ref q109, .int 0, .ref q146, .ref q187, .ref q232, .ref q281, .ref q334, .ref q391, .ref q452, .null, .null, .null, .int 0, .int 0, .int 0, .int 0, .int 0, .null, .null, .null, .null, .long 0, .long 0, .int 0, .int 0, .null, .int 0, .int 0, .null, .int 0, .null, .int 0]) hx hb hts (fun w h => mT (inX11 w h)) tyX11 tyX11_ok nmX11 hown hG.1 hP hD hS hm466 hf465 rfl 32 (by decide) (hts _ (mT wg_1368)) (fun _ h => h) rfl hnm rfl (by decide +kernel) (rfl) (rfl) (Nat.le_of_ble_eq_true rfl) rfl dX11_init_99 (fun H locs f501 hf503 ho502 hP hD hS => ?_)
  have hfr504 : ∀ b, b ∈ L → b ≠ mo → f501 b = f b := fun b hb z0 => (ho502 b z0).trans (hfr462 b hb z0)
  have hf505 := (ho502 q1 hn16.symm).trans hf468
  have hf506 := (ho502 q22 hn37.symm).trans hf471
  have hf507 := (ho502 q47 hn62.symm).trans hf474
  have hf508 := (ho502 q76 hn91.symm).trans hf477
  have hf509 := (ho502 q109 hn124.symm).trans hf480
  have hf510 := (ho502 q146 hn161.symm).trans hf483
  have hf511 := (ho502 q187 hn202.symm).trans hf486
  have hf512 := (ho502 q232 hn247.symm).trans hf489
  have hf513 := (ho502 q281 hn296.symm).trans hf492
  have hf514 := (ho502 q334 hn349.symm).trans hf495
  have hf515 := (ho502 q391 hn406.symm).trans hf498
  have hf516 := (ho502 q452 hn467.symm).trans hf458
  refine lv_aload_n hx hb dX11_init_102 rfl (lv_at hl 0 rfl) ?_
  refine lv_bipush (v := 81) hx hb dX11_init_103 (by decide) ?_
  refine pl_newa (atype := .int) (ty := .int) (N' := 81) (a0 := (81, .inl (fun _ => 0))) hx hb (hts _ (mT wg_217)) rfl hG.1 hP hD hS hA 0 rfl (fun _ h => h) (fun _ => rfl) (by decide) (by decide) (Nat.le_of_ble_eq_true rfl) (Nat.le_of_ble_eq_true rfl) (Nat.le_of_ble_eq_true rfl) dX11_init_105 (fun q517 H L518 f519 hq520 hs521 hm522 hf523 ho524 hP hD hS => ?_)
  have hN525 : [q517, q452, q391, q334, q281, q232, q187, q146, q109, q76, q47, q22, q1].Nodup := List.nodup_cons.mpr ⟨fun h => hq520 (hNs461 _ h), hN460⟩
  have hNs526 : ∀ b, b ∈ [q517, q452, q391, q334, q281, q232, q187, q146, q109, q76, q47, q22, q1] → b ∈ L518 := List.forall_mem_cons.mpr ⟨hm522, fun b hb => hs521 b (hNs461 b hb)⟩
  have hfr527 : ∀ b, b ∈ L → b ≠ mo → f519 b = f b := fun b hb z0 => (ho524 b (hsb463 b hb)).trans (hfr504 b hb z0)
  have hnq529 : q517 ∉ L := fun h => hq520 (hsb463 _ h)
  have hsb528 : ∀ b, b ∈ L → b ∈ _ := fun b hb => hs521 b (hsb463 b hb)
  have hf530 := (ho524 mo hm466).trans hf503
  have hn532 : mo ≠ q517 := fun e => hq520 (e ▸ hm466)
  have hm531 := hs521 _ hm466
  have hf533 := (ho524 q1 hm469).trans hf505
  have hn535 : q1 ≠ q517 := fun e => hq520 (e ▸ hm469)
  have hm534 := hs521 _ hm469
  have hf536 := (ho524 q22 hm472).trans hf506
  have hn538 : q22 ≠ q517 := fun e => hq520 (e ▸ hm472)
  have hm537 := hs521 _ hm472
  have hf539 := (ho524 q47 hm475).trans hf507
  have hn541 : q47 ≠ q517 := fun e => hq520 (e ▸ hm475)
  have hm540 := hs521 _ hm475
  have hf542 := (ho524 q76 hm478).trans hf508
  have hn544 : q76 ≠ q517 := fun e => hq520 (e ▸ hm478)
  have hm543 := hs521 _ hm478
  have hf545 := (ho524 q109 hm481).trans hf509
  have hn547 : q109 ≠ q517 := fun e => hq520 (e ▸ hm481)
  have hm546 := hs521 _ hm481
  have hf548 := (ho524 q146 hm484).trans hf510
  have hn550 : q146 ≠ q517 := fun e => hq520 (e ▸ hm484)
  have hm549 := hs521 _ hm484
  have hf551 := (ho524 q187 hm487).trans hf511
  have hn553 : q187 ≠ q517 := fun e => hq520 (e ▸ hm487)
  have hm552 := hs521 _ hm487
  have hf554 := (ho524 q232 hm490).trans hf512
  have hn556 : q232 ≠ q517 := fun e => hq520 (e ▸ hm490)
  have hm555 := hs521 _ hm490
  have hf557 := (ho524 q281 hm493).trans hf513
  have hn559 : q281 ≠ q517 := fun e => hq520 (e ▸ hm493)
  have hm558 := hs521 _ hm493
  have hf560 := (ho524 q334 hm496).trans hf514
  have hn562 : q334 ≠ q517 := fun e => hq520 (e ▸ hm496)
  have hm561 := hs521 _ hm496
  have hf563 := (ho524 q391 hm499).trans hf515
  have hn565 : q391 ≠ q517 := fun e => hq520 (e ▸ hm499)
  have hm564 := hs521 _ hm499
  have hf566 := (ho524 q452 hm457).trans hf516
  have hn568 : q452 ≠ q517 := fun e => hq520 (e ▸ hm457)
  have hm567 := hs521 _ hm457
  refine pl_putF (ty := (.array .int)) (v := .ref q517) (fs' := [.int 0, .ref q1, .int 0, .int 0, .int 0, .int 0, .int 0, .ref q22, .int 0, .int 0, .ref q47, .ref q76, .int 0, .int 0, .int 0, .int 0, .int 0, .int 0, .int 0, .int 0, .int 0, .long 0, .long 0, .int 0, .ref q109, .int 0, .ref q146, .ref q187, .ref q232, .ref q281, .ref q334, .ref q391, .ref q452, .ref q517, .null, .null, .int 0, .int 0, .int 0, .int 0, .int 0, .null, .null, .null, .null, .long 0, .long 0, .int 0, .int 0, .null, .int 0, .int 0, .null, .int 0, .null, .int 0]) hx hb hts (fun w h => mT (inX11 w h)) tyX11 tyX11_ok nmX11 hown hG.1 hP hD hS hm531 hf530 rfl 33 (by decide) (hts _ (mT wg_1369)) (fun _ h => h) rfl hnm rfl (by decide +kernel) (rfl) (rfl) (Nat.le_of_ble_eq_true rfl) rfl dX11_init_107 (fun H locs f569 hf571 ho570 hP hD hS => ?_)
  have hfr572 : ∀ b, b ∈ L → b ≠ mo → f569 b = f b := fun b hb z0 => (ho570 b z0).trans (hfr527 b hb z0)
  have hf573 := (ho570 q1 hn16.symm).trans hf533
  have hf574 := (ho570 q22 hn37.symm).trans hf536
  have hf575 := (ho570 q47 hn62.symm).trans hf539
  have hf576 := (ho570 q76 hn91.symm).trans hf542
  have hf577 := (ho570 q109 hn124.symm).trans hf545
  have hf578 := (ho570 q146 hn161.symm).trans hf548
  have hf579 := (ho570 q187 hn202.symm).trans hf551
  have hf580 := (ho570 q232 hn247.symm).trans hf554
  have hf581 := (ho570 q281 hn296.symm).trans hf557
  have hf582 := (ho570 q334 hn349.symm).trans hf560
  have hf583 := (ho570 q391 hn406.symm).trans hf563
  have hf584 := (ho570 q452 hn467.symm).trans hf566
  have hf585 := (ho570 q517 hn532.symm).trans hf523
  refine lv_aload_n hx hb dX11_init_110 rfl (lv_at hl 0 rfl) ?_
  refine lv_bipush (v := 9) hx hb dX11_init_111 (by decide) ?_
  refine pl_newa (atype := .boolean) (ty := .boolean) (N' := 9) (a0 := (9, .inl (fun _ => 0))) hx hb (hts _ (mT wg_1505)) rfl hG.1 hP hD hS hA 3 rfl (fun _ h => h) (fun _ => rfl) (by decide) (by decide) (Nat.le_of_ble_eq_true rfl) (Nat.le_of_ble_eq_true rfl) (Nat.le_of_ble_eq_true rfl) dX11_init_113 (fun q586 H L587 f588 hq589 hs590 hm591 hf592 ho593 hP hD hS => ?_)
  have hN594 : [q586, q517, q452, q391, q334, q281, q232, q187, q146, q109, q76, q47, q22, q1].Nodup := List.nodup_cons.mpr ⟨fun h => hq589 (hNs526 _ h), hN525⟩
  have hNs595 : ∀ b, b ∈ [q586, q517, q452, q391, q334, q281, q232, q187, q146, q109, q76, q47, q22, q1] → b ∈ L587 := List.forall_mem_cons.mpr ⟨hm591, fun b hb => hs590 b (hNs526 b hb)⟩
  have hfr596 : ∀ b, b ∈ L → b ≠ mo → f588 b = f b := fun b hb z0 => (ho593 b (hsb528 b hb)).trans (hfr572 b hb z0)
  have hnq598 : q586 ∉ L := fun h => hq589 (hsb528 _ h)
  have hsb597 : ∀ b, b ∈ L → b ∈ _ := fun b hb => hs590 b (hsb528 b hb)
  have hf599 := (ho593 mo hm531).trans hf571
  have hn601 : mo ≠ q586 := fun e => hq589 (e ▸ hm531)
  have hm600 := hs590 _ hm531
  have hf602 := (ho593 q1 hm534).trans hf573
  have hn604 : q1 ≠ q586 := fun e => hq589 (e ▸ hm534)
  have hm603 := hs590 _ hm534
  have hf605 := (ho593 q22 hm537).trans hf574
  have hn607 : q22 ≠ q586 := fun e => hq589 (e ▸ hm537)
  have hm606 := hs590 _ hm537
  have hf608 := (ho593 q47 hm540).trans hf575
  have hn610 : q47 ≠ q586 := fun e => hq589 (e ▸ hm540)
  have hm609 := hs590 _ hm540
  have hf611 := (ho593 q76 hm543).trans hf576
  have hn613 : q76 ≠ q586 := fun e => hq589 (e ▸ hm543)
  have hm612 := hs590 _ hm543
  have hf614 := (ho593 q109 hm546).trans hf577
  have hn616 : q109 ≠ q586 := fun e => hq589 (e ▸ hm546)
  have hm615 := hs590 _ hm546
  have hf617 := (ho593 q146 hm549).trans hf578
  have hn619 : q146 ≠ q586 := fun e => hq589 (e ▸ hm549)
  have hm618 := hs590 _ hm549
  have hf620 := (ho593 q187 hm552).trans hf579
  have hn622 : q187 ≠ q586 := fun e => hq589 (e ▸ hm552)
  have hm621 := hs590 _ hm552
  have hf623 := (ho593 q232 hm555).trans hf580
  have hn625 : q232 ≠ q586 := fun e => hq589 (e ▸ hm555)
  have hm624 := hs590 _ hm555
  have hf626 := (ho593 q281 hm558).trans hf581
  have hn628 : q281 ≠ q586 := fun e => hq589 (e ▸ hm558)
  have hm627 := hs590 _ hm558
  have hf629 := (ho593 q334 hm561).trans hf582
  have hn631 : q334 ≠ q586 := fun e => hq589 (e ▸ hm561)
  have hm630 := hs590 _ hm561
  have hf632 := (ho593 q391 hm564).trans hf583
  have hn634 : q391 ≠ q586 := fun e => hq589 (e ▸ hm564)
  have hm633 := hs590 _ hm564
  have hf635 := (ho593 q452 hm567).trans hf584
  have hn637 : q452 ≠ q586 := fun e => hq589 (e ▸ hm567)
  have hm636 := hs590 _ hm567
  have hf638 := (ho593 q517 hm522).trans hf585
  have hn640 : q517 ≠ q586 := fun e => hq589 (e ▸ hm522)
  have hm639 := hs590 _ hm522
  refine pl_putF (ty := (.array .boolean)) (v := .ref q586) (fs' := [.int 0, .ref q1, .int 0, .int 0, .int 0, .int 0, .int 0, .ref q22, .int 0, .int 0, .ref q47, .ref q76, .int 0, .int 0, .int 0, .int 0, .int 0, .int 0, .int 0, .int 0, .int 0, .long 0, .long 0, .int 0, .ref q109, .int 0, .ref q146, .ref q187, .ref q232, .ref q281, .ref q334, .ref q391, .ref q452, .ref q517, .ref q586, .null, .int 0, .int 0, .int 0, .int 0, .int 0, .null, .null, .null, .null, .long 0, .long 0, .int 0, .int 0, .null, .int 0, .int 0, .null, .int 0, .null, .int 0]) hx hb hts (fun w h => mT (inX11 w h)) tyX11 tyX11_ok nmX11 hown hG.1 hP hD hS hm600 hf599 rfl 34 (by decide) (hts _ (mT wg_1370)) (fun _ h => h) rfl hnm rfl (by decide +kernel) (rfl) (rfl) (Nat.le_of_ble_eq_true rfl) rfl dX11_init_115 (fun H locs f641 hf643 ho642 hP hD hS => ?_)
  have hfr644 : ∀ b, b ∈ L → b ≠ mo → f641 b = f b := fun b hb z0 => (ho642 b z0).trans (hfr596 b hb z0)
  have hf645 := (ho642 q1 hn16.symm).trans hf602
  have hf646 := (ho642 q22 hn37.symm).trans hf605
  have hf647 := (ho642 q47 hn62.symm).trans hf608
  have hf648 := (ho642 q76 hn91.symm).trans hf611
  have hf649 := (ho642 q109 hn124.symm).trans hf614
  have hf650 := (ho642 q146 hn161.symm).trans hf617
  have hf651 := (ho642 q187 hn202.symm).trans hf620
  have hf652 := (ho642 q232 hn247.symm).trans hf623
  have hf653 := (ho642 q281 hn296.symm).trans hf626
  have hf654 := (ho642 q334 hn349.symm).trans hf629
  have hf655 := (ho642 q391 hn406.symm).trans hf632
  have hf656 := (ho642 q452 hn467.symm).trans hf635
  have hf657 := (ho642 q517 hn532.symm).trans hf638
  have hf658 := (ho642 q586 hn601.symm).trans hf592
  refine lv_aload_n hx hb dX11_init_118 rfl (lv_at hl 0 rfl) ?_
  refine lv_bipush (v := 9) hx hb dX11_init_119 (by decide) ?_
  refine pl_newa (atype := .boolean) (ty := .boolean) (N' := 9) (a0 := (9, .inl (fun _ => 0))) hx hb (hts _ (mT wg_1505)) rfl hG.1 hP hD hS hA 3 rfl (fun _ h => h) (fun _ => rfl) (by decide) (by decide) (Nat.le_of_ble_eq_true rfl) (Nat.le_of_ble_eq_true rfl) (Nat.le_of_ble_eq_true rfl) dX11_init_121 (fun q659 H L660 f661 hq662 hs663 hm664 hf665 ho666 hP hD hS => ?_)
  have hN667 : [q659, q586, q517, q452, q391, q334, q281, q232, q187, q146, q109, q76, q47, q22, q1].Nodup := List.nodup_cons.mpr ⟨fun h => hq662 (hNs595 _ h), hN594⟩
  have hNs668 : ∀ b, b ∈ [q659, q586, q517, q452, q391, q334, q281, q232, q187, q146, q109, q76, q47, q22, q1] → b ∈ L660 := List.forall_mem_cons.mpr ⟨hm664, fun b hb => hs663 b (hNs595 b hb)⟩
  have hfr669 : ∀ b, b ∈ L → b ≠ mo → f661 b = f b := fun b hb z0 => (ho666 b (hsb597 b hb)).trans (hfr644 b hb z0)
  have hnq671 : q659 ∉ L := fun h => hq662 (hsb597 _ h)
  have hsb670 : ∀ b, b ∈ L → b ∈ _ := fun b hb => hs663 b (hsb597 b hb)
  have hf672 := (ho666 mo hm600).trans hf643
  have hn674 : mo ≠ q659 := fun e => hq662 (e ▸ hm600)
  have hm673 := hs663 _ hm600
  have hf675 := (ho666 q1 hm603).trans hf645
  have hn677 : q1 ≠ q659 := fun e => hq662 (e ▸ hm603)
  have hm676 := hs663 _ hm603
  have hf678 := (ho666 q22 hm606).trans hf646
  have hn680 : q22 ≠ q659 := fun e => hq662 (e ▸ hm606)
  have hm679 := hs663 _ hm606
  have hf681 := (ho666 q47 hm609).trans hf647
  have hn683 : q47 ≠ q659 := fun e => hq662 (e ▸ hm609)
  have hm682 := hs663 _ hm609
  have hf684 := (ho666 q76 hm612).trans hf648
  have hn686 : q76 ≠ q659 := fun e => hq662 (e ▸ hm612)
  have hm685 := hs663 _ hm612
  have hf687 := (ho666 q109 hm615).trans hf649
  have hn689 : q109 ≠ q659 := fun e => hq662 (e ▸ hm615)
  have hm688 := hs663 _ hm615
  have hf690 := (ho666 q146 hm618).trans hf650
  have hn692 : q146 ≠ q659 := fun e => hq662 (e ▸ hm618)
  have hm691 := hs663 _ hm618
  have hf693 := (ho666 q187 hm621).trans hf651
  have hn695 : q187 ≠ q659 := fun e => hq662 (e ▸ hm621)
  have hm694 := hs663 _ hm621
  have hf696 := (ho666 q232 hm624).trans hf652
  have hn698 : q232 ≠ q659 := fun e => hq662 (e ▸ hm624)
  have hm697 := hs663 _ hm624
  have hf699 := (ho666 q281 hm627).trans hf653
  have hn701 : q281 ≠ q659 := fun e => hq662 (e ▸ hm627)
  have hm700 := hs663 _ hm627
  have hf702 := (ho666 q334 hm630).trans hf654
  have hn704 : q334 ≠ q659 := fun e => hq662 (e ▸ hm630)
  have hm703 := hs663 _ hm630
  have hf705 := (ho666 q391 hm633).trans hf655
  have hn707 : q391 ≠ q659 := fun e => hq662 (e ▸ hm633)
  have hm706 := hs663 _ hm633
  have hf708 := (ho666 q452 hm636).trans hf656
  have hn710 : q452 ≠ q659 := fun e => hq662 (e ▸ hm636)
  have hm709 := hs663 _ hm636
  have hf711 := (ho666 q517 hm639).trans hf657
  have hn713 : q517 ≠ q659 := fun e => hq662 (e ▸ hm639)
  have hm712 := hs663 _ hm639
  have hf714 := (ho666 q586 hm591).trans hf658
  have hn716 : q586 ≠ q659 := fun e => hq662 (e ▸ hm591)
  have hm715 := hs663 _ hm591
  refine pl_putF (ty := (.array .boolean)) (v := .ref q659) (fs' := [.int 0, .ref q1, .int 0, .int 0, .int 0, .int 0, .int 0, .ref q22, .int 0, .int 0, .ref q47, .ref q76, .int 0, .int 0, .int 0, .int 0, .int 0, .int 0, .int 0, .int 0, .int 0, .long 0, .long 0, .int 0, .ref q109, .int 0, .ref q146, .ref q187, .ref q232, .ref q281, .ref q334, .ref q391, .ref q452, .ref q517, .ref q586, .ref q659, .int 0, .int 0, .int 0, .int 0, .int 0, .null, .null, .null, .null, .long 0, .long 0, .int 0, .int 0, .null, .int 0, .int 0, .null, .int 0, .null, .int 0]) hx hb hts (fun w h => mT (inX11 w h)) tyX11 tyX11_ok nmX11 hown hG.1 hP hD hS hm673 hf672 rfl 35 (by decide) (hts _ (mT wg_1371)) (fun _ h => h) rfl hnm rfl (by decide +kernel) (rfl) (rfl) (Nat.le_of_ble_eq_true rfl) rfl dX11_init_123 (fun H locs f717 hf719 ho718 hP hD hS => ?_)
  have hfr720 : ∀ b, b ∈ L → b ≠ mo → f717 b = f b := fun b hb z0 => (ho718 b z0).trans (hfr669 b hb z0)
  have hf721 := (ho718 q1 hn16.symm).trans hf675
  have hf722 := (ho718 q22 hn37.symm).trans hf678
  have hf723 := (ho718 q47 hn62.symm).trans hf681
  have hf724 := (ho718 q76 hn91.symm).trans hf684
  have hf725 := (ho718 q109 hn124.symm).trans hf687
  have hf726 := (ho718 q146 hn161.symm).trans hf690
  have hf727 := (ho718 q187 hn202.symm).trans hf693
  have hf728 := (ho718 q232 hn247.symm).trans hf696
  have hf729 := (ho718 q281 hn296.symm).trans hf699
  have hf730 := (ho718 q334 hn349.symm).trans hf702
  have hf731 := (ho718 q391 hn406.symm).trans hf705
  have hf732 := (ho718 q452 hn467.symm).trans hf708
  have hf733 := (ho718 q517 hn532.symm).trans hf711
  have hf734 := (ho718 q586 hn601.symm).trans hf714
  have hf735 := (ho718 q659 hn674.symm).trans hf665
  refine lv_aload_n hx hb dX11_init_126 rfl (lv_at hl 0 rfl) ?_
  refine lv_sipush (v := 2126) hx hb dX11_init_127 (by decide) ?_
  refine pl_newa (atype := .int) (ty := .int) (N' := 2126) (a0 := (2126, .inl (fun _ => 0))) hx hb (hts _ (mT wg_217)) rfl hG.1 hP hD hS hA 0 rfl (fun _ h => h) (fun _ => rfl) (by decide) (by decide) (Nat.le_of_ble_eq_true rfl) (Nat.le_of_ble_eq_true rfl) (Nat.le_of_ble_eq_true rfl) dX11_init_130 (fun q736 H L737 f738 hq739 hs740 hm741 hf742 ho743 hP hD hS => ?_)
  have hN744 : [q736, q659, q586, q517, q452, q391, q334, q281, q232, q187, q146, q109, q76, q47, q22, q1].Nodup := List.nodup_cons.mpr ⟨fun h => hq739 (hNs668 _ h), hN667⟩
  have hNs745 : ∀ b, b ∈ [q736, q659, q586, q517, q452, q391, q334, q281, q232, q187, q146, q109, q76, q47, q22, q1] → b ∈ L737 := List.forall_mem_cons.mpr ⟨hm741, fun b hb => hs740 b (hNs668 b hb)⟩
  have hfr746 : ∀ b, b ∈ L → b ≠ mo → f738 b = f b := fun b hb z0 => (ho743 b (hsb670 b hb)).trans (hfr720 b hb z0)
  have hnq748 : q736 ∉ L := fun h => hq739 (hsb670 _ h)
  have hsb747 : ∀ b, b ∈ L → b ∈ _ := fun b hb => hs740 b (hsb670 b hb)
  have hf749 := (ho743 mo hm673).trans hf719
  have hn751 : mo ≠ q736 := fun e => hq739 (e ▸ hm673)
  have hm750 := hs740 _ hm673
  have hf752 := (ho743 q1 hm676).trans hf721
  have hn754 : q1 ≠ q736 := fun e => hq739 (e ▸ hm676)
  have hm753 := hs740 _ hm676
  have hf755 := (ho743 q22 hm679).trans hf722
  have hn757 : q22 ≠ q736 := fun e => hq739 (e ▸ hm679)
  have hm756 := hs740 _ hm679
  have hf758 := (ho743 q47 hm682).trans hf723
  have hn760 : q47 ≠ q736 := fun e => hq739 (e ▸ hm682)
  have hm759 := hs740 _ hm682
  have hf761 := (ho743 q76 hm685).trans hf724
  have hn763 : q76 ≠ q736 := fun e => hq739 (e ▸ hm685)
  have hm762 := hs740 _ hm685
  have hf764 := (ho743 q109 hm688).trans hf725
  have hn766 : q109 ≠ q736 := fun e => hq739 (e ▸ hm688)
  have hm765 := hs740 _ hm688
  have hf767 := (ho743 q146 hm691).trans hf726
  have hn769 : q146 ≠ q736 := fun e => hq739 (e ▸ hm691)
  have hm768 := hs740 _ hm691
  have hf770 := (ho743 q187 hm694).trans hf727
  have hn772 : q187 ≠ q736 := fun e => hq739 (e ▸ hm694)
  have hm771 := hs740 _ hm694
  have hf773 := (ho743 q232 hm697).trans hf728
  have hn775 : q232 ≠ q736 := fun e => hq739 (e ▸ hm697)
  have hm774 := hs740 _ hm697
  have hf776 := (ho743 q281 hm700).trans hf729
  have hn778 : q281 ≠ q736 := fun e => hq739 (e ▸ hm700)
  have hm777 := hs740 _ hm700
  have hf779 := (ho743 q334 hm703).trans hf730
  have hn781 : q334 ≠ q736 := fun e => hq739 (e ▸ hm703)
  have hm780 := hs740 _ hm703
  have hf782 := (ho743 q391 hm706).trans hf731
  have hn784 : q391 ≠ q736 := fun e => hq739 (e ▸ hm706)
  have hm783 := hs740 _ hm706
  have hf785 := (ho743 q452 hm709).trans hf732
  have hn787 : q452 ≠ q736 := fun e => hq739 (e ▸ hm709)
  have hm786 := hs740 _ hm709
  have hf788 := (ho743 q517 hm712).trans hf733
  have hn790 : q517 ≠ q736 := fun e => hq739 (e ▸ hm712)
  have hm789 := hs740 _ hm712
  have hf791 := (ho743 q586 hm715).trans hf734
  have hn793 : q586 ≠ q736 := fun e => hq739 (e ▸ hm715)
  have hm792 := hs740 _ hm715
  have hf794 := (ho743 q659 hm664).trans hf735
  have hn796 : q659 ≠ q736 := fun e => hq739 (e ▸ hm664)
  have hm795 := hs740 _ hm664
  refine pl_putF (ty := (.array .int)) (v := .ref q736) (fs' := [.int 0, .ref q1, .int 0, .int 0, .int 0, .int 0, .int 0, .ref q22, .int 0, .int 0, .ref q47, .ref q76, .int 0, .int 0, .int 0, .int 0, .int 0, .int 0, .int 0, .int 0, .int 0, .long 0, .long 0, .int 0, .ref q109, .int 0, .ref q146, .ref q187, .ref q232, .ref q281, .ref q334, .ref q391, .ref q452, .ref q517, .ref q586, .ref q659, .int 0, .int 0, .int 0, .int 0, .int 0, .ref q736, .null, .null, .null, .long 0, .long 0, .int 0, .int 0, .null, .int 0, .int 0, .null, .int 0, .null, .int 0]) hx hb hts (fun w h => mT (inX11 w h)) tyX11 tyX11_ok nmX11 hown hG.1 hP hD hS hm750 hf749 rfl 41 (by decide) (hts _ (mT wg_1377)) (fun _ h => h) rfl hnm rfl (by decide +kernel) (rfl) (rfl) (Nat.le_of_ble_eq_true rfl) rfl dX11_init_132 (fun H locs f797 hf799 ho798 hP hD hS => ?_)
  have hfr800 : ∀ b, b ∈ L → b ≠ mo → f797 b = f b := fun b hb z0 => (ho798 b z0).trans (hfr746 b hb z0)
  have hf801 := (ho798 q1 hn16.symm).trans hf752
  have hf802 := (ho798 q22 hn37.symm).trans hf755
  have hf803 := (ho798 q47 hn62.symm).trans hf758
  have hf804 := (ho798 q76 hn91.symm).trans hf761
  have hf805 := (ho798 q109 hn124.symm).trans hf764
  have hf806 := (ho798 q146 hn161.symm).trans hf767
  have hf807 := (ho798 q187 hn202.symm).trans hf770
  have hf808 := (ho798 q232 hn247.symm).trans hf773
  have hf809 := (ho798 q281 hn296.symm).trans hf776
  have hf810 := (ho798 q334 hn349.symm).trans hf779
  have hf811 := (ho798 q391 hn406.symm).trans hf782
  have hf812 := (ho798 q452 hn467.symm).trans hf785
  have hf813 := (ho798 q517 hn532.symm).trans hf788
  have hf814 := (ho798 q586 hn601.symm).trans hf791
  have hf815 := (ho798 q659 hn674.symm).trans hf794
  have hf816 := (ho798 q736 hn751.symm).trans hf742
  refine lv_aload_n hx hb dX11_init_135 rfl (lv_at hl 0 rfl) ?_
  refine lv_sipush (v := 2126) hx hb dX11_init_136 (by decide) ?_
  refine pl_newa (atype := .int) (ty := .int) (N' := 2126) (a0 := (2126, .inl (fun _ => 0))) hx hb (hts _ (mT wg_217)) rfl hG.1 hP hD hS hA 0 rfl (fun _ h => h) (fun _ => rfl) (by decide) (by decide) (Nat.le_of_ble_eq_true rfl) (Nat.le_of_ble_eq_true rfl) (Nat.le_of_ble_eq_true rfl) dX11_init_139 (fun q817 H L818 f819 hq820 hs821 hm822 hf823 ho824 hP hD hS => ?_)
  have hN825 : [q817, q736, q659, q586, q517, q452, q391, q334, q281, q232, q187, q146, q109, q76, q47, q22, q1].Nodup := List.nodup_cons.mpr ⟨fun h => hq820 (hNs745 _ h), hN744⟩
  have hNs826 : ∀ b, b ∈ [q817, q736, q659, q586, q517, q452, q391, q334, q281, q232, q187, q146, q109, q76, q47, q22, q1] → b ∈ L818 := List.forall_mem_cons.mpr ⟨hm822, fun b hb => hs821 b (hNs745 b hb)⟩
  have hfr827 : ∀ b, b ∈ L → b ≠ mo → f819 b = f b := fun b hb z0 => (ho824 b (hsb747 b hb)).trans (hfr800 b hb z0)
  have hnq829 : q817 ∉ L := fun h => hq820 (hsb747 _ h)
  have hsb828 : ∀ b, b ∈ L → b ∈ _ := fun b hb => hs821 b (hsb747 b hb)
  have hf830 := (ho824 mo hm750).trans hf799
  have hn832 : mo ≠ q817 := fun e => hq820 (e ▸ hm750)
  have hm831 := hs821 _ hm750
  have hf833 := (ho824 q1 hm753).trans hf801
  have hn835 : q1 ≠ q817 := fun e => hq820 (e ▸ hm753)
  have hm834 := hs821 _ hm753
  have hf836 := (ho824 q22 hm756).trans hf802
  have hn838 : q22 ≠ q817 := fun e => hq820 (e ▸ hm756)
  have hm837 := hs821 _ hm756
  have hf839 := (ho824 q47 hm759).trans hf803
  have hn841 : q47 ≠ q817 := fun e => hq820 (e ▸ hm759)
  have hm840 := hs821 _ hm759
  have hf842 := (ho824 q76 hm762).trans hf804
  have hn844 : q76 ≠ q817 := fun e => hq820 (e ▸ hm762)
  have hm843 := hs821 _ hm762
  have hf845 := (ho824 q109 hm765).trans hf805
  have hn847 : q109 ≠ q817 := fun e => hq820 (e ▸ hm765)
  have hm846 := hs821 _ hm765
  have hf848 := (ho824 q146 hm768).trans hf806
  have hn850 : q146 ≠ q817 := fun e => hq820 (e ▸ hm768)
  have hm849 := hs821 _ hm768
  have hf851 := (ho824 q187 hm771).trans hf807
  have hn853 : q187 ≠ q817 := fun e => hq820 (e ▸ hm771)
  have hm852 := hs821 _ hm771
  have hf854 := (ho824 q232 hm774).trans hf808
  have hn856 : q232 ≠ q817 := fun e => hq820 (e ▸ hm774)
  have hm855 := hs821 _ hm774
  have hf857 := (ho824 q281 hm777).trans hf809
  have hn859 : q281 ≠ q817 := fun e => hq820 (e ▸ hm777)
  have hm858 := hs821 _ hm777
  have hf860 := (ho824 q334 hm780).trans hf810
  have hn862 : q334 ≠ q817 := fun e => hq820 (e ▸ hm780)
  have hm861 := hs821 _ hm780
  have hf863 := (ho824 q391 hm783).trans hf811
  have hn865 : q391 ≠ q817 := fun e => hq820 (e ▸ hm783)
  have hm864 := hs821 _ hm783
  have hf866 := (ho824 q452 hm786).trans hf812
  have hn868 : q452 ≠ q817 := fun e => hq820 (e ▸ hm786)
  have hm867 := hs821 _ hm786
  have hf869 := (ho824 q517 hm789).trans hf813
  have hn871 : q517 ≠ q817 := fun e => hq820 (e ▸ hm789)
  have hm870 := hs821 _ hm789
  have hf872 := (ho824 q586 hm792).trans hf814
  have hn874 : q586 ≠ q817 := fun e => hq820 (e ▸ hm792)
  have hm873 := hs821 _ hm792
  have hf875 := (ho824 q659 hm795).trans hf815
  have hn877 : q659 ≠ q817 := fun e => hq820 (e ▸ hm795)
  have hm876 := hs821 _ hm795
  have hf878 := (ho824 q736 hm741).trans hf816
  have hn880 : q736 ≠ q817 := fun e => hq820 (e ▸ hm741)
  have hm879 := hs821 _ hm741
  refine pl_putF (ty := (.array .int)) (v := .ref q817) (fs' := [.int 0, .ref q1, .int 0, .int 0, .int 0, .int 0, .int 0, .ref q22, .int 0, .int 0, .ref q47, .ref q76, .int 0, .int 0, .int 0, .int 0, .int 0, .int 0, .int 0, .int 0, .int 0, .long 0, .long 0, .int 0, .ref q109, .int 0, .ref q146, .ref q187, .ref q232, .ref q281, .ref q334, .ref q391, .ref q452, .ref q517, .ref q586, .ref q659, .int 0, .int 0, .int 0, .int 0, .int 0, .ref q736, .ref q817, .null, .null, .long 0, .long 0, .int 0, .int 0, .null, .int 0, .int 0, .null, .int 0, .null, .int 0]) hx hb hts (fun w h => mT (inX11 w h)) tyX11 tyX11_ok nmX11 hown hG.1 hP hD hS hm831 hf830 rfl 42 (by decide) (hts _ (mT wg_1378)) (fun _ h => h) rfl hnm rfl (by decide +kernel) (rfl) (rfl) (Nat.le_of_ble_eq_true rfl) rfl dX11_init_141 (fun H locs f881 hf883 ho882 hP hD hS => ?_)
  have hfr884 : ∀ b, b ∈ L → b ≠ mo → f881 b = f b := fun b hb z0 => (ho882 b z0).trans (hfr827 b hb z0)
  have hf885 := (ho882 q1 hn16.symm).trans hf833
  have hf886 := (ho882 q22 hn37.symm).trans hf836
  have hf887 := (ho882 q47 hn62.symm).trans hf839
  have hf888 := (ho882 q76 hn91.symm).trans hf842
  have hf889 := (ho882 q109 hn124.symm).trans hf845
  have hf890 := (ho882 q146 hn161.symm).trans hf848
  have hf891 := (ho882 q187 hn202.symm).trans hf851
  have hf892 := (ho882 q232 hn247.symm).trans hf854
  have hf893 := (ho882 q281 hn296.symm).trans hf857
  have hf894 := (ho882 q334 hn349.symm).trans hf860
  have hf895 := (ho882 q391 hn406.symm).trans hf863
  have hf896 := (ho882 q452 hn467.symm).trans hf866
  have hf897 := (ho882 q517 hn532.symm).trans hf869
  have hf898 := (ho882 q586 hn601.symm).trans hf872
  have hf899 := (ho882 q659 hn674.symm).trans hf875
  have hf900 := (ho882 q736 hn751.symm).trans hf878
  have hf901 := (ho882 q817 hn832.symm).trans hf823
  refine lv_aload_n hx hb dX11_init_144 rfl (lv_at hl 0 rfl) ?_
  refine lv_ldc hx hb hown (hts _ (mT wg_1335)) dX11_init_145 ?_
  refine pl_newa (atype := .int) (ty := .int) (N' := 42520) (a0 := (42520, .inl (fun _ => 0))) hx hb (hts _ (mT wg_217)) rfl hG.1 hP hD hS hA 0 rfl (fun _ h => h) (fun _ => rfl) (by decide) (by decide) (Nat.le_of_ble_eq_true rfl) (Nat.le_of_ble_eq_true rfl) (Nat.le_of_ble_eq_true rfl) dX11_init_147 (fun q902 H L903 f904 hq905 hs906 hm907 hf908 ho909 hP hD hS => ?_)
  have hN910 : [q902, q817, q736, q659, q586, q517, q452, q391, q334, q281, q232, q187, q146, q109, q76, q47, q22, q1].Nodup := List.nodup_cons.mpr ⟨fun h => hq905 (hNs826 _ h), hN825⟩
  have hNs911 : ∀ b, b ∈ [q902, q817, q736, q659, q586, q517, q452, q391, q334, q281, q232, q187, q146, q109, q76, q47, q22, q1] → b ∈ L903 := List.forall_mem_cons.mpr ⟨hm907, fun b hb => hs906 b (hNs826 b hb)⟩
  have hfr912 : ∀ b, b ∈ L → b ≠ mo → f904 b = f b := fun b hb z0 => (ho909 b (hsb828 b hb)).trans (hfr884 b hb z0)
  have hnq914 : q902 ∉ L := fun h => hq905 (hsb828 _ h)
  have hsb913 : ∀ b, b ∈ L → b ∈ _ := fun b hb => hs906 b (hsb828 b hb)
  have hf915 := (ho909 mo hm831).trans hf883
  have hn917 : mo ≠ q902 := fun e => hq905 (e ▸ hm831)
  have hm916 := hs906 _ hm831
  have hf918 := (ho909 q1 hm834).trans hf885
  have hn920 : q1 ≠ q902 := fun e => hq905 (e ▸ hm834)
  have hm919 := hs906 _ hm834
  have hf921 := (ho909 q22 hm837).trans hf886
  have hn923 : q22 ≠ q902 := fun e => hq905 (e ▸ hm837)
  have hm922 := hs906 _ hm837
  have hf924 := (ho909 q47 hm840).trans hf887
  have hn926 : q47 ≠ q902 := fun e => hq905 (e ▸ hm840)
  have hm925 := hs906 _ hm840
  have hf927 := (ho909 q76 hm843).trans hf888
  have hn929 : q76 ≠ q902 := fun e => hq905 (e ▸ hm843)
  have hm928 := hs906 _ hm843
  have hf930 := (ho909 q109 hm846).trans hf889
  have hn932 : q109 ≠ q902 := fun e => hq905 (e ▸ hm846)
  have hm931 := hs906 _ hm846
  have hf933 := (ho909 q146 hm849).trans hf890
  have hn935 : q146 ≠ q902 := fun e => hq905 (e ▸ hm849)
  have hm934 := hs906 _ hm849
  have hf936 := (ho909 q187 hm852).trans hf891
  have hn938 : q187 ≠ q902 := fun e => hq905 (e ▸ hm852)
  have hm937 := hs906 _ hm852
  have hf939 := (ho909 q232 hm855).trans hf892
  have hn941 : q232 ≠ q902 := fun e => hq905 (e ▸ hm855)
  have hm940 := hs906 _ hm855
  have hf942 := (ho909 q281 hm858).trans hf893
  have hn944 : q281 ≠ q902 := fun e => hq905 (e ▸ hm858)
  have hm943 := hs906 _ hm858
  have hf945 := (ho909 q334 hm861).trans hf894
  have hn947 : q334 ≠ q902 := fun e => hq905 (e ▸ hm861)
  have hm946 := hs906 _ hm861
  have hf948 := (ho909 q391 hm864).trans hf895
  have hn950 : q391 ≠ q902 := fun e => hq905 (e ▸ hm864)
  have hm949 := hs906 _ hm864
  have hf951 := (ho909 q452 hm867).trans hf896
  have hn953 : q452 ≠ q902 := fun e => hq905 (e ▸ hm867)
  have hm952 := hs906 _ hm867
  have hf954 := (ho909 q517 hm870).trans hf897
  have hn956 : q517 ≠ q902 := fun e => hq905 (e ▸ hm870)
  have hm955 := hs906 _ hm870
  have hf957 := (ho909 q586 hm873).trans hf898
  have hn959 : q586 ≠ q902 := fun e => hq905 (e ▸ hm873)
  have hm958 := hs906 _ hm873
  have hf960 := (ho909 q659 hm876).trans hf899
  have hn962 : q659 ≠ q902 := fun e => hq905 (e ▸ hm876)
  have hm961 := hs906 _ hm876
  have hf963 := (ho909 q736 hm879).trans hf900
  have hn965 : q736 ≠ q902 := fun e => hq905 (e ▸ hm879)
  have hm964 := hs906 _ hm879
  have hf966 := (ho909 q817 hm822).trans hf901
  have hn968 : q817 ≠ q902 := fun e => hq905 (e ▸ hm822)
  have hm967 := hs906 _ hm822
  refine pl_putF (ty := (.array .int)) (v := .ref q902) (fs' := [.int 0, .ref q1, .int 0, .int 0, .int 0, .int 0, .int 0, .ref q22, .int 0, .int 0, .ref q47, .ref q76, .int 0, .int 0, .int 0, .int 0, .int 0, .int 0, .int 0, .int 0, .int 0, .long 0, .long 0, .int 0, .ref q109, .int 0, .ref q146, .ref q187, .ref q232, .ref q281, .ref q334, .ref q391, .ref q452, .ref q517, .ref q586, .ref q659, .int 0, .int 0, .int 0, .int 0, .int 0, .ref q736, .ref q817, .ref q902, .null, .long 0, .long 0, .int 0, .int 0, .null, .int 0, .int 0, .null, .int 0, .null, .int 0]) hx hb hts (fun w h => mT (inX11 w h)) tyX11 tyX11_ok nmX11 hown hG.1 hP hD hS hm916 hf915 rfl 43 (by decide) (hts _ (mT wg_1379)) (fun _ h => h) rfl hnm rfl (by decide +kernel) (rfl) (rfl) (Nat.le_of_ble_eq_true rfl) rfl dX11_init_149 (fun H locs f969 hf971 ho970 hP hD hS => ?_)
  have hfr972 : ∀ b, b ∈ L → b ≠ mo → f969 b = f b := fun b hb z0 => (ho970 b z0).trans (hfr912 b hb z0)
  have hf973 := (ho970 q1 hn16.symm).trans hf918
  have hf974 := (ho970 q22 hn37.symm).trans hf921
  have hf975 := (ho970 q47 hn62.symm).trans hf924
  have hf976 := (ho970 q76 hn91.symm).trans hf927
  have hf977 := (ho970 q109 hn124.symm).trans hf930
  have hf978 := (ho970 q146 hn161.symm).trans hf933
  have hf979 := (ho970 q187 hn202.symm).trans hf936
  have hf980 := (ho970 q232 hn247.symm).trans hf939
  have hf981 := (ho970 q281 hn296.symm).trans hf942
  have hf982 := (ho970 q334 hn349.symm).trans hf945
  have hf983 := (ho970 q391 hn406.symm).trans hf948
  have hf984 := (ho970 q452 hn467.symm).trans hf951
  have hf985 := (ho970 q517 hn532.symm).trans hf954
  have hf986 := (ho970 q586 hn601.symm).trans hf957
  have hf987 := (ho970 q659 hn674.symm).trans hf960
  have hf988 := (ho970 q736 hn751.symm).trans hf963
  have hf989 := (ho970 q817 hn832.symm).trans hf966
  have hf990 := (ho970 q902 hn917.symm).trans hf908
  refine lv_aload_n hx hb dX11_init_152 rfl (lv_at hl 0 rfl) ?_
  refine lv_bipush (v := 20) hx hb dX11_init_153 (by decide) ?_
  refine pl_newa (atype := .long) (ty := .long) (N' := 20) (a0 := (20, .inr (.inl (fun _ => 0)))) hx hb (hts _ (mT wg_403)) rfl hG.1 hP hD hS hA 1 rfl (fun _ h => h) (fun _ => rfl) (by decide) (by decide) (Nat.le_of_ble_eq_true rfl) (Nat.le_of_ble_eq_true rfl) (Nat.le_of_ble_eq_true rfl) dX11_init_155 (fun q991 H L992 f993 hq994 hs995 hm996 hf997 ho998 hP hD hS => ?_)
  have hN999 : [q991, q902, q817, q736, q659, q586, q517, q452, q391, q334, q281, q232, q187, q146, q109, q76, q47, q22, q1].Nodup := List.nodup_cons.mpr ⟨fun h => hq994 (hNs911 _ h), hN910⟩
  have hNs1000 : ∀ b, b ∈ [q991, q902, q817, q736, q659, q586, q517, q452, q391, q334, q281, q232, q187, q146, q109, q76, q47, q22, q1] → b ∈ L992 := List.forall_mem_cons.mpr ⟨hm996, fun b hb => hs995 b (hNs911 b hb)⟩
  have hfr1001 : ∀ b, b ∈ L → b ≠ mo → f993 b = f b := fun b hb z0 => (ho998 b (hsb913 b hb)).trans (hfr972 b hb z0)
  have hnq1003 : q991 ∉ L := fun h => hq994 (hsb913 _ h)
  have hsb1002 : ∀ b, b ∈ L → b ∈ _ := fun b hb => hs995 b (hsb913 b hb)
  have hf1004 := (ho998 mo hm916).trans hf971
  have hn1006 : mo ≠ q991 := fun e => hq994 (e ▸ hm916)
  have hm1005 := hs995 _ hm916
  have hf1007 := (ho998 q1 hm919).trans hf973
  have hn1009 : q1 ≠ q991 := fun e => hq994 (e ▸ hm919)
  have hm1008 := hs995 _ hm919
  have hf1010 := (ho998 q22 hm922).trans hf974
  have hn1012 : q22 ≠ q991 := fun e => hq994 (e ▸ hm922)
  have hm1011 := hs995 _ hm922
  have hf1013 := (ho998 q47 hm925).trans hf975
  have hn1015 : q47 ≠ q991 := fun e => hq994 (e ▸ hm925)
  have hm1014 := hs995 _ hm925
  have hf1016 := (ho998 q76 hm928).trans hf976
  have hn1018 : q76 ≠ q991 := fun e => hq994 (e ▸ hm928)
  have hm1017 := hs995 _ hm928
  have hf1019 := (ho998 q109 hm931).trans hf977
  have hn1021 : q109 ≠ q991 := fun e => hq994 (e ▸ hm931)
  have hm1020 := hs995 _ hm931
  have hf1022 := (ho998 q146 hm934).trans hf978
  have hn1024 : q146 ≠ q991 := fun e => hq994 (e ▸ hm934)
  have hm1023 := hs995 _ hm934
  have hf1025 := (ho998 q187 hm937).trans hf979
  have hn1027 : q187 ≠ q991 := fun e => hq994 (e ▸ hm937)
  have hm1026 := hs995 _ hm937
  have hf1028 := (ho998 q232 hm940).trans hf980
  have hn1030 : q232 ≠ q991 := fun e => hq994 (e ▸ hm940)
  have hm1029 := hs995 _ hm940
  have hf1031 := (ho998 q281 hm943).trans hf981
  have hn1033 : q281 ≠ q991 := fun e => hq994 (e ▸ hm943)
  have hm1032 := hs995 _ hm943
  have hf1034 := (ho998 q334 hm946).trans hf982
  have hn1036 : q334 ≠ q991 := fun e => hq994 (e ▸ hm946)
  have hm1035 := hs995 _ hm946
  have hf1037 := (ho998 q391 hm949).trans hf983
  have hn1039 : q391 ≠ q991 := fun e => hq994 (e ▸ hm949)
  have hm1038 := hs995 _ hm949
  have hf1040 := (ho998 q452 hm952).trans hf984
  have hn1042 : q452 ≠ q991 := fun e => hq994 (e ▸ hm952)
  have hm1041 := hs995 _ hm952
  have hf1043 := (ho998 q517 hm955).trans hf985
  have hn1045 : q517 ≠ q991 := fun e => hq994 (e ▸ hm955)
  have hm1044 := hs995 _ hm955
  have hf1046 := (ho998 q586 hm958).trans hf986
  have hn1048 : q586 ≠ q991 := fun e => hq994 (e ▸ hm958)
  have hm1047 := hs995 _ hm958
  have hf1049 := (ho998 q659 hm961).trans hf987
  have hn1051 : q659 ≠ q991 := fun e => hq994 (e ▸ hm961)
  have hm1050 := hs995 _ hm961
  have hf1052 := (ho998 q736 hm964).trans hf988
  have hn1054 : q736 ≠ q991 := fun e => hq994 (e ▸ hm964)
  have hm1053 := hs995 _ hm964
  have hf1055 := (ho998 q817 hm967).trans hf989
  have hn1057 : q817 ≠ q991 := fun e => hq994 (e ▸ hm967)
  have hm1056 := hs995 _ hm967
  have hf1058 := (ho998 q902 hm907).trans hf990
  have hn1060 : q902 ≠ q991 := fun e => hq994 (e ▸ hm907)
  have hm1059 := hs995 _ hm907
  refine pl_putF (ty := (.array .long)) (v := .ref q991) (fs' := [.int 0, .ref q1, .int 0, .int 0, .int 0, .int 0, .int 0, .ref q22, .int 0, .int 0, .ref q47, .ref q76, .int 0, .int 0, .int 0, .int 0, .int 0, .int 0, .int 0, .int 0, .int 0, .long 0, .long 0, .int 0, .ref q109, .int 0, .ref q146, .ref q187, .ref q232, .ref q281, .ref q334, .ref q391, .ref q452, .ref q517, .ref q586, .ref q659, .int 0, .int 0, .int 0, .int 0, .int 0, .ref q736, .ref q817, .ref q902, .ref q991, .long 0, .long 0, .int 0, .int 0, .null, .int 0, .int 0, .null, .int 0, .null, .int 0]) hx hb hts (fun w h => mT (inX11 w h)) tyX11 tyX11_ok nmX11 hown hG.1 hP hD hS hm1005 hf1004 rfl 44 (by decide) (hts _ (mT wg_1380)) (fun _ h => h) rfl hnm rfl (by decide +kernel) (rfl) (rfl) (Nat.le_of_ble_eq_true rfl) rfl dX11_init_157 (fun H locs f1061 hf1063 ho1062 hP hD hS => ?_)
  have hfr1064 : ∀ b, b ∈ L → b ≠ mo → f1061 b = f b := fun b hb z0 => (ho1062 b z0).trans (hfr1001 b hb z0)
  have hf1065 := (ho1062 q1 hn16.symm).trans hf1007
  have hf1066 := (ho1062 q22 hn37.symm).trans hf1010
  have hf1067 := (ho1062 q47 hn62.symm).trans hf1013
  have hf1068 := (ho1062 q76 hn91.symm).trans hf1016
  have hf1069 := (ho1062 q109 hn124.symm).trans hf1019
  have hf1070 := (ho1062 q146 hn161.symm).trans hf1022
  have hf1071 := (ho1062 q187 hn202.symm).trans hf1025
  have hf1072 := (ho1062 q232 hn247.symm).trans hf1028
  have hf1073 := (ho1062 q281 hn296.symm).trans hf1031
  have hf1074 := (ho1062 q334 hn349.symm).trans hf1034
  have hf1075 := (ho1062 q391 hn406.symm).trans hf1037
  have hf1076 := (ho1062 q452 hn467.symm).trans hf1040
  have hf1077 := (ho1062 q517 hn532.symm).trans hf1043
  have hf1078 := (ho1062 q586 hn601.symm).trans hf1046
  have hf1079 := (ho1062 q659 hn674.symm).trans hf1049
  have hf1080 := (ho1062 q736 hn751.symm).trans hf1052
  have hf1081 := (ho1062 q817 hn832.symm).trans hf1055
  have hf1082 := (ho1062 q902 hn917.symm).trans hf1058
  have hf1083 := (ho1062 q991 hn1006.symm).trans hf997
  refine lv_aload_n hx hb dX11_init_160 rfl (lv_at hl 0 rfl) ?_
  refine lv_iconst (v := 5) hx hb dX11_init_161 (by decide) ?_
  refine pl_newa (atype := .int) (ty := .int) (N' := 5) (a0 := (5, .inl (fun _ => 0))) hx hb (hts _ (mT wg_217)) rfl hG.1 hP hD hS hA 0 rfl (fun _ h => h) (fun _ => rfl) (by decide) (by decide) (Nat.le_of_ble_eq_true rfl) (Nat.le_of_ble_eq_true rfl) (Nat.le_of_ble_eq_true rfl) dX11_init_162 (fun q1084 H L1085 f1086 hq1087 hs1088 hm1089 hf1090 ho1091 hP hD hS => ?_)
  have hN1092 : [q1084, q991, q902, q817, q736, q659, q586, q517, q452, q391, q334, q281, q232, q187, q146, q109, q76, q47, q22, q1].Nodup := List.nodup_cons.mpr ⟨fun h => hq1087 (hNs1000 _ h), hN999⟩
  have hNs1093 : ∀ b, b ∈ [q1084, q991, q902, q817, q736, q659, q586, q517, q452, q391, q334, q281, q232, q187, q146, q109, q76, q47, q22, q1] → b ∈ L1085 := List.forall_mem_cons.mpr ⟨hm1089, fun b hb => hs1088 b (hNs1000 b hb)⟩
  have hfr1094 : ∀ b, b ∈ L → b ≠ mo → f1086 b = f b := fun b hb z0 => (ho1091 b (hsb1002 b hb)).trans (hfr1064 b hb z0)
  have hnq1096 : q1084 ∉ L := fun h => hq1087 (hsb1002 _ h)
  have hsb1095 : ∀ b, b ∈ L → b ∈ _ := fun b hb => hs1088 b (hsb1002 b hb)
  have hf1097 := (ho1091 mo hm1005).trans hf1063
  have hn1099 : mo ≠ q1084 := fun e => hq1087 (e ▸ hm1005)
  have hm1098 := hs1088 _ hm1005
  have hf1100 := (ho1091 q1 hm1008).trans hf1065
  have hn1102 : q1 ≠ q1084 := fun e => hq1087 (e ▸ hm1008)
  have hm1101 := hs1088 _ hm1008
  have hf1103 := (ho1091 q22 hm1011).trans hf1066
  have hn1105 : q22 ≠ q1084 := fun e => hq1087 (e ▸ hm1011)
  have hm1104 := hs1088 _ hm1011
  have hf1106 := (ho1091 q47 hm1014).trans hf1067
  have hn1108 : q47 ≠ q1084 := fun e => hq1087 (e ▸ hm1014)
  have hm1107 := hs1088 _ hm1014
  have hf1109 := (ho1091 q76 hm1017).trans hf1068
  have hn1111 : q76 ≠ q1084 := fun e => hq1087 (e ▸ hm1017)
  have hm1110 := hs1088 _ hm1017
  have hf1112 := (ho1091 q109 hm1020).trans hf1069
  have hn1114 : q109 ≠ q1084 := fun e => hq1087 (e ▸ hm1020)
  have hm1113 := hs1088 _ hm1020
  have hf1115 := (ho1091 q146 hm1023).trans hf1070
  have hn1117 : q146 ≠ q1084 := fun e => hq1087 (e ▸ hm1023)
  have hm1116 := hs1088 _ hm1023
  have hf1118 := (ho1091 q187 hm1026).trans hf1071
  have hn1120 : q187 ≠ q1084 := fun e => hq1087 (e ▸ hm1026)
  have hm1119 := hs1088 _ hm1026
  have hf1121 := (ho1091 q232 hm1029).trans hf1072
  have hn1123 : q232 ≠ q1084 := fun e => hq1087 (e ▸ hm1029)
  have hm1122 := hs1088 _ hm1029
  have hf1124 := (ho1091 q281 hm1032).trans hf1073
  have hn1126 : q281 ≠ q1084 := fun e => hq1087 (e ▸ hm1032)
  have hm1125 := hs1088 _ hm1032
  have hf1127 := (ho1091 q334 hm1035).trans hf1074
  have hn1129 : q334 ≠ q1084 := fun e => hq1087 (e ▸ hm1035)
  have hm1128 := hs1088 _ hm1035
  have hf1130 := (ho1091 q391 hm1038).trans hf1075
  have hn1132 : q391 ≠ q1084 := fun e => hq1087 (e ▸ hm1038)
  have hm1131 := hs1088 _ hm1038
  have hf1133 := (ho1091 q452 hm1041).trans hf1076
  have hn1135 : q452 ≠ q1084 := fun e => hq1087 (e ▸ hm1041)
  have hm1134 := hs1088 _ hm1041
  have hf1136 := (ho1091 q517 hm1044).trans hf1077
  have hn1138 : q517 ≠ q1084 := fun e => hq1087 (e ▸ hm1044)
  have hm1137 := hs1088 _ hm1044
  have hf1139 := (ho1091 q586 hm1047).trans hf1078
  have hn1141 : q586 ≠ q1084 := fun e => hq1087 (e ▸ hm1047)
  have hm1140 := hs1088 _ hm1047
  have hf1142 := (ho1091 q659 hm1050).trans hf1079
  have hn1144 : q659 ≠ q1084 := fun e => hq1087 (e ▸ hm1050)
  have hm1143 := hs1088 _ hm1050
  have hf1145 := (ho1091 q736 hm1053).trans hf1080
  have hn1147 : q736 ≠ q1084 := fun e => hq1087 (e ▸ hm1053)
  have hm1146 := hs1088 _ hm1053
  have hf1148 := (ho1091 q817 hm1056).trans hf1081
  have hn1150 : q817 ≠ q1084 := fun e => hq1087 (e ▸ hm1056)
  have hm1149 := hs1088 _ hm1056
  have hf1151 := (ho1091 q902 hm1059).trans hf1082
  have hn1153 : q902 ≠ q1084 := fun e => hq1087 (e ▸ hm1059)
  have hm1152 := hs1088 _ hm1059
  have hf1154 := (ho1091 q991 hm996).trans hf1083
  have hn1156 : q991 ≠ q1084 := fun e => hq1087 (e ▸ hm996)
  have hm1155 := hs1088 _ hm996
  refine pl_putF (ty := (.array .int)) (v := .ref q1084) (fs' := [.int 0, .ref q1, .int 0, .int 0, .int 0, .int 0, .int 0, .ref q22, .int 0, .int 0, .ref q47, .ref q76, .int 0, .int 0, .int 0, .int 0, .int 0, .int 0, .int 0, .int 0, .int 0, .long 0, .long 0, .int 0, .ref q109, .int 0, .ref q146, .ref q187, .ref q232, .ref q281, .ref q334, .ref q391, .ref q452, .ref q517, .ref q586, .ref q659, .int 0, .int 0, .int 0, .int 0, .int 0, .ref q736, .ref q817, .ref q902, .ref q991, .long 0, .long 0, .int 0, .int 0, .ref q1084, .int 0, .int 0, .null, .int 0, .null, .int 0]) hx hb hts (fun w h => mT (inX11 w h)) tyX11 tyX11_ok nmX11 hown hG.1 hP hD hS hm1098 hf1097 rfl 49 (by decide) (hts _ (mT wg_1385)) (fun _ h => h) rfl hnm rfl (by decide +kernel) (rfl) (rfl) (Nat.le_of_ble_eq_true rfl) rfl dX11_init_164 (fun H locs f1157 hf1159 ho1158 hP hD hS => ?_)
  have hfr1160 : ∀ b, b ∈ L → b ≠ mo → f1157 b = f b := fun b hb z0 => (ho1158 b z0).trans (hfr1094 b hb z0)
  have hf1161 := (ho1158 q1 hn16.symm).trans hf1100
  have hf1162 := (ho1158 q22 hn37.symm).trans hf1103
  have hf1163 := (ho1158 q47 hn62.symm).trans hf1106
  have hf1164 := (ho1158 q76 hn91.symm).trans hf1109
  have hf1165 := (ho1158 q109 hn124.symm).trans hf1112
  have hf1166 := (ho1158 q146 hn161.symm).trans hf1115
  have hf1167 := (ho1158 q187 hn202.symm).trans hf1118
  have hf1168 := (ho1158 q232 hn247.symm).trans hf1121
  have hf1169 := (ho1158 q281 hn296.symm).trans hf1124
  have hf1170 := (ho1158 q334 hn349.symm).trans hf1127
  have hf1171 := (ho1158 q391 hn406.symm).trans hf1130
  have hf1172 := (ho1158 q452 hn467.symm).trans hf1133
  have hf1173 := (ho1158 q517 hn532.symm).trans hf1136
  have hf1174 := (ho1158 q586 hn601.symm).trans hf1139
  have hf1175 := (ho1158 q659 hn674.symm).trans hf1142
  have hf1176 := (ho1158 q736 hn751.symm).trans hf1145
  have hf1177 := (ho1158 q817 hn832.symm).trans hf1148
  have hf1178 := (ho1158 q902 hn917.symm).trans hf1151
  have hf1179 := (ho1158 q991 hn1006.symm).trans hf1154
  have hf1180 := (ho1158 q1084 hn1099.symm).trans hf1090
  refine lv_aload_n hx hb dX11_init_167 rfl (lv_at hl 0 rfl) ?_
  refine lv_sipush (v := 400) hx hb dX11_init_168 (by decide) ?_
  refine pl_newa (atype := .int) (ty := .int) (N' := 400) (a0 := (400, .inl (fun _ => 0))) hx hb (hts _ (mT wg_217)) rfl hG.1 hP hD hS hA 0 rfl (fun _ h => h) (fun _ => rfl) (by decide) (by decide) (Nat.le_of_ble_eq_true rfl) (Nat.le_of_ble_eq_true rfl) (Nat.le_of_ble_eq_true rfl) dX11_init_171 (fun q1181 H L1182 f1183 hq1184 hs1185 hm1186 hf1187 ho1188 hP hD hS => ?_)
  have hN1189 : [q1181, q1084, q991, q902, q817, q736, q659, q586, q517, q452, q391, q334, q281, q232, q187, q146, q109, q76, q47, q22, q1].Nodup := List.nodup_cons.mpr ⟨fun h => hq1184 (hNs1093 _ h), hN1092⟩
  have hNs1190 : ∀ b, b ∈ [q1181, q1084, q991, q902, q817, q736, q659, q586, q517, q452, q391, q334, q281, q232, q187, q146, q109, q76, q47, q22, q1] → b ∈ L1182 := List.forall_mem_cons.mpr ⟨hm1186, fun b hb => hs1185 b (hNs1093 b hb)⟩
  have hfr1191 : ∀ b, b ∈ L → b ≠ mo → f1183 b = f b := fun b hb z0 => (ho1188 b (hsb1095 b hb)).trans (hfr1160 b hb z0)
  have hnq1193 : q1181 ∉ L := fun h => hq1184 (hsb1095 _ h)
  have hsb1192 : ∀ b, b ∈ L → b ∈ _ := fun b hb => hs1185 b (hsb1095 b hb)
  have hf1194 := (ho1188 mo hm1098).trans hf1159
  have hn1196 : mo ≠ q1181 := fun e => hq1184 (e ▸ hm1098)
  have hm1195 := hs1185 _ hm1098
  have hf1197 := (ho1188 q1 hm1101).trans hf1161
  have hn1199 : q1 ≠ q1181 := fun e => hq1184 (e ▸ hm1101)
  have hm1198 := hs1185 _ hm1101
  have hf1200 := (ho1188 q22 hm1104).trans hf1162
  have hn1202 : q22 ≠ q1181 := fun e => hq1184 (e ▸ hm1104)
  have hm1201 := hs1185 _ hm1104
  have hf1203 := (ho1188 q47 hm1107).trans hf1163
  have hn1205 : q47 ≠ q1181 := fun e => hq1184 (e ▸ hm1107)
  have hm1204 := hs1185 _ hm1107
  have hf1206 := (ho1188 q76 hm1110).trans hf1164
  have hn1208 : q76 ≠ q1181 := fun e => hq1184 (e ▸ hm1110)
  have hm1207 := hs1185 _ hm1110
  have hf1209 := (ho1188 q109 hm1113).trans hf1165
  have hn1211 : q109 ≠ q1181 := fun e => hq1184 (e ▸ hm1113)
  have hm1210 := hs1185 _ hm1113
  have hf1212 := (ho1188 q146 hm1116).trans hf1166
  have hn1214 : q146 ≠ q1181 := fun e => hq1184 (e ▸ hm1116)
  have hm1213 := hs1185 _ hm1116
  have hf1215 := (ho1188 q187 hm1119).trans hf1167
  have hn1217 : q187 ≠ q1181 := fun e => hq1184 (e ▸ hm1119)
  have hm1216 := hs1185 _ hm1119
  have hf1218 := (ho1188 q232 hm1122).trans hf1168
  have hn1220 : q232 ≠ q1181 := fun e => hq1184 (e ▸ hm1122)
  have hm1219 := hs1185 _ hm1122
  have hf1221 := (ho1188 q281 hm1125).trans hf1169
  have hn1223 : q281 ≠ q1181 := fun e => hq1184 (e ▸ hm1125)
  have hm1222 := hs1185 _ hm1125
  have hf1224 := (ho1188 q334 hm1128).trans hf1170
  have hn1226 : q334 ≠ q1181 := fun e => hq1184 (e ▸ hm1128)
  have hm1225 := hs1185 _ hm1128
  have hf1227 := (ho1188 q391 hm1131).trans hf1171
  have hn1229 : q391 ≠ q1181 := fun e => hq1184 (e ▸ hm1131)
  have hm1228 := hs1185 _ hm1131
  have hf1230 := (ho1188 q452 hm1134).trans hf1172
  have hn1232 : q452 ≠ q1181 := fun e => hq1184 (e ▸ hm1134)
  have hm1231 := hs1185 _ hm1134
  have hf1233 := (ho1188 q517 hm1137).trans hf1173
  have hn1235 : q517 ≠ q1181 := fun e => hq1184 (e ▸ hm1137)
  have hm1234 := hs1185 _ hm1137
  have hf1236 := (ho1188 q586 hm1140).trans hf1174
  have hn1238 : q586 ≠ q1181 := fun e => hq1184 (e ▸ hm1140)
  have hm1237 := hs1185 _ hm1140
  have hf1239 := (ho1188 q659 hm1143).trans hf1175
  have hn1241 : q659 ≠ q1181 := fun e => hq1184 (e ▸ hm1143)
  have hm1240 := hs1185 _ hm1143
  have hf1242 := (ho1188 q736 hm1146).trans hf1176
  have hn1244 : q736 ≠ q1181 := fun e => hq1184 (e ▸ hm1146)
  have hm1243 := hs1185 _ hm1146
  have hf1245 := (ho1188 q817 hm1149).trans hf1177
  have hn1247 : q817 ≠ q1181 := fun e => hq1184 (e ▸ hm1149)
  have hm1246 := hs1185 _ hm1149
  have hf1248 := (ho1188 q902 hm1152).trans hf1178
  have hn1250 : q902 ≠ q1181 := fun e => hq1184 (e ▸ hm1152)
  have hm1249 := hs1185 _ hm1152
  have hf1251 := (ho1188 q991 hm1155).trans hf1179
  have hn1253 : q991 ≠ q1181 := fun e => hq1184 (e ▸ hm1155)
  have hm1252 := hs1185 _ hm1155
  have hf1254 := (ho1188 q1084 hm1089).trans hf1180
  have hn1256 : q1084 ≠ q1181 := fun e => hq1184 (e ▸ hm1089)
  have hm1255 := hs1185 _ hm1089
  refine pl_putF (ty := (.array .int)) (v := .ref q1181) (fs' := [.int 0, .ref q1, .int 0, .int 0, .int 0, .int 0, .int 0, .ref q22, .int 0, .int 0, .ref q47, .ref q76, .int 0, .int 0, .int 0, .int 0, .int 0, .int 0, .int 0, .int 0, .int 0, .long 0, .long 0, .int 0, .ref q109, .int 0, .ref q146, .ref q187, .ref q232, .ref q281, .ref q334, .ref q391, .ref q452, .ref q517, .ref q586, .ref q659, .int 0, .int 0, .int 0, .int 0, .int 0, .ref q736, .ref q817, .ref q902, .ref q991, .long 0, .long 0, .int 0, .int 0, .ref q1084, .int 0, .int 0, .ref q1181, .int 0, .null, .int 0]) hx hb hts (fun w h => mT (inX11 w h)) tyX11 tyX11_ok nmX11 hown hG.1 hP hD hS hm1195 hf1194 rfl 52 (by decide) (hts _ (mT wg_1388)) (fun _ h => h) rfl hnm rfl (by decide +kernel) (rfl) (rfl) (Nat.le_of_ble_eq_true rfl) rfl dX11_init_173 (fun H locs f1257 hf1259 ho1258 hP hD hS => ?_)
  have hfr1260 : ∀ b, b ∈ L → b ≠ mo → f1257 b = f b := fun b hb z0 => (ho1258 b z0).trans (hfr1191 b hb z0)
  have hf1261 := (ho1258 q1 hn16.symm).trans hf1197
  have hf1262 := (ho1258 q22 hn37.symm).trans hf1200
  have hf1263 := (ho1258 q47 hn62.symm).trans hf1203
  have hf1264 := (ho1258 q76 hn91.symm).trans hf1206
  have hf1265 := (ho1258 q109 hn124.symm).trans hf1209
  have hf1266 := (ho1258 q146 hn161.symm).trans hf1212
  have hf1267 := (ho1258 q187 hn202.symm).trans hf1215
  have hf1268 := (ho1258 q232 hn247.symm).trans hf1218
  have hf1269 := (ho1258 q281 hn296.symm).trans hf1221
  have hf1270 := (ho1258 q334 hn349.symm).trans hf1224
  have hf1271 := (ho1258 q391 hn406.symm).trans hf1227
  have hf1272 := (ho1258 q452 hn467.symm).trans hf1230
  have hf1273 := (ho1258 q517 hn532.symm).trans hf1233
  have hf1274 := (ho1258 q586 hn601.symm).trans hf1236
  have hf1275 := (ho1258 q659 hn674.symm).trans hf1239
  have hf1276 := (ho1258 q736 hn751.symm).trans hf1242
  have hf1277 := (ho1258 q817 hn832.symm).trans hf1245
  have hf1278 := (ho1258 q902 hn917.symm).trans hf1248
  have hf1279 := (ho1258 q991 hn1006.symm).trans hf1251
  have hf1280 := (ho1258 q1084 hn1099.symm).trans hf1254
  have hf1281 := (ho1258 q1181 hn1196.symm).trans hf1187
  refine lv_aload_n hx hb dX11_init_176 rfl (lv_at hl 0 rfl) ?_
  refine lv_sipush (v := 200) hx hb dX11_init_177 (by decide) ?_
  refine pl_newa (atype := .int) (ty := .int) (N' := 200) (a0 := (200, .inl (fun _ => 0))) hx hb (hts _ (mT wg_217)) rfl hG.1 hP hD hS hA 0 rfl (fun _ h => h) (fun _ => rfl) (by decide) (by decide) (Nat.le_of_ble_eq_true rfl) (Nat.le_of_ble_eq_true rfl) (Nat.le_of_ble_eq_true rfl) dX11_init_180 (fun q1282 H L1283 f1284 hq1285 hs1286 hm1287 hf1288 ho1289 hP hD hS => ?_)
  have hN1290 : [q1282, q1181, q1084, q991, q902, q817, q736, q659, q586, q517, q452, q391, q334, q281, q232, q187, q146, q109, q76, q47, q22, q1].Nodup := List.nodup_cons.mpr ⟨fun h => hq1285 (hNs1190 _ h), hN1189⟩
  have hNs1291 : ∀ b, b ∈ [q1282, q1181, q1084, q991, q902, q817, q736, q659, q586, q517, q452, q391, q334, q281, q232, q187, q146, q109, q76, q47, q22, q1] → b ∈ L1283 := List.forall_mem_cons.mpr ⟨hm1287, fun b hb => hs1286 b (hNs1190 b hb)⟩
  have hfr1292 : ∀ b, b ∈ L → b ≠ mo → f1284 b = f b := fun b hb z0 => (ho1289 b (hsb1192 b hb)).trans (hfr1260 b hb z0)
  have hnq1294 : q1282 ∉ L := fun h => hq1285 (hsb1192 _ h)
  have hsb1293 : ∀ b, b ∈ L → b ∈ _ := fun b hb => hs1286 b (hsb1192 b hb)
  have hf1295 := (ho1289 mo hm1195).trans hf1259
  have hn1297 : mo ≠ q1282 := fun e => hq1285 (e ▸ hm1195)
  have hm1296 := hs1286 _ hm1195
  have hf1298 := (ho1289 q1 hm1198).trans hf1261
  have hn1300 : q1 ≠ q1282 := fun e => hq1285 (e ▸ hm1198)
  have hm1299 := hs1286 _ hm1198
  have hf1301 := (ho1289 q22 hm1201).trans hf1262
  have hn1303 : q22 ≠ q1282 := fun e => hq1285 (e ▸ hm1201)
  have hm1302 := hs1286 _ hm1201
  have hf1304 := (ho1289 q47 hm1204).trans hf1263
  have hn1306 : q47 ≠ q1282 := fun e => hq1285 (e ▸ hm1204)
  have hm1305 := hs1286 _ hm1204
  have hf1307 := (ho1289 q76 hm1207).trans hf1264
  have hn1309 : q76 ≠ q1282 := fun e => hq1285 (e ▸ hm1207)
  have hm1308 := hs1286 _ hm1207
  have hf1310 := (ho1289 q109 hm1210).trans hf1265
  have hn1312 : q109 ≠ q1282 := fun e => hq1285 (e ▸ hm1210)
  have hm1311 := hs1286 _ hm1210
  have hf1313 := (ho1289 q146 hm1213).trans hf1266
  have hn1315 : q146 ≠ q1282 := fun e => hq1285 (e ▸ hm1213)
  have hm1314 := hs1286 _ hm1213
  have hf1316 := (ho1289 q187 hm1216).trans hf1267
  have hn1318 : q187 ≠ q1282 := fun e => hq1285 (e ▸ hm1216)
  have hm1317 := hs1286 _ hm1216
  have hf1319 := (ho1289 q232 hm1219).trans hf1268
  have hn1321 : q232 ≠ q1282 := fun e => hq1285 (e ▸ hm1219)
  have hm1320 := hs1286 _ hm1219
  have hf1322 := (ho1289 q281 hm1222).trans hf1269
  have hn1324 : q281 ≠ q1282 := fun e => hq1285 (e ▸ hm1222)
  have hm1323 := hs1286 _ hm1222
  have hf1325 := (ho1289 q334 hm1225).trans hf1270
  have hn1327 : q334 ≠ q1282 := fun e => hq1285 (e ▸ hm1225)
  have hm1326 := hs1286 _ hm1225
  have hf1328 := (ho1289 q391 hm1228).trans hf1271
  have hn1330 : q391 ≠ q1282 := fun e => hq1285 (e ▸ hm1228)
  have hm1329 := hs1286 _ hm1228
  have hf1331 := (ho1289 q452 hm1231).trans hf1272
  have hn1333 : q452 ≠ q1282 := fun e => hq1285 (e ▸ hm1231)
  have hm1332 := hs1286 _ hm1231
  have hf1334 := (ho1289 q517 hm1234).trans hf1273
  have hn1336 : q517 ≠ q1282 := fun e => hq1285 (e ▸ hm1234)
  have hm1335 := hs1286 _ hm1234
  have hf1337 := (ho1289 q586 hm1237).trans hf1274
  have hn1339 : q586 ≠ q1282 := fun e => hq1285 (e ▸ hm1237)
  have hm1338 := hs1286 _ hm1237
  have hf1340 := (ho1289 q659 hm1240).trans hf1275
  have hn1342 : q659 ≠ q1282 := fun e => hq1285 (e ▸ hm1240)
  have hm1341 := hs1286 _ hm1240
  have hf1343 := (ho1289 q736 hm1243).trans hf1276
  have hn1345 : q736 ≠ q1282 := fun e => hq1285 (e ▸ hm1243)
  have hm1344 := hs1286 _ hm1243
  have hf1346 := (ho1289 q817 hm1246).trans hf1277
  have hn1348 : q817 ≠ q1282 := fun e => hq1285 (e ▸ hm1246)
  have hm1347 := hs1286 _ hm1246
  have hf1349 := (ho1289 q902 hm1249).trans hf1278
  have hn1351 : q902 ≠ q1282 := fun e => hq1285 (e ▸ hm1249)
  have hm1350 := hs1286 _ hm1249
  have hf1352 := (ho1289 q991 hm1252).trans hf1279
  have hn1354 : q991 ≠ q1282 := fun e => hq1285 (e ▸ hm1252)
  have hm1353 := hs1286 _ hm1252
  have hf1355 := (ho1289 q1084 hm1255).trans hf1280
  have hn1357 : q1084 ≠ q1282 := fun e => hq1285 (e ▸ hm1255)
  have hm1356 := hs1286 _ hm1255
  have hf1358 := (ho1289 q1181 hm1186).trans hf1281
  have hn1360 : q1181 ≠ q1282 := fun e => hq1285 (e ▸ hm1186)
  have hm1359 := hs1286 _ hm1186
  refine pl_putF (ty := (.array .int)) (v := .ref q1282) (fs' := [.int 0, .ref q1, .int 0, .int 0, .int 0, .int 0, .int 0, .ref q22, .int 0, .int 0, .ref q47, .ref q76, .int 0, .int 0, .int 0, .int 0, .int 0, .int 0, .int 0, .int 0, .int 0, .long 0, .long 0, .int 0, .ref q109, .int 0, .ref q146, .ref q187, .ref q232, .ref q281, .ref q334, .ref q391, .ref q452, .ref q517, .ref q586, .ref q659, .int 0, .int 0, .int 0, .int 0, .int 0, .ref q736, .ref q817, .ref q902, .ref q991, .long 0, .long 0, .int 0, .int 0, .ref q1084, .int 0, .int 0, .ref q1181, .int 0, .ref q1282, .int 0]) hx hb hts (fun w h => mT (inX11 w h)) tyX11 tyX11_ok nmX11 hown hG.1 hP hD hS hm1296 hf1295 rfl 54 (by decide) (hts _ (mT wg_1390)) (fun _ h => h) rfl hnm rfl (by decide +kernel) (rfl) (rfl) (Nat.le_of_ble_eq_true rfl) rfl dX11_init_182 (fun H locs f1361 hf1363 ho1362 hP hD hS => ?_)
  have hfr1364 : ∀ b, b ∈ L → b ≠ mo → f1361 b = f b := fun b hb z0 => (ho1362 b z0).trans (hfr1292 b hb z0)
  have hf1365 := (ho1362 q1 hn16.symm).trans hf1298
  have hf1366 := (ho1362 q22 hn37.symm).trans hf1301
  have hf1367 := (ho1362 q47 hn62.symm).trans hf1304
  have hf1368 := (ho1362 q76 hn91.symm).trans hf1307
  have hf1369 := (ho1362 q109 hn124.symm).trans hf1310
  have hf1370 := (ho1362 q146 hn161.symm).trans hf1313
  have hf1371 := (ho1362 q187 hn202.symm).trans hf1316
  have hf1372 := (ho1362 q232 hn247.symm).trans hf1319
  have hf1373 := (ho1362 q281 hn296.symm).trans hf1322
  have hf1374 := (ho1362 q334 hn349.symm).trans hf1325
  have hf1375 := (ho1362 q391 hn406.symm).trans hf1328
  have hf1376 := (ho1362 q452 hn467.symm).trans hf1331
  have hf1377 := (ho1362 q517 hn532.symm).trans hf1334
  have hf1378 := (ho1362 q586 hn601.symm).trans hf1337
  have hf1379 := (ho1362 q659 hn674.symm).trans hf1340
  have hf1380 := (ho1362 q736 hn751.symm).trans hf1343
  have hf1381 := (ho1362 q817 hn832.symm).trans hf1346
  have hf1382 := (ho1362 q902 hn917.symm).trans hf1349
  have hf1383 := (ho1362 q991 hn1006.symm).trans hf1352
  have hf1384 := (ho1362 q1084 hn1099.symm).trans hf1355
  have hf1385 := (ho1362 q1181 hn1196.symm).trans hf1358
  have hf1386 := (ho1362 q1282 hn1297.symm).trans hf1288
  exact ret_v hx hb hr hlocks hP hD hS (Nat.le_of_ble_eq_true rfl) (Nat.le_of_ble_eq_true rfl) (⟨q1282, q1181, q1084, q991, q902, q817, q736, q659, q586, q517, q452, q391, q334, q281, q232, q187, q146, q109, q76, q47, q22, q1, hnq1294, hm1287, hf1386, hnq1193, hm1359, hf1385, hnq1096, hm1356, hf1384, hnq1003, hm1353, hf1383, hnq914, hm1350, hf1382, hnq829, hm1347, hf1381, hnq748, hm1344, hf1380, hnq671, hm1341, hf1379, hnq598, hm1338, hf1378, hnq529, hm1335, hf1377, hnq464, hm1332, hf1376, hnq403, hm1329, hf1375, hnq346, hm1326, hf1374, hnq293, hm1323, hf1373, hnq244, hm1320, hf1372, hnq199, hm1317, hf1371, hnq158, hm1314, hf1370, hnq121, hm1311, hf1369, hnq88, hm1308, hf1368, hnq59, hm1305, hf1367, hnq34, hm1302, hf1366, hnq13, hm1299, hf1365, hf1363, hN1290, hfr1364, hsb1293⟩) dX11_init_185
