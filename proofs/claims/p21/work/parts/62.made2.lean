set_option maxHeartbeats 4000000 in
set_option maxRecDepth 100000 in
theorem k_X10_init (l : Launch) (g : GG) (L : List Nat) (f : HP) (sz : Nat) (x : Nat) (hm_x : x ∈ L) (hf_x : f x = .inr (9, [.null, .null, .null, .null, .null, .null, .null, .null, .null, .null, .null, .null, .null, .null, .null, .int 0, .int 0, .long 0])) : MtV l g yX10_init cX10_init 1 ({ frames := 3, cells := 254, slots := 7965, locals := 53 }) [.ref x] L f sz (fun u => ∃ (c53 : Nat) (c52 : Nat) (c51 : Nat) (c50 : Nat) (c49 : Nat) (c48 : Nat) (c47 : Nat) (c46 : Nat) (c45 : Nat) (c44 : Nat) (c43 : Nat) (c42 : Nat) (c41 : Nat) (c40 : Nat) (c39 : Nat) (c38 : Nat) (c37 : Nat) (c36 : Nat) (c35 : Nat) (c34 : Nat) (c33 : Nat) (c32 : Nat) (c31 : Nat) (c30 : Nat) (c29 : Nat) (c28 : Nat) (c27 : Nat) (c26 : Nat) (c25 : Nat) (c24 : Nat) (c23 : Nat) (c22 : Nat) (c21 : Nat) (c20 : Nat) (c19 : Nat) (c18 : Nat) (c17 : Nat) (c16 : Nat) (c15 : Nat) (c14 : Nat) (c13 : Nat) (c12 : Nat) (c11 : Nat) (c10 : Nat) (c9 : Nat) (c8 : Nat) (c7 : Nat) (c6 : Nat) (c5 : Nat) (c4 : Nat) (c3 : Nat) (c2 : Nat) (c1 : Nat) (c0 : Nat) (rr : Nat → Option Nat) (aa : Nat → Nat → Nat), c53 ∉ L ∧ c53 ∈ u.1 ∧ u.2 c53 = .inl (g.2.1 0, 5, .inl (fun _ => 0)) ∧ c52 ∉ L ∧ c52 ∈ u.1 ∧ u.2 c52 = .inl (g.2.1 0, 520, .inl (fun _ => 0)) ∧ c51 ∉ L ∧ c51 ∈ u.1 ∧ u.2 c51 = .inr (8, [.ref c52, .int 0, .int 0, .int 0, .int 0]) ∧ c50 ∉ L ∧ c50 ∈ u.1 ∧ u.2 c50 = .inl (g.2.1 1, 48, .inr (.inl (fun _ => 0))) ∧ c49 ∉ L ∧ c49 ∈ u.1 ∧ u.2 c49 = .inl (g.2.1 0, 108, .inl (fun _ => 0)) ∧ c48 ∉ L ∧ c48 ∈ u.1 ∧ u.2 c48 = .inl (g.2.1 0, 108, .inl (fun _ => 0)) ∧ c47 ∉ L ∧ c47 ∈ u.1 ∧ u.2 c47 = .inl (g.2.1 0, 7, .inl (fun _ => 0)) ∧ c46 ∉ L ∧ c46 ∈ u.1 ∧ u.2 c46 = .inl (g.2.1 0, 9, .inl (fun _ => 0)) ∧ c45 ∉ L ∧ c45 ∈ u.1 ∧ u.2 c45 = .inr (2, [.int 0, .int 0, .int 0, .int 0, .int 0, .int 0, .int 0, .int 0]) ∧ c44 ∉ L ∧ c44 ∈ u.1 ∧ u.2 c44 = .inr (7, [.ref c45, .ref c46, .ref c47, .ref c48, .ref c49, .ref c50, .int 0, .int 0, .int 0, .int 0, .int 0, .int 0, .int 0, .int 0]) ∧ c43 ∉ L ∧ c43 ∈ u.1 ∧ u.2 c43 = .inl (g.2.1 4, 20, .inr (.inr (.inr (.inr rr)))) ∧ c42 ∉ L ∧ c42 ∈ u.1 ∧ u.2 c42 = .inr (0, [.ref c43, .int 0, .int 0]) ∧ c41 ∉ L ∧ c41 ∈ u.1 ∧ u.2 c41 = .inl (g.2.1 0, 6, .inl (fun _ => 0)) ∧ c40 ∉ L ∧ c40 ∈ u.1 ∧ u.2 c40 = .inl (g.2.1 0, 6, .inl (fun _ => 0)) ∧ c39 ∉ L ∧ c39 ∈ u.1 ∧ u.2 c39 = .inl (g.2.1 0, 6, .inl (fun _ => 0)) ∧ c38 ∉ L ∧ c38 ∈ u.1 ∧ u.2 c38 = .inl (g.2.1 0, 6, .inl (fun _ => 0)) ∧ c37 ∉ L ∧ c37 ∈ u.1 ∧ u.2 c37 = .inl (g.2.1 1, 6, .inr (.inl (fun _ => 0))) ∧ c36 ∉ L ∧ c36 ∈ u.1 ∧ u.2 c36 = .inl (g.2.1 1, 18, .inr (.inl (fun _ => 0))) ∧ c35 ∉ L ∧ c35 ∈ u.1 ∧ u.2 c35 = .inl (g.2.1 1, 18, .inr (.inl (fun _ => 0))) ∧ c34 ∉ L ∧ c34 ∈ u.1 ∧ u.2 c34 = .inl (g.2.1 1, 162, .inr (.inl (fun _ => 0))) ∧ c33 ∉ L ∧ c33 ∈ u.1 ∧ u.2 c33 = .inl (g.2.1 0, 30, .inl (fun _ => 0)) ∧ c32 ∉ L ∧ c32 ∈ u.1 ∧ u.2 c32 = .inr (3, [.int 0, .int 0, .int 0, .int 0, .int 0, .int 0, .int 0, .long 0, .long 0, .ref c33, .ref c34, .ref c35, .ref c36, .ref c37, .ref c38, .ref c39, .ref c40, .ref c41]) ∧ c31 ∉ L ∧ c31 ∈ u.1 ∧ u.2 c31 = .inl (g.2.1 0, 6, .inl (fun _ => 0)) ∧ c30 ∉ L ∧ c30 ∈ u.1 ∧ u.2 c30 = .inl (g.2.1 0, 6, .inl (fun _ => 0)) ∧ c29 ∉ L ∧ c29 ∈ u.1 ∧ u.2 c29 = .inl (g.2.1 0, 6, .inl (fun _ => 0)) ∧ c28 ∉ L ∧ c28 ∈ u.1 ∧ u.2 c28 = .inl (g.2.1 0, 6, .inl (fun _ => 0)) ∧ c27 ∉ L ∧ c27 ∈ u.1 ∧ u.2 c27 = .inl (g.2.1 1, 6, .inr (.inl (fun _ => 0))) ∧ c26 ∉ L ∧ c26 ∈ u.1 ∧ u.2 c26 = .inl (g.2.1 1, 18, .inr (.inl (fun _ => 0))) ∧ c25 ∉ L ∧ c25 ∈ u.1 ∧ u.2 c25 = .inl (g.2.1 1, 18, .inr (.inl (fun _ => 0))) ∧ c24 ∉ L ∧ c24 ∈ u.1 ∧ u.2 c24 = .inl (g.2.1 1, 162, .inr (.inl (fun _ => 0))) ∧ c23 ∉ L ∧ c23 ∈ u.1 ∧ u.2 c23 = .inl (g.2.1 0, 30, .inl (fun _ => 0)) ∧ c22 ∉ L ∧ c22 ∈ u.1 ∧ u.2 c22 = .inr (3, [.int 0, .int 0, .int 0, .int 0, .int 0, .int 0, .int 0, .long 0, .long 0, .ref c23, .ref c24, .ref c25, .ref c26, .ref c27, .ref c28, .ref c29, .ref c30, .ref c31]) ∧ c21 ∉ L ∧ c21 ∈ u.1 ∧ u.2 c21 = .inl (g.2.1 0, 6, .inl (fun _ => 0)) ∧ c20 ∉ L ∧ c20 ∈ u.1 ∧ u.2 c20 = .inl (g.2.1 0, 6, .inl (fun _ => 0)) ∧ c19 ∉ L ∧ c19 ∈ u.1 ∧ u.2 c19 = .inl (g.2.1 0, 6, .inl (fun _ => 0)) ∧ c18 ∉ L ∧ c18 ∈ u.1 ∧ u.2 c18 = .inl (g.2.1 0, 6, .inl (fun _ => 0)) ∧ c17 ∉ L ∧ c17 ∈ u.1 ∧ u.2 c17 = .inl (g.2.1 1, 6, .inr (.inl (fun _ => 0))) ∧ c16 ∉ L ∧ c16 ∈ u.1 ∧ u.2 c16 = .inl (g.2.1 1, 18, .inr (.inl (fun _ => 0))) ∧ c15 ∉ L ∧ c15 ∈ u.1 ∧ u.2 c15 = .inl (g.2.1 1, 18, .inr (.inl (fun _ => 0))) ∧ c14 ∉ L ∧ c14 ∈ u.1 ∧ u.2 c14 = .inl (g.2.1 1, 162, .inr (.inl (fun _ => 0))) ∧ c13 ∉ L ∧ c13 ∈ u.1 ∧ u.2 c13 = .inl (g.2.1 0, 30, .inl (fun _ => 0)) ∧ c12 ∉ L ∧ c12 ∈ u.1 ∧ u.2 c12 = .inr (3, [.int 0, .int 0, .int 0, .int 0, .int 0, .int 0, .int 0, .long 0, .long 0, .ref c13, .ref c14, .ref c15, .ref c16, .ref c17, .ref c18, .ref c19, .ref c20, .ref c21]) ∧ c11 ∉ L ∧ c11 ∈ u.1 ∧ u.2 c11 = .inr (4, [.int 0, .int 0, .int 0, .int 0]) ∧ c10 ∉ L ∧ c10 ∈ u.1 ∧ u.2 c10 = .inr (1, [.int 0, .int 0]) ∧ c9 ∉ L ∧ c9 ∈ u.1 ∧ u.2 c9 = .inl (g.2.1 0, 100, .inl (fun _ => 0)) ∧ c8 ∉ L ∧ c8 ∈ u.1 ∧ u.2 c8 = .inr (5, [.ref c9, .int 0]) ∧ c7 ∉ L ∧ c7 ∈ u.1 ∧ u.2 c7 = .inr (6, [.int 0, .int 0, .ref c8]) ∧ c6 ∉ L ∧ c6 ∈ u.1 ∧ u.2 c6 = .inl (g.2.1 0, 100, .inl (fun _ => 0)) ∧ c5 ∉ L ∧ c5 ∈ u.1 ∧ u.2 c5 = .inr (5, [.ref c6, .int 0]) ∧ c4 ∉ L ∧ c4 ∈ u.1 ∧ u.2 c4 = .inr (2, [.int 0, .int 0, .int 0, .int 0, .int 0, .int 0, .int 0, .int 0]) ∧ c3 ∉ L ∧ c3 ∈ u.1 ∧ u.2 c3 = .inr (2, [.int 0, .int 0, .int 0, .int 0, .int 0, .int 0, .int 0, .int 0]) ∧ c2 ∉ L ∧ c2 ∈ u.1 ∧ u.2 c2 = .inr (2, [.int 0, .int 0, .int 0, .int 0, .int 0, .int 0, .int 0, .int 0]) ∧ c1 ∉ L ∧ c1 ∈ u.1 ∧ u.2 c1 = .inl (g.2.1 0, 520, .inl (fun _ => 0)) ∧ c0 ∉ L ∧ c0 ∈ u.1 ∧ u.2 c0 = .inr (8, [.ref c1, .int 0, .int 0, .int 0, .int 0]) ∧ u.2 x = .inr (9, [.ref c0, .ref c2, .ref c3, .ref c4, .ref c5, .ref c7, .ref c10, .ref c11, .ref c12, .ref c22, .ref c32, .ref c42, .ref c44, .ref c51, .ref c53, .int 0, .int 0, .long 0]) ∧ [c53, c52, c51, c50, c49, c48, c47, c46, c45, c44, c43, c42, c41, c40, c39, c38, c37, c36, c35, c34, c33, c32, c31, c30, c29, c28, c27, c26, c25, c24, c23, c22, c21, c20, c19, c18, c17, c16, c15, c14, c13, c12, c11, c10, c9, c8, c7, c6, c5, c4, c3, c2, c1, c0].Nodup ∧ RINGP g L u.1 u.2 20 aa ∧ (∀ j, j < 20 → ∀ k, k < 10 → aa j k ≠ c53 ∧ aa j k ≠ c52 ∧ aa j k ≠ c51 ∧ aa j k ≠ c50 ∧ aa j k ≠ c49 ∧ aa j k ≠ c48 ∧ aa j k ≠ c47 ∧ aa j k ≠ c46 ∧ aa j k ≠ c45 ∧ aa j k ≠ c44 ∧ aa j k ≠ c43 ∧ aa j k ≠ c42 ∧ aa j k ≠ c41 ∧ aa j k ≠ c40 ∧ aa j k ≠ c39 ∧ aa j k ≠ c38 ∧ aa j k ≠ c37 ∧ aa j k ≠ c36 ∧ aa j k ≠ c35 ∧ aa j k ≠ c34 ∧ aa j k ≠ c33 ∧ aa j k ≠ c32 ∧ aa j k ≠ c31 ∧ aa j k ≠ c30 ∧ aa j k ≠ c29 ∧ aa j k ≠ c28 ∧ aa j k ≠ c27 ∧ aa j k ≠ c26 ∧ aa j k ≠ c25 ∧ aa j k ≠ c24 ∧ aa j k ≠ c23 ∧ aa j k ≠ c22 ∧ aa j k ≠ c21 ∧ aa j k ≠ c20 ∧ aa j k ≠ c19 ∧ aa j k ≠ c18 ∧ aa j k ≠ c17 ∧ aa j k ≠ c16 ∧ aa j k ≠ c15 ∧ aa j k ≠ c14 ∧ aa j k ≠ c13 ∧ aa j k ≠ c12 ∧ aa j k ≠ c11 ∧ aa j k ≠ c10 ∧ aa j k ≠ c9 ∧ aa j k ≠ c8 ∧ aa j k ≠ c7 ∧ aa j k ≠ c6 ∧ aa j k ≠ c5 ∧ aa j k ≠ c4 ∧ aa j k ≠ c3 ∧ aa j k ≠ c2 ∧ aa j k ≠ c1 ∧ aa j k ≠ c0) ∧ ∀ j, j < 20 → rr j = some (aa j 0) ∧ (∀ b, b ∈ L → b ≠ x → u.2 b = f b) ∧ (∀ b, b ∈ L → b ∈ u.1)) := by
  refine MtV.of (by decide +kernel) (Nat.le_of_ble_eq_true rfl) ?_
  intro p e s m below meth c A hEn hP hD hS ls hl
  obtain ⟨hx, hb, hr, hml, hown, hlocks, hts, hG, hA, hE, hnm⟩ := hEn
  have hown : s.vm.findClass "RulerWord" = some m.cls := hown
  have hl : lv_has ls 1 [(0, .ref x)] := hl
  have hfr0 : ∀ b, b ∈ L → b ≠ x → f b = f b := fun b hb z0 => rfl
  have hsb0 : ∀ b, b ∈ L → b ∈ L := fun b hb => hb
  refine lv_aload_n hx hb dX10_init_0 rfl (lv_at hl 0 rfl) ?_
  refine W.objInit hx hb hown (hts _ (mT wg_186)) (hts _ (mT wg_187)) (hts _ (mT wg_objInit)) rfl (by rw [hml]; exact hl.1) rfl dX10_init_1 (Nat.le_of_ble_eq_true rfl) (Nat.le_of_ble_eq_true rfl) ?_
  refine W.eq (g2 := F0 m 4 ls []) rfl ?_
  refine lv_aload_n hx hb dX10_init_4 rfl (lv_at hl 0 rfl) ?_
  refine pl_new (ci := 8) (fs := [.null, .int 0, .int 0, .int 0, .int 0]) (C := RX8) (T := TX8) (N := 5) hx hb hts (fun w h => mT (inX8 w h)) tyX8 tyX8_ok hown (hts _ (mT wg_189)) (hts _ (mT wg_190)) (hts _ (mT wg_158)) hG.1 hP hD hS hA rfl dvX8 (Nat.le_of_ble_eq_true rfl) (Nat.le_of_ble_eq_true rfl) dX10_init_5 (fun q1 H L2 f3 hq4 hs5 hm6 hf7 ho8 hP hD hS => ?_)
  have hN9 : [q1].Nodup := List.nodup_cons.mpr ⟨fun h => hq4 ((fun _ h => absurd h List.not_mem_nil) _ h), List.nodup_nil⟩
  have hNs10 : ∀ b, b ∈ [q1] → b ∈ L2 := List.forall_mem_cons.mpr ⟨hm6, fun b hb => hs5 b ((fun _ h => absurd h List.not_mem_nil) b hb)⟩
  have hfr11 : ∀ b, b ∈ L → b ≠ x → f3 b = f b := fun b hb z0 => (ho8 b (hsb0 b hb)).trans (hfr0 b hb z0)
  have hnq13 : q1 ∉ L := fun h => hq4 (hsb0 _ h)
  have hsb12 : ∀ b, b ∈ L → b ∈ _ := fun b hb => hs5 b (hsb0 b hb)
  have hf14 := (ho8 x hm_x).trans hf_x
  have hn16 : x ≠ q1 := fun e => hq4 (e ▸ hm_x)
  have hm15 := hs5 _ hm_x
  refine lv_dup hx hb dX10_init_8 rfl ?_
  refine call_v (run_IN (rm := { frames := 1, cells := 1, slots := 520, locals := 12 }) hx hb hml hown hts (k_X8_init l g _ _ _ q1 hm6 hf7) cI_X8_init wn_191 ⟨Nat.le_of_ble_eq_true rfl, Nat.le_of_ble_eq_true rfl⟩ hG hE hA hP hD hS rfl hl.1 (As := []) (rest := [.ref q1, .ref x]) rfl (Nat.le_of_ble_eq_true rfl) dX10_init_9 ⟨Nat.le_of_ble_eq_true rfl, Nat.le_of_ble_eq_true rfl⟩) hA hD hS (fun L18 f19 H locs hp20 hP hD hS => ?_)
  obtain ⟨q21, hn22, hm23, hf24, hf25, er26, fr27, sb28⟩ := hp20
  have hN29 : [q21, q1].Nodup := nd_app (l := [q21]) (k := [q1]) er26 (List.forall_mem_cons.mpr ⟨hn22, (fun _ h => absurd h List.not_mem_nil)⟩) hN9 hNs10
  have hNs30 : ∀ b, b ∈ [q21, q1] → b ∈ L18 := fm_app (l := [q21]) (k := [q1]) (List.forall_mem_cons.mpr ⟨hm23, (fun _ h => absurd h List.not_mem_nil)⟩) (fun b hb => sb28 b (hNs10 b hb))
  have hfr31 : ∀ b, b ∈ L → b ≠ x → f19 b = f b := fun b hb z0 => (fr27 b (hsb12 b hb) (fun e => hnq13 (e ▸ hb))).trans (hfr11 b hb z0)
  have hnq33 : q21 ∉ L := fun h => hn22 (hsb12 _ h)
  have hsb32 : ∀ b, b ∈ L → b ∈ L18 := fun b hb => sb28 b (hsb12 b hb)
  have hn35 : x ≠ q21 := fun e => hn22 (e ▸ hm15)
  have hf36 := (fr27 x hm15 hn16).trans hf14
  have hm34 := sb28 _ hm15
  have hn38 : q1 ≠ q21 := fun e => hn22 (e ▸ hm6)
  have hm37 := sb28 _ hm6
  refine pl_putF (ty := (.object "RulerWord$Tape")) (v := .ref q1) (fs' := [.ref q1, .null, .null, .null, .null, .null, .null, .null, .null, .null, .null, .null, .null, .null, .null, .int 0, .int 0, .long 0]) hx hb hts (fun w h => mT (inX10 w h)) tyX10 tyX10_ok nmX10 hown hG.1 hP hD hS hm34 hf36 rfl 0 (by decide) (hts _ (mT wg_475)) (fun _ h => h) rfl hnm rfl (by decide +kernel) (rfl) (rfl) (Nat.le_of_ble_eq_true rfl) rfl dX10_init_12 (fun H locs f39 hf41 ho40 hP hD hS => ?_)
  have hfr42 : ∀ b, b ∈ L → b ≠ x → f39 b = f b := fun b hb z0 => (ho40 b z0).trans (hfr31 b hb z0)
  have hf43 := (ho40 q1 hn16.symm).trans hf25
  have hf44 := (ho40 q21 hn35.symm).trans hf24
  refine lv_aload_n hx hb dX10_init_15 rfl (lv_at hl 0 rfl) ?_
  refine pl_new (ci := 2) (fs := [.int 0, .int 0, .int 0, .int 0, .int 0, .int 0, .int 0, .int 0]) (C := RX2) (T := TX2) (N := 8) hx hb hts (fun w h => mT (inX2 w h)) tyX2 tyX2_ok hown (hts _ (mT wg_218)) (hts _ (mT wg_219)) (hts _ (mT wg_159)) hG.1 hP hD hS hA rfl dvX2 (Nat.le_of_ble_eq_true rfl) (Nat.le_of_ble_eq_true rfl) dX10_init_16 (fun q45 H L46 f47 hq48 hs49 hm50 hf51 ho52 hP hD hS => ?_)
  have hN53 : [q45, q21, q1].Nodup := List.nodup_cons.mpr ⟨fun h => hq48 (hNs30 _ h), hN29⟩
  have hNs54 : ∀ b, b ∈ [q45, q21, q1] → b ∈ L46 := List.forall_mem_cons.mpr ⟨hm50, fun b hb => hs49 b (hNs30 b hb)⟩
  have hfr55 : ∀ b, b ∈ L → b ≠ x → f47 b = f b := fun b hb z0 => (ho52 b (hsb32 b hb)).trans (hfr42 b hb z0)
  have hnq57 : q45 ∉ L := fun h => hq48 (hsb32 _ h)
  have hsb56 : ∀ b, b ∈ L → b ∈ _ := fun b hb => hs49 b (hsb32 b hb)
  have hf58 := (ho52 x hm34).trans hf41
  have hn60 : x ≠ q45 := fun e => hq48 (e ▸ hm34)
  have hm59 := hs49 _ hm34
  have hf61 := (ho52 q1 hm37).trans hf43
  have hn63 : q1 ≠ q45 := fun e => hq48 (e ▸ hm37)
  have hm62 := hs49 _ hm37
  have hf64 := (ho52 q21 hm23).trans hf44
  have hn66 : q21 ≠ q45 := fun e => hq48 (e ▸ hm23)
  have hm65 := hs49 _ hm23
  refine lv_dup hx hb dX10_init_19 rfl ?_
  refine call_v (run_IN (rm := { frames := 1, cells := 0, slots := 0, locals := 12 }) hx hb hml hown hts (k_X2_init l g _ _ _ q45 hm50 hf51) cI_X2_init wn_220 ⟨Nat.le_of_ble_eq_true rfl, Nat.le_of_ble_eq_true rfl⟩ hG hE hA hP hD hS rfl hl.1 (As := []) (rest := [.ref q45, .ref x]) rfl (Nat.le_of_ble_eq_true rfl) dX10_init_20 ⟨Nat.le_of_ble_eq_true rfl, Nat.le_of_ble_eq_true rfl⟩) hA hD hS (fun L68 f69 H locs hp70 hP hD hS => ?_)
  obtain ⟨fr71, sb72⟩ := hp70
  have hfr73 : ∀ b, b ∈ L → b ≠ x → f69 b = f b := fun b hb z0 => (fr71 b (hsb56 b hb) ).trans (hfr55 b hb z0)
  have hsb74 : ∀ b, b ∈ L → b ∈ L68 := fun b hb => sb72 b (hsb56 b hb)
  have hf76 := (fr71 x hm59 ).trans hf58
  have hm75 := sb72 _ hm59
  have hf78 := (fr71 q1 hm62 ).trans hf61
  have hm77 := sb72 _ hm62
  have hf80 := (fr71 q21 hm65 ).trans hf64
  have hm79 := sb72 _ hm65
  have hf82 := (fr71 q45 hm50 ).trans hf51
  have hm81 := sb72 _ hm50
  refine pl_putF (ty := (.object "RulerWord$Council")) (v := .ref q45) (fs' := [.ref q1, .ref q45, .null, .null, .null, .null, .null, .null, .null, .null, .null, .null, .null, .null, .null, .int 0, .int 0, .long 0]) hx hb hts (fun w h => mT (inX10 w h)) tyX10 tyX10_ok nmX10 hown hG.1 hP hD hS hm75 hf76 rfl 1 (by decide) (hts _ (mT wg_476)) (fun _ h => h) rfl hnm rfl (by decide +kernel) (rfl) (rfl) (Nat.le_of_ble_eq_true rfl) rfl dX10_init_23 (fun H locs f83 hf85 ho84 hP hD hS => ?_)
  have hfr86 : ∀ b, b ∈ L → b ≠ x → f83 b = f b := fun b hb z0 => (ho84 b z0).trans (hfr73 b hb z0)
  have hf87 := (ho84 q1 hn16.symm).trans hf78
  have hf88 := (ho84 q21 hn35.symm).trans hf80
  have hf89 := (ho84 q45 hn60.symm).trans hf82
  refine lv_aload_n hx hb dX10_init_26 rfl (lv_at hl 0 rfl) ?_
  refine pl_new (ci := 2) (fs := [.int 0, .int 0, .int 0, .int 0, .int 0, .int 0, .int 0, .int 0]) (C := RX2) (T := TX2) (N := 8) hx hb hts (fun w h => mT (inX2 w h)) tyX2 tyX2_ok hown (hts _ (mT wg_218)) (hts _ (mT wg_219)) (hts _ (mT wg_159)) hG.1 hP hD hS hA rfl dvX2 (Nat.le_of_ble_eq_true rfl) (Nat.le_of_ble_eq_true rfl) dX10_init_27 (fun q90 H L91 f92 hq93 hs94 hm95 hf96 ho97 hP hD hS => ?_)
  have hN98 : [q90, q45, q21, q1].Nodup := List.nodup_cons.mpr ⟨fun h => hq93 (hNs54 _ h), hN53⟩
  have hNs99 : ∀ b, b ∈ [q90, q45, q21, q1] → b ∈ L91 := List.forall_mem_cons.mpr ⟨hm95, fun b hb => hs94 b (hNs54 b hb)⟩
  have hfr100 : ∀ b, b ∈ L → b ≠ x → f92 b = f b := fun b hb z0 => (ho97 b (hsb74 b hb)).trans (hfr86 b hb z0)
  have hnq102 : q90 ∉ L := fun h => hq93 (hsb74 _ h)
  have hsb101 : ∀ b, b ∈ L → b ∈ _ := fun b hb => hs94 b (hsb74 b hb)
  have hf103 := (ho97 x hm75).trans hf85
  have hn105 : x ≠ q90 := fun e => hq93 (e ▸ hm75)
  have hm104 := hs94 _ hm75
  have hf106 := (ho97 q1 hm77).trans hf87
  have hn108 : q1 ≠ q90 := fun e => hq93 (e ▸ hm77)
  have hm107 := hs94 _ hm77
  have hf109 := (ho97 q21 hm79).trans hf88
  have hn111 : q21 ≠ q90 := fun e => hq93 (e ▸ hm79)
  have hm110 := hs94 _ hm79
  have hf112 := (ho97 q45 hm81).trans hf89
  have hn114 : q45 ≠ q90 := fun e => hq93 (e ▸ hm81)
  have hm113 := hs94 _ hm81
  refine lv_dup hx hb dX10_init_30 rfl ?_
  refine call_v (run_IN (rm := { frames := 1, cells := 0, slots := 0, locals := 12 }) hx hb hml hown hts (k_X2_init l g _ _ _ q90 hm95 hf96) cI_X2_init wn_220 ⟨Nat.le_of_ble_eq_true rfl, Nat.le_of_ble_eq_true rfl⟩ hG hE hA hP hD hS rfl hl.1 (As := []) (rest := [.ref q90, .ref x]) rfl (Nat.le_of_ble_eq_true rfl) dX10_init_31 ⟨Nat.le_of_ble_eq_true rfl, Nat.le_of_ble_eq_true rfl⟩) hA hD hS (fun L116 f117 H locs hp118 hP hD hS => ?_)
  obtain ⟨fr119, sb120⟩ := hp118
  have hfr121 : ∀ b, b ∈ L → b ≠ x → f117 b = f b := fun b hb z0 => (fr119 b (hsb101 b hb) ).trans (hfr100 b hb z0)
  have hsb122 : ∀ b, b ∈ L → b ∈ L116 := fun b hb => sb120 b (hsb101 b hb)
  have hf124 := (fr119 x hm104 ).trans hf103
  have hm123 := sb120 _ hm104
  have hf126 := (fr119 q1 hm107 ).trans hf106
  have hm125 := sb120 _ hm107
  have hf128 := (fr119 q21 hm110 ).trans hf109
  have hm127 := sb120 _ hm110
  have hf130 := (fr119 q45 hm113 ).trans hf112
  have hm129 := sb120 _ hm113
  have hf132 := (fr119 q90 hm95 ).trans hf96
  have hm131 := sb120 _ hm95
  refine pl_putF (ty := (.object "RulerWord$Council")) (v := .ref q90) (fs' := [.ref q1, .ref q45, .ref q90, .null, .null, .null, .null, .null, .null, .null, .null, .null, .null, .null, .null, .int 0, .int 0, .long 0]) hx hb hts (fun w h => mT (inX10 w h)) tyX10 tyX10_ok nmX10 hown hG.1 hP hD hS hm123 hf124 rfl 2 (by decide) (hts _ (mT wg_477)) (fun _ h => h) rfl hnm rfl (by decide +kernel) (rfl) (rfl) (Nat.le_of_ble_eq_true rfl) rfl dX10_init_34 (fun H locs f133 hf135 ho134 hP hD hS => ?_)
  have hfr136 : ∀ b, b ∈ L → b ≠ x → f133 b = f b := fun b hb z0 => (ho134 b z0).trans (hfr121 b hb z0)
  have hf137 := (ho134 q1 hn16.symm).trans hf126
  have hf138 := (ho134 q21 hn35.symm).trans hf128
  have hf139 := (ho134 q45 hn60.symm).trans hf130
  have hf140 := (ho134 q90 hn105.symm).trans hf132
  refine lv_aload_n hx hb dX10_init_37 rfl (lv_at hl 0 rfl) ?_
  refine pl_new (ci := 2) (fs := [.int 0, .int 0, .int 0, .int 0, .int 0, .int 0, .int 0, .int 0]) (C := RX2) (T := TX2) (N := 8) hx hb hts (fun w h => mT (inX2 w h)) tyX2 tyX2_ok hown (hts _ (mT wg_218)) (hts _ (mT wg_219)) (hts _ (mT wg_159)) hG.1 hP hD hS hA rfl dvX2 (Nat.le_of_ble_eq_true rfl) (Nat.le_of_ble_eq_true rfl) dX10_init_38 (fun q141 H L142 f143 hq144 hs145 hm146 hf147 ho148 hP hD hS => ?_)
  have hN149 : [q141, q90, q45, q21, q1].Nodup := List.nodup_cons.mpr ⟨fun h => hq144 (hNs99 _ h), hN98⟩
  have hNs150 : ∀ b, b ∈ [q141, q90, q45, q21, q1] → b ∈ L142 := List.forall_mem_cons.mpr ⟨hm146, fun b hb => hs145 b (hNs99 b hb)⟩
  have hfr151 : ∀ b, b ∈ L → b ≠ x → f143 b = f b := fun b hb z0 => (ho148 b (hsb122 b hb)).trans (hfr136 b hb z0)
  have hnq153 : q141 ∉ L := fun h => hq144 (hsb122 _ h)
  have hsb152 : ∀ b, b ∈ L → b ∈ _ := fun b hb => hs145 b (hsb122 b hb)
  have hf154 := (ho148 x hm123).trans hf135
  have hn156 : x ≠ q141 := fun e => hq144 (e ▸ hm123)
  have hm155 := hs145 _ hm123
  have hf157 := (ho148 q1 hm125).trans hf137
  have hn159 : q1 ≠ q141 := fun e => hq144 (e ▸ hm125)
  have hm158 := hs145 _ hm125
  have hf160 := (ho148 q21 hm127).trans hf138
  have hn162 : q21 ≠ q141 := fun e => hq144 (e ▸ hm127)
  have hm161 := hs145 _ hm127
  have hf163 := (ho148 q45 hm129).trans hf139
  have hn165 : q45 ≠ q141 := fun e => hq144 (e ▸ hm129)
  have hm164 := hs145 _ hm129
  have hf166 := (ho148 q90 hm131).trans hf140
  have hn168 : q90 ≠ q141 := fun e => hq144 (e ▸ hm131)
  have hm167 := hs145 _ hm131
  refine lv_dup hx hb dX10_init_41 rfl ?_
  refine call_v (run_IN (rm := { frames := 1, cells := 0, slots := 0, locals := 12 }) hx hb hml hown hts (k_X2_init l g _ _ _ q141 hm146 hf147) cI_X2_init wn_220 ⟨Nat.le_of_ble_eq_true rfl, Nat.le_of_ble_eq_true rfl⟩ hG hE hA hP hD hS rfl hl.1 (As := []) (rest := [.ref q141, .ref x]) rfl (Nat.le_of_ble_eq_true rfl) dX10_init_42 ⟨Nat.le_of_ble_eq_true rfl, Nat.le_of_ble_eq_true rfl⟩) hA hD hS (fun L170 f171 H locs hp172 hP hD hS => ?_)
  obtain ⟨fr173, sb174⟩ := hp172
  have hfr175 : ∀ b, b ∈ L → b ≠ x → f171 b = f b := fun b hb z0 => (fr173 b (hsb152 b hb) ).trans (hfr151 b hb z0)
  have hsb176 : ∀ b, b ∈ L → b ∈ L170 := fun b hb => sb174 b (hsb152 b hb)
  have hf178 := (fr173 x hm155 ).trans hf154
  have hm177 := sb174 _ hm155
  have hf180 := (fr173 q1 hm158 ).trans hf157
  have hm179 := sb174 _ hm158
  have hf182 := (fr173 q21 hm161 ).trans hf160
  have hm181 := sb174 _ hm161
  have hf184 := (fr173 q45 hm164 ).trans hf163
  have hm183 := sb174 _ hm164
  have hf186 := (fr173 q90 hm167 ).trans hf166
  have hm185 := sb174 _ hm167
  have hf188 := (fr173 q141 hm146 ).trans hf147
  have hm187 := sb174 _ hm146
  refine pl_putF (ty := (.object "RulerWord$Council")) (v := .ref q141) (fs' := [.ref q1, .ref q45, .ref q90, .ref q141, .null, .null, .null, .null, .null, .null, .null, .null, .null, .null, .null, .int 0, .int 0, .long 0]) hx hb hts (fun w h => mT (inX10 w h)) tyX10 tyX10_ok nmX10 hown hG.1 hP hD hS hm177 hf178 rfl 3 (by decide) (hts _ (mT wg_478)) (fun _ h => h) rfl hnm rfl (by decide +kernel) (rfl) (rfl) (Nat.le_of_ble_eq_true rfl) rfl dX10_init_45 (fun H locs f189 hf191 ho190 hP hD hS => ?_)
  have hfr192 : ∀ b, b ∈ L → b ≠ x → f189 b = f b := fun b hb z0 => (ho190 b z0).trans (hfr175 b hb z0)
  have hf193 := (ho190 q1 hn16.symm).trans hf180
  have hf194 := (ho190 q21 hn35.symm).trans hf182
  have hf195 := (ho190 q45 hn60.symm).trans hf184
  have hf196 := (ho190 q90 hn105.symm).trans hf186
  have hf197 := (ho190 q141 hn156.symm).trans hf188
  refine lv_aload_n hx hb dX10_init_48 rfl (lv_at hl 0 rfl) ?_
  refine pl_new (ci := 5) (fs := [.null, .int 0]) (C := RX5) (T := TX5) (N := 2) hx hb hts (fun w h => mT (inX5 w h)) tyX5 tyX5_ok hown (hts _ (mT wg_263)) (hts _ (mT wg_264)) (hts _ (mT wg_160)) hG.1 hP hD hS hA rfl dvX5 (Nat.le_of_ble_eq_true rfl) (Nat.le_of_ble_eq_true rfl) dX10_init_49 (fun q198 H L199 f200 hq201 hs202 hm203 hf204 ho205 hP hD hS => ?_)
  have hN206 : [q198, q141, q90, q45, q21, q1].Nodup := List.nodup_cons.mpr ⟨fun h => hq201 (hNs150 _ h), hN149⟩
  have hNs207 : ∀ b, b ∈ [q198, q141, q90, q45, q21, q1] → b ∈ L199 := List.forall_mem_cons.mpr ⟨hm203, fun b hb => hs202 b (hNs150 b hb)⟩
  have hfr208 : ∀ b, b ∈ L → b ≠ x → f200 b = f b := fun b hb z0 => (ho205 b (hsb176 b hb)).trans (hfr192 b hb z0)
  have hnq210 : q198 ∉ L := fun h => hq201 (hsb176 _ h)
  have hsb209 : ∀ b, b ∈ L → b ∈ _ := fun b hb => hs202 b (hsb176 b hb)
  have hf211 := (ho205 x hm177).trans hf191
  have hn213 : x ≠ q198 := fun e => hq201 (e ▸ hm177)
  have hm212 := hs202 _ hm177
  have hf214 := (ho205 q1 hm179).trans hf193
  have hn216 : q1 ≠ q198 := fun e => hq201 (e ▸ hm179)
  have hm215 := hs202 _ hm179
  have hf217 := (ho205 q21 hm181).trans hf194
  have hn219 : q21 ≠ q198 := fun e => hq201 (e ▸ hm181)
  have hm218 := hs202 _ hm181
  have hf220 := (ho205 q45 hm183).trans hf195
  have hn222 : q45 ≠ q198 := fun e => hq201 (e ▸ hm183)
  have hm221 := hs202 _ hm183
  have hf223 := (ho205 q90 hm185).trans hf196
  have hn225 : q90 ≠ q198 := fun e => hq201 (e ▸ hm185)
  have hm224 := hs202 _ hm185
  have hf226 := (ho205 q141 hm187).trans hf197
  have hn228 : q141 ≠ q198 := fun e => hq201 (e ▸ hm187)
  have hm227 := hs202 _ hm187
  refine lv_dup hx hb dX10_init_52 rfl ?_
  refine call_v (run_IN (rm := { frames := 1, cells := 1, slots := 100, locals := 12 }) hx hb hml hown hts (k_X5_init l g _ _ _ q198 hm203 hf204) cI_X5_init wn_265 ⟨Nat.le_of_ble_eq_true rfl, Nat.le_of_ble_eq_true rfl⟩ hG hE hA hP hD hS rfl hl.1 (As := []) (rest := [.ref q198, .ref x]) rfl (Nat.le_of_ble_eq_true rfl) dX10_init_53 ⟨Nat.le_of_ble_eq_true rfl, Nat.le_of_ble_eq_true rfl⟩) hA hD hS (fun L230 f231 H locs hp232 hP hD hS => ?_)
  obtain ⟨q233, hn234, hm235, hf236, hf237, er238, fr239, sb240⟩ := hp232
  have hN241 : [q233, q198, q141, q90, q45, q21, q1].Nodup := nd_app (l := [q233]) (k := [q198, q141, q90, q45, q21, q1]) er238 (List.forall_mem_cons.mpr ⟨hn234, (fun _ h => absurd h List.not_mem_nil)⟩) hN206 hNs207
  have hNs242 : ∀ b, b ∈ [q233, q198, q141, q90, q45, q21, q1] → b ∈ L230 := fm_app (l := [q233]) (k := [q198, q141, q90, q45, q21, q1]) (List.forall_mem_cons.mpr ⟨hm235, (fun _ h => absurd h List.not_mem_nil)⟩) (fun b hb => sb240 b (hNs207 b hb))
  have hfr243 : ∀ b, b ∈ L → b ≠ x → f231 b = f b := fun b hb z0 => (fr239 b (hsb209 b hb) (fun e => hnq210 (e ▸ hb))).trans (hfr208 b hb z0)
  have hnq245 : q233 ∉ L := fun h => hn234 (hsb209 _ h)
  have hsb244 : ∀ b, b ∈ L → b ∈ L230 := fun b hb => sb240 b (hsb209 b hb)
  have hn247 : x ≠ q233 := fun e => hn234 (e ▸ hm212)
  have hf248 := (fr239 x hm212 hn213).trans hf211
  have hm246 := sb240 _ hm212
  have hn250 : q1 ≠ q233 := fun e => hn234 (e ▸ hm215)
  have hf251 := (fr239 q1 hm215 hn216).trans hf214
  have hm249 := sb240 _ hm215
  have hn253 : q21 ≠ q233 := fun e => hn234 (e ▸ hm218)
  have hf254 := (fr239 q21 hm218 hn219).trans hf217
  have hm252 := sb240 _ hm218
  have hn256 : q45 ≠ q233 := fun e => hn234 (e ▸ hm221)
  have hf257 := (fr239 q45 hm221 hn222).trans hf220
  have hm255 := sb240 _ hm221
  have hn259 : q90 ≠ q233 := fun e => hn234 (e ▸ hm224)
  have hf260 := (fr239 q90 hm224 hn225).trans hf223
  have hm258 := sb240 _ hm224
  have hn262 : q141 ≠ q233 := fun e => hn234 (e ▸ hm227)
  have hf263 := (fr239 q141 hm227 hn228).trans hf226
  have hm261 := sb240 _ hm227
  have hn265 : q198 ≠ q233 := fun e => hn234 (e ▸ hm203)
  have hm264 := sb240 _ hm203
  refine pl_putF (ty := (.object "RulerWord$Plan")) (v := .ref q198) (fs' := [.ref q1, .ref q45, .ref q90, .ref q141, .ref q198, .null, .null, .null, .null, .null, .null, .null, .null, .null, .null, .int 0, .int 0, .long 0]) hx hb hts (fun w h => mT (inX10 w h)) tyX10 tyX10_ok nmX10 hown hG.1 hP hD hS hm246 hf248 rfl 4 (by decide) (hts _ (mT wg_479)) (fun _ h => h) rfl hnm rfl (by decide +kernel) (rfl) (rfl) (Nat.le_of_ble_eq_true rfl) rfl dX10_init_56 (fun H locs f266 hf268 ho267 hP hD hS => ?_)
  have hfr269 : ∀ b, b ∈ L → b ≠ x → f266 b = f b := fun b hb z0 => (ho267 b z0).trans (hfr243 b hb z0)
  have hf270 := (ho267 q1 hn16.symm).trans hf251
  have hf271 := (ho267 q21 hn35.symm).trans hf254
  have hf272 := (ho267 q45 hn60.symm).trans hf257
  have hf273 := (ho267 q90 hn105.symm).trans hf260
  have hf274 := (ho267 q141 hn156.symm).trans hf263
  have hf275 := (ho267 q198 hn213.symm).trans hf237
  have hf276 := (ho267 q233 hn247.symm).trans hf236
  refine lv_aload_n hx hb dX10_init_59 rfl (lv_at hl 0 rfl) ?_
  refine pl_new (ci := 6) (fs := [.int 0, .int 0, .null]) (C := RX6) (T := TX6) (N := 3) hx hb hts (fun w h => mT (inX6 w h)) tyX6 tyX6_ok hown (hts _ (mT wg_277)) (hts _ (mT wg_278)) (hts _ (mT wg_162)) hG.1 hP hD hS hA rfl dvX6 (Nat.le_of_ble_eq_true rfl) (Nat.le_of_ble_eq_true rfl) dX10_init_60 (fun q277 H L278 f279 hq280 hs281 hm282 hf283 ho284 hP hD hS => ?_)
  have hN285 : [q277, q233, q198, q141, q90, q45, q21, q1].Nodup := List.nodup_cons.mpr ⟨fun h => hq280 (hNs242 _ h), hN241⟩
  have hNs286 : ∀ b, b ∈ [q277, q233, q198, q141, q90, q45, q21, q1] → b ∈ L278 := List.forall_mem_cons.mpr ⟨hm282, fun b hb => hs281 b (hNs242 b hb)⟩
  have hfr287 : ∀ b, b ∈ L → b ≠ x → f279 b = f b := fun b hb z0 => (ho284 b (hsb244 b hb)).trans (hfr269 b hb z0)
  have hnq289 : q277 ∉ L := fun h => hq280 (hsb244 _ h)
  have hsb288 : ∀ b, b ∈ L → b ∈ _ := fun b hb => hs281 b (hsb244 b hb)
  have hf290 := (ho284 x hm246).trans hf268
  have hn292 : x ≠ q277 := fun e => hq280 (e ▸ hm246)
  have hm291 := hs281 _ hm246
  have hf293 := (ho284 q1 hm249).trans hf270
  have hn295 : q1 ≠ q277 := fun e => hq280 (e ▸ hm249)
  have hm294 := hs281 _ hm249
  have hf296 := (ho284 q21 hm252).trans hf271
  have hn298 : q21 ≠ q277 := fun e => hq280 (e ▸ hm252)
  have hm297 := hs281 _ hm252
  have hf299 := (ho284 q45 hm255).trans hf272
  have hn301 : q45 ≠ q277 := fun e => hq280 (e ▸ hm255)
  have hm300 := hs281 _ hm255
  have hf302 := (ho284 q90 hm258).trans hf273
  have hn304 : q90 ≠ q277 := fun e => hq280 (e ▸ hm258)
  have hm303 := hs281 _ hm258
  have hf305 := (ho284 q141 hm261).trans hf274
  have hn307 : q141 ≠ q277 := fun e => hq280 (e ▸ hm261)
  have hm306 := hs281 _ hm261
  have hf308 := (ho284 q198 hm264).trans hf275
  have hn310 : q198 ≠ q277 := fun e => hq280 (e ▸ hm264)
  have hm309 := hs281 _ hm264
  have hf311 := (ho284 q233 hm235).trans hf276
  have hn313 : q233 ≠ q277 := fun e => hq280 (e ▸ hm235)
  have hm312 := hs281 _ hm235
  refine lv_dup hx hb dX10_init_63 rfl ?_
  refine call_v (run_IN (rm := { frames := 2, cells := 2, slots := 102, locals := 32 }) hx hb hml hown hts (k_X6_init l g _ _ _ q277 hm282 hf283) cI_X6_init wn_279 ⟨Nat.le_of_ble_eq_true rfl, Nat.le_of_ble_eq_true rfl⟩ hG hE hA hP hD hS rfl hl.1 (As := []) (rest := [.ref q277, .ref x]) rfl (Nat.le_of_ble_eq_true rfl) dX10_init_64 ⟨Nat.le_of_ble_eq_true rfl, Nat.le_of_ble_eq_true rfl⟩) hA hD hS (fun L315 f316 H locs hp317 hP hD hS => ?_)
  obtain ⟨q318, q319, hn320, hm321, hf322, hn323, hm324, hf325, hf326, er327, fr328, sb329⟩ := hp317
  have hN330 : [q318, q319, q277, q233, q198, q141, q90, q45, q21, q1].Nodup := nd_app (l := [q318, q319]) (k := [q277, q233, q198, q141, q90, q45, q21, q1]) er327 (List.forall_mem_cons.mpr ⟨hn320, (List.forall_mem_cons.mpr ⟨hn323, (fun _ h => absurd h List.not_mem_nil)⟩)⟩) hN285 hNs286
  have hNs331 : ∀ b, b ∈ [q318, q319, q277, q233, q198, q141, q90, q45, q21, q1] → b ∈ L315 := fm_app (l := [q318, q319]) (k := [q277, q233, q198, q141, q90, q45, q21, q1]) (List.forall_mem_cons.mpr ⟨hm321, (List.forall_mem_cons.mpr ⟨hm324, (fun _ h => absurd h List.not_mem_nil)⟩)⟩) (fun b hb => sb329 b (hNs286 b hb))
  have hfr332 : ∀ b, b ∈ L → b ≠ x → f316 b = f b := fun b hb z0 => (fr328 b (hsb288 b hb) (fun e => hnq289 (e ▸ hb))).trans (hfr287 b hb z0)
  have hnq334 : q318 ∉ L := fun h => hn320 (hsb288 _ h)
  have hnq335 : q319 ∉ L := fun h => hn323 (hsb288 _ h)
  have hsb333 : ∀ b, b ∈ L → b ∈ L315 := fun b hb => sb329 b (hsb288 b hb)
  have hn337 : x ≠ q318 := fun e => hn320 (e ▸ hm291)
  have hn338 : x ≠ q319 := fun e => hn323 (e ▸ hm291)
  have hf339 := (fr328 x hm291 hn292).trans hf290
  have hm336 := sb329 _ hm291
  have hn341 : q1 ≠ q318 := fun e => hn320 (e ▸ hm294)
  have hn342 : q1 ≠ q319 := fun e => hn323 (e ▸ hm294)
  have hf343 := (fr328 q1 hm294 hn295).trans hf293
  have hm340 := sb329 _ hm294
  have hn345 : q21 ≠ q318 := fun e => hn320 (e ▸ hm297)
  have hn346 : q21 ≠ q319 := fun e => hn323 (e ▸ hm297)
  have hf347 := (fr328 q21 hm297 hn298).trans hf296
  have hm344 := sb329 _ hm297
  have hn349 : q45 ≠ q318 := fun e => hn320 (e ▸ hm300)
  have hn350 : q45 ≠ q319 := fun e => hn323 (e ▸ hm300)
  have hf351 := (fr328 q45 hm300 hn301).trans hf299
  have hm348 := sb329 _ hm300
  have hn353 : q90 ≠ q318 := fun e => hn320 (e ▸ hm303)
  have hn354 : q90 ≠ q319 := fun e => hn323 (e ▸ hm303)
  have hf355 := (fr328 q90 hm303 hn304).trans hf302
  have hm352 := sb329 _ hm303
  have hn357 : q141 ≠ q318 := fun e => hn320 (e ▸ hm306)
  have hn358 : q141 ≠ q319 := fun e => hn323 (e ▸ hm306)
  have hf359 := (fr328 q141 hm306 hn307).trans hf305
  have hm356 := sb329 _ hm306
  have hn361 : q198 ≠ q318 := fun e => hn320 (e ▸ hm309)
  have hn362 : q198 ≠ q319 := fun e => hn323 (e ▸ hm309)
  have hf363 := (fr328 q198 hm309 hn310).trans hf308
  have hm360 := sb329 _ hm309
  have hn365 : q233 ≠ q318 := fun e => hn320 (e ▸ hm312)
  have hn366 : q233 ≠ q319 := fun e => hn323 (e ▸ hm312)
  have hf367 := (fr328 q233 hm312 hn313).trans hf311
  have hm364 := sb329 _ hm312
  have hn369 : q277 ≠ q318 := fun e => hn320 (e ▸ hm282)
  have hn370 : q277 ≠ q319 := fun e => hn323 (e ▸ hm282)
  have hm368 := sb329 _ hm282
  refine pl_putF (ty := (.object "RulerWord$Planned")) (v := .ref q277) (fs' := [.ref q1, .ref q45, .ref q90, .ref q141, .ref q198, .ref q277, .null, .null, .null, .null, .null, .null, .null, .null, .null, .int 0, .int 0, .long 0]) hx hb hts (fun w h => mT (inX10 w h)) tyX10 tyX10_ok nmX10 hown hG.1 hP hD hS hm336 hf339 rfl 5 (by decide) (hts _ (mT wg_480)) (fun _ h => h) rfl hnm rfl (by decide +kernel) (rfl) (rfl) (Nat.le_of_ble_eq_true rfl) rfl dX10_init_67 (fun H locs f371 hf373 ho372 hP hD hS => ?_)
  have hfr374 : ∀ b, b ∈ L → b ≠ x → f371 b = f b := fun b hb z0 => (ho372 b z0).trans (hfr332 b hb z0)
  have hf375 := (ho372 q1 hn16.symm).trans hf343
  have hf376 := (ho372 q21 hn35.symm).trans hf347
  have hf377 := (ho372 q45 hn60.symm).trans hf351
  have hf378 := (ho372 q90 hn105.symm).trans hf355
  have hf379 := (ho372 q141 hn156.symm).trans hf359
  have hf380 := (ho372 q198 hn213.symm).trans hf363
  have hf381 := (ho372 q233 hn247.symm).trans hf367
  have hf382 := (ho372 q277 hn292.symm).trans hf326
  have hf383 := (ho372 q318 hn337.symm).trans hf322
  have hf384 := (ho372 q319 hn338.symm).trans hf325
  refine lv_aload_n hx hb dX10_init_70 rfl (lv_at hl 0 rfl) ?_
  refine pl_new (ci := 1) (fs := [.int 0, .int 0]) (C := RX1) (T := TX1) (N := 2) hx hb hts (fun w h => mT (inX1 w h)) tyX1 tyX1_ok hown (hts _ (mT wg_303)) (hts _ (mT wg_304)) (hts _ (mT wg_163)) hG.1 hP hD hS hA rfl dvX1 (Nat.le_of_ble_eq_true rfl) (Nat.le_of_ble_eq_true rfl) dX10_init_71 (fun q385 H L386 f387 hq388 hs389 hm390 hf391 ho392 hP hD hS => ?_)
  have hN393 : [q385, q318, q319, q277, q233, q198, q141, q90, q45, q21, q1].Nodup := List.nodup_cons.mpr ⟨fun h => hq388 (hNs331 _ h), hN330⟩
  have hNs394 : ∀ b, b ∈ [q385, q318, q319, q277, q233, q198, q141, q90, q45, q21, q1] → b ∈ L386 := List.forall_mem_cons.mpr ⟨hm390, fun b hb => hs389 b (hNs331 b hb)⟩
  have hfr395 : ∀ b, b ∈ L → b ≠ x → f387 b = f b := fun b hb z0 => (ho392 b (hsb333 b hb)).trans (hfr374 b hb z0)
  have hnq397 : q385 ∉ L := fun h => hq388 (hsb333 _ h)
  have hsb396 : ∀ b, b ∈ L → b ∈ _ := fun b hb => hs389 b (hsb333 b hb)
  have hf398 := (ho392 x hm336).trans hf373
  have hn400 : x ≠ q385 := fun e => hq388 (e ▸ hm336)
  have hm399 := hs389 _ hm336
  have hf401 := (ho392 q1 hm340).trans hf375
  have hn403 : q1 ≠ q385 := fun e => hq388 (e ▸ hm340)
  have hm402 := hs389 _ hm340
  have hf404 := (ho392 q21 hm344).trans hf376
  have hn406 : q21 ≠ q385 := fun e => hq388 (e ▸ hm344)
  have hm405 := hs389 _ hm344
  have hf407 := (ho392 q45 hm348).trans hf377
  have hn409 : q45 ≠ q385 := fun e => hq388 (e ▸ hm348)
  have hm408 := hs389 _ hm348
  have hf410 := (ho392 q90 hm352).trans hf378
  have hn412 : q90 ≠ q385 := fun e => hq388 (e ▸ hm352)
  have hm411 := hs389 _ hm352
  have hf413 := (ho392 q141 hm356).trans hf379
  have hn415 : q141 ≠ q385 := fun e => hq388 (e ▸ hm356)
  have hm414 := hs389 _ hm356
  have hf416 := (ho392 q198 hm360).trans hf380
  have hn418 : q198 ≠ q385 := fun e => hq388 (e ▸ hm360)
  have hm417 := hs389 _ hm360
  have hf419 := (ho392 q233 hm364).trans hf381
  have hn421 : q233 ≠ q385 := fun e => hq388 (e ▸ hm364)
  have hm420 := hs389 _ hm364
  have hf422 := (ho392 q277 hm368).trans hf382
  have hn424 : q277 ≠ q385 := fun e => hq388 (e ▸ hm368)
  have hm423 := hs389 _ hm368
  have hf425 := (ho392 q318 hm321).trans hf383
  have hn427 : q318 ≠ q385 := fun e => hq388 (e ▸ hm321)
  have hm426 := hs389 _ hm321
  have hf428 := (ho392 q319 hm324).trans hf384
  have hn430 : q319 ≠ q385 := fun e => hq388 (e ▸ hm324)
  have hm429 := hs389 _ hm324
  refine lv_dup hx hb dX10_init_74 rfl ?_
  refine call_v (run_IN (rm := { frames := 2, cells := 0, slots := 0, locals := 32 }) hx hb hml hown hts (k_X1_init l g _ _ _ q385 hm390 hf391) cI_X1_init wn_305 ⟨Nat.le_of_ble_eq_true rfl, Nat.le_of_ble_eq_true rfl⟩ hG hE hA hP hD hS rfl hl.1 (As := []) (rest := [.ref q385, .ref x]) rfl (Nat.le_of_ble_eq_true rfl) dX10_init_75 ⟨Nat.le_of_ble_eq_true rfl, Nat.le_of_ble_eq_true rfl⟩) hA hD hS (fun L432 f433 H locs hp434 hP hD hS => ?_)
  obtain ⟨fr435, sb436⟩ := hp434
  have hfr437 : ∀ b, b ∈ L → b ≠ x → f433 b = f b := fun b hb z0 => (fr435 b (hsb396 b hb) ).trans (hfr395 b hb z0)
  have hsb438 : ∀ b, b ∈ L → b ∈ L432 := fun b hb => sb436 b (hsb396 b hb)
  have hf440 := (fr435 x hm399 ).trans hf398
  have hm439 := sb436 _ hm399
  have hf442 := (fr435 q1 hm402 ).trans hf401
  have hm441 := sb436 _ hm402
  have hf444 := (fr435 q21 hm405 ).trans hf404
  have hm443 := sb436 _ hm405
  have hf446 := (fr435 q45 hm408 ).trans hf407
  have hm445 := sb436 _ hm408
  have hf448 := (fr435 q90 hm411 ).trans hf410
  have hm447 := sb436 _ hm411
  have hf450 := (fr435 q141 hm414 ).trans hf413
  have hm449 := sb436 _ hm414
  have hf452 := (fr435 q198 hm417 ).trans hf416
  have hm451 := sb436 _ hm417
  have hf454 := (fr435 q233 hm420 ).trans hf419
  have hm453 := sb436 _ hm420
  have hf456 := (fr435 q277 hm423 ).trans hf422
  have hm455 := sb436 _ hm423
  have hf458 := (fr435 q318 hm426 ).trans hf425
  have hm457 := sb436 _ hm426
  have hf460 := (fr435 q319 hm429 ).trans hf428
  have hm459 := sb436 _ hm429
  have hf462 := (fr435 q385 hm390 ).trans hf391
  have hm461 := sb436 _ hm390
  refine pl_putF (ty := (.object "RulerWord$Chance")) (v := .ref q385) (fs' := [.ref q1, .ref q45, .ref q90, .ref q141, .ref q198, .ref q277, .ref q385, .null, .null, .null, .null, .null, .null, .null, .null, .int 0, .int 0, .long 0]) hx hb hts (fun w h => mT (inX10 w h)) tyX10 tyX10_ok nmX10 hown hG.1 hP hD hS hm439 hf440 rfl 6 (by decide) (hts _ (mT wg_481)) (fun _ h => h) rfl hnm rfl (by decide +kernel) (rfl) (rfl) (Nat.le_of_ble_eq_true rfl) rfl dX10_init_78 (fun H locs f463 hf465 ho464 hP hD hS => ?_)
  have hfr466 : ∀ b, b ∈ L → b ≠ x → f463 b = f b := fun b hb z0 => (ho464 b z0).trans (hfr437 b hb z0)
  have hf467 := (ho464 q1 hn16.symm).trans hf442
  have hf468 := (ho464 q21 hn35.symm).trans hf444
  have hf469 := (ho464 q45 hn60.symm).trans hf446
  have hf470 := (ho464 q90 hn105.symm).trans hf448
  have hf471 := (ho464 q141 hn156.symm).trans hf450
  have hf472 := (ho464 q198 hn213.symm).trans hf452
  have hf473 := (ho464 q233 hn247.symm).trans hf454
  have hf474 := (ho464 q277 hn292.symm).trans hf456
  have hf475 := (ho464 q318 hn337.symm).trans hf458
  have hf476 := (ho464 q319 hn338.symm).trans hf460
  have hf477 := (ho464 q385 hn400.symm).trans hf462
  refine lv_aload_n hx hb dX10_init_81 rfl (lv_at hl 0 rfl) ?_
  refine pl_new (ci := 4) (fs := [.int 0, .int 0, .int 0, .int 0]) (C := RX4) (T := TX4) (N := 4) hx hb hts (fun w h => mT (inX4 w h)) tyX4 tyX4_ok hown (hts _ (mT wg_312)) (hts _ (mT wg_313)) (hts _ (mT wg_164)) hG.1 hP hD hS hA rfl dvX4 (Nat.le_of_ble_eq_true rfl) (Nat.le_of_ble_eq_true rfl) dX10_init_82 (fun q478 H L479 f480 hq481 hs482 hm483 hf484 ho485 hP hD hS => ?_)
  have hN486 : [q478, q385, q318, q319, q277, q233, q198, q141, q90, q45, q21, q1].Nodup := List.nodup_cons.mpr ⟨fun h => hq481 (hNs394 _ h), hN393⟩
  have hNs487 : ∀ b, b ∈ [q478, q385, q318, q319, q277, q233, q198, q141, q90, q45, q21, q1] → b ∈ L479 := List.forall_mem_cons.mpr ⟨hm483, fun b hb => hs482 b (hNs394 b hb)⟩
  have hfr488 : ∀ b, b ∈ L → b ≠ x → f480 b = f b := fun b hb z0 => (ho485 b (hsb438 b hb)).trans (hfr466 b hb z0)
  have hnq490 : q478 ∉ L := fun h => hq481 (hsb438 _ h)
  have hsb489 : ∀ b, b ∈ L → b ∈ _ := fun b hb => hs482 b (hsb438 b hb)
  have hf491 := (ho485 x hm439).trans hf465
  have hn493 : x ≠ q478 := fun e => hq481 (e ▸ hm439)
  have hm492 := hs482 _ hm439
  have hf494 := (ho485 q1 hm441).trans hf467
  have hn496 : q1 ≠ q478 := fun e => hq481 (e ▸ hm441)
  have hm495 := hs482 _ hm441
  have hf497 := (ho485 q21 hm443).trans hf468
  have hn499 : q21 ≠ q478 := fun e => hq481 (e ▸ hm443)
  have hm498 := hs482 _ hm443
  have hf500 := (ho485 q45 hm445).trans hf469
  have hn502 : q45 ≠ q478 := fun e => hq481 (e ▸ hm445)
  have hm501 := hs482 _ hm445
  have hf503 := (ho485 q90 hm447).trans hf470
  have hn505 : q90 ≠ q478 := fun e => hq481 (e ▸ hm447)
  have hm504 := hs482 _ hm447
  have hf506 := (ho485 q141 hm449).trans hf471
  have hn508 : q141 ≠ q478 := fun e => hq481 (e ▸ hm449)
  have hm507 := hs482 _ hm449
  have hf509 := (ho485 q198 hm451).trans hf472
  have hn511 : q198 ≠ q478 := fun e => hq481 (e ▸ hm451)
  have hm510 := hs482 _ hm451
  have hf512 := (ho485 q233 hm453).trans hf473
  have hn514 : q233 ≠ q478 := fun e => hq481 (e ▸ hm453)
  have hm513 := hs482 _ hm453
  have hf515 := (ho485 q277 hm455).trans hf474
  have hn517 : q277 ≠ q478 := fun e => hq481 (e ▸ hm455)
  have hm516 := hs482 _ hm455
  have hf518 := (ho485 q318 hm457).trans hf475
  have hn520 : q318 ≠ q478 := fun e => hq481 (e ▸ hm457)
  have hm519 := hs482 _ hm457
  have hf521 := (ho485 q319 hm459).trans hf476
  have hn523 : q319 ≠ q478 := fun e => hq481 (e ▸ hm459)
  have hm522 := hs482 _ hm459
  have hf524 := (ho485 q385 hm461).trans hf477
  have hn526 : q385 ≠ q478 := fun e => hq481 (e ▸ hm461)
  have hm525 := hs482 _ hm461
  refine lv_dup hx hb dX10_init_85 rfl ?_
  refine call_v (run_IN (rm := { frames := 2, cells := 0, slots := 0, locals := 32 }) hx hb hml hown hts (k_X4_init l g _ _ _ q478 hm483 hf484) cI_X4_init wn_314 ⟨Nat.le_of_ble_eq_true rfl, Nat.le_of_ble_eq_true rfl⟩ hG hE hA hP hD hS rfl hl.1 (As := []) (rest := [.ref q478, .ref x]) rfl (Nat.le_of_ble_eq_true rfl) dX10_init_86 ⟨Nat.le_of_ble_eq_true rfl, Nat.le_of_ble_eq_true rfl⟩) hA hD hS (fun L528 f529 H locs hp530 hP hD hS => ?_)
  obtain ⟨fr531, sb532⟩ := hp530
  have hfr533 : ∀ b, b ∈ L → b ≠ x → f529 b = f b := fun b hb z0 => (fr531 b (hsb489 b hb) ).trans (hfr488 b hb z0)
  have hsb534 : ∀ b, b ∈ L → b ∈ L528 := fun b hb => sb532 b (hsb489 b hb)
  have hf536 := (fr531 x hm492 ).trans hf491
  have hm535 := sb532 _ hm492
  have hf538 := (fr531 q1 hm495 ).trans hf494
  have hm537 := sb532 _ hm495
  have hf540 := (fr531 q21 hm498 ).trans hf497
  have hm539 := sb532 _ hm498
  have hf542 := (fr531 q45 hm501 ).trans hf500
  have hm541 := sb532 _ hm501
  have hf544 := (fr531 q90 hm504 ).trans hf503
  have hm543 := sb532 _ hm504
  have hf546 := (fr531 q141 hm507 ).trans hf506
  have hm545 := sb532 _ hm507
  have hf548 := (fr531 q198 hm510 ).trans hf509
  have hm547 := sb532 _ hm510
  have hf550 := (fr531 q233 hm513 ).trans hf512
  have hm549 := sb532 _ hm513
  have hf552 := (fr531 q277 hm516 ).trans hf515
  have hm551 := sb532 _ hm516
  have hf554 := (fr531 q318 hm519 ).trans hf518
  have hm553 := sb532 _ hm519
  have hf556 := (fr531 q319 hm522 ).trans hf521
  have hm555 := sb532 _ hm522
  have hf558 := (fr531 q385 hm525 ).trans hf524
  have hm557 := sb532 _ hm525
  have hf560 := (fr531 q478 hm483 ).trans hf484
  have hm559 := sb532 _ hm483
  refine pl_putF (ty := (.object "RulerWord$Free")) (v := .ref q478) (fs' := [.ref q1, .ref q45, .ref q90, .ref q141, .ref q198, .ref q277, .ref q385, .ref q478, .null, .null, .null, .null, .null, .null, .null, .int 0, .int 0, .long 0]) hx hb hts (fun w h => mT (inX10 w h)) tyX10 tyX10_ok nmX10 hown hG.1 hP hD hS hm535 hf536 rfl 7 (by decide) (hts _ (mT wg_482)) (fun _ h => h) rfl hnm rfl (by decide +kernel) (rfl) (rfl) (Nat.le_of_ble_eq_true rfl) rfl dX10_init_89 (fun H locs f561 hf563 ho562 hP hD hS => ?_)
  have hfr564 : ∀ b, b ∈ L → b ≠ x → f561 b = f b := fun b hb z0 => (ho562 b z0).trans (hfr533 b hb z0)
  have hf565 := (ho562 q1 hn16.symm).trans hf538
  have hf566 := (ho562 q21 hn35.symm).trans hf540
  have hf567 := (ho562 q45 hn60.symm).trans hf542
  have hf568 := (ho562 q90 hn105.symm).trans hf544
  have hf569 := (ho562 q141 hn156.symm).trans hf546
  have hf570 := (ho562 q198 hn213.symm).trans hf548
  have hf571 := (ho562 q233 hn247.symm).trans hf550
  have hf572 := (ho562 q277 hn292.symm).trans hf552
  have hf573 := (ho562 q318 hn337.symm).trans hf554
  have hf574 := (ho562 q319 hn338.symm).trans hf556
  have hf575 := (ho562 q385 hn400.symm).trans hf558
  have hf576 := (ho562 q478 hn493.symm).trans hf560
  refine lv_aload_n hx hb dX10_init_92 rfl (lv_at hl 0 rfl) ?_
  refine pl_new (ci := 3) (fs := [.int 0, .int 0, .int 0, .int 0, .int 0, .int 0, .int 0, .long 0, .long 0, .null, .null, .null, .null, .null, .null, .null, .null, .null]) (C := RX3) (T := TX3) (N := 18) hx hb hts (fun w h => mT (inX3 w h)) tyX3 tyX3_ok hown (hts _ (mT wg_329)) (hts _ (mT wg_330)) (hts _ (mT wg_165)) hG.1 hP hD hS hA rfl dvX3 (Nat.le_of_ble_eq_true rfl) (Nat.le_of_ble_eq_true rfl) dX10_init_93 (fun q577 H L578 f579 hq580 hs581 hm582 hf583 ho584 hP hD hS => ?_)
  have hN585 : [q577, q478, q385, q318, q319, q277, q233, q198, q141, q90, q45, q21, q1].Nodup := List.nodup_cons.mpr ⟨fun h => hq580 (hNs487 _ h), hN486⟩
  have hNs586 : ∀ b, b ∈ [q577, q478, q385, q318, q319, q277, q233, q198, q141, q90, q45, q21, q1] → b ∈ L578 := List.forall_mem_cons.mpr ⟨hm582, fun b hb => hs581 b (hNs487 b hb)⟩
  have hfr587 : ∀ b, b ∈ L → b ≠ x → f579 b = f b := fun b hb z0 => (ho584 b (hsb534 b hb)).trans (hfr564 b hb z0)
  have hnq589 : q577 ∉ L := fun h => hq580 (hsb534 _ h)
  have hsb588 : ∀ b, b ∈ L → b ∈ _ := fun b hb => hs581 b (hsb534 b hb)
  have hf590 := (ho584 x hm535).trans hf563
  have hn592 : x ≠ q577 := fun e => hq580 (e ▸ hm535)
  have hm591 := hs581 _ hm535
  have hf593 := (ho584 q1 hm537).trans hf565
  have hn595 : q1 ≠ q577 := fun e => hq580 (e ▸ hm537)
  have hm594 := hs581 _ hm537
  have hf596 := (ho584 q21 hm539).trans hf566
  have hn598 : q21 ≠ q577 := fun e => hq580 (e ▸ hm539)
  have hm597 := hs581 _ hm539
  have hf599 := (ho584 q45 hm541).trans hf567
  have hn601 : q45 ≠ q577 := fun e => hq580 (e ▸ hm541)
  have hm600 := hs581 _ hm541
  have hf602 := (ho584 q90 hm543).trans hf568
  have hn604 : q90 ≠ q577 := fun e => hq580 (e ▸ hm543)
  have hm603 := hs581 _ hm543
  have hf605 := (ho584 q141 hm545).trans hf569
  have hn607 : q141 ≠ q577 := fun e => hq580 (e ▸ hm545)
  have hm606 := hs581 _ hm545
  have hf608 := (ho584 q198 hm547).trans hf570
  have hn610 : q198 ≠ q577 := fun e => hq580 (e ▸ hm547)
  have hm609 := hs581 _ hm547
  have hf611 := (ho584 q233 hm549).trans hf571
  have hn613 : q233 ≠ q577 := fun e => hq580 (e ▸ hm549)
  have hm612 := hs581 _ hm549
  have hf614 := (ho584 q277 hm551).trans hf572
  have hn616 : q277 ≠ q577 := fun e => hq580 (e ▸ hm551)
  have hm615 := hs581 _ hm551
  have hf617 := (ho584 q318 hm553).trans hf573
  have hn619 : q318 ≠ q577 := fun e => hq580 (e ▸ hm553)
  have hm618 := hs581 _ hm553
  have hf620 := (ho584 q319 hm555).trans hf574
  have hn622 : q319 ≠ q577 := fun e => hq580 (e ▸ hm555)
  have hm621 := hs581 _ hm555
  have hf623 := (ho584 q385 hm557).trans hf575
  have hn625 : q385 ≠ q577 := fun e => hq580 (e ▸ hm557)
  have hm624 := hs581 _ hm557
  have hf626 := (ho584 q478 hm559).trans hf576
  have hn628 : q478 ≠ q577 := fun e => hq580 (e ▸ hm559)
  have hm627 := hs581 _ hm559
  refine lv_dup hx hb dX10_init_96 rfl ?_
  refine call_v (run_IN (rm := { frames := 1, cells := 9, slots := 258, locals := 12 }) hx hb hml hown hts (k_X3_init l g _ _ _ q577 hm582 hf583) cI_X3_init wn_331 ⟨Nat.le_of_ble_eq_true rfl, Nat.le_of_ble_eq_true rfl⟩ hG hE hA hP hD hS rfl hl.1 (As := []) (rest := [.ref q577, .ref x]) rfl (Nat.le_of_ble_eq_true rfl) dX10_init_97 ⟨Nat.le_of_ble_eq_true rfl, Nat.le_of_ble_eq_true rfl⟩) hA hD hS (fun L630 f631 H locs hp632 hP hD hS => ?_)
  obtain ⟨q633, q634, q635, q636, q637, q638, q639, q640, q641, hn642, hm643, hf644, hn645, hm646, hf647, hn648, hm649, hf650, hn651, hm652, hf653, hn654, hm655, hf656, hn657, hm658, hf659, hn660, hm661, hf662, hn663, hm664, hf665, hn666, hm667, hf668, hf669, er670, fr671, sb672⟩ := hp632
  have hN673 : [q633, q634, q635, q636, q637, q638, q639, q640, q641, q577, q478, q385, q318, q319, q277, q233, q198, q141, q90, q45, q21, q1].Nodup := nd_app (l := [q633, q634, q635, q636, q637, q638, q639, q640, q641]) (k := [q577, q478, q385, q318, q319, q277, q233, q198, q141, q90, q45, q21, q1]) er670 (List.forall_mem_cons.mpr ⟨hn642, (List.forall_mem_cons.mpr ⟨hn645, (List.forall_mem_cons.mpr ⟨hn648, (List.forall_mem_cons.mpr ⟨hn651, (List.forall_mem_cons.mpr ⟨hn654, (List.forall_mem_cons.mpr ⟨hn657, (List.forall_mem_cons.mpr ⟨hn660, (List.forall_mem_cons.mpr ⟨hn663, (List.forall_mem_cons.mpr ⟨hn666, (fun _ h => absurd h List.not_mem_nil)⟩)⟩)⟩)⟩)⟩)⟩)⟩)⟩)⟩) hN585 hNs586
  have hNs674 : ∀ b, b ∈ [q633, q634, q635, q636, q637, q638, q639, q640, q641, q577, q478, q385, q318, q319, q277, q233, q198, q141, q90, q45, q21, q1] → b ∈ L630 := fm_app (l := [q633, q634, q635, q636, q637, q638, q639, q640, q641]) (k := [q577, q478, q385, q318, q319, q277, q233, q198, q141, q90, q45, q21, q1]) (List.forall_mem_cons.mpr ⟨hm643, (List.forall_mem_cons.mpr ⟨hm646, (List.forall_mem_cons.mpr ⟨hm649, (List.forall_mem_cons.mpr ⟨hm652, (List.forall_mem_cons.mpr ⟨hm655, (List.forall_mem_cons.mpr ⟨hm658, (List.forall_mem_cons.mpr ⟨hm661, (List.forall_mem_cons.mpr ⟨hm664, (List.forall_mem_cons.mpr ⟨hm667, (fun _ h => absurd h List.not_mem_nil)⟩)⟩)⟩)⟩)⟩)⟩)⟩)⟩)⟩) (fun b hb => sb672 b (hNs586 b hb))
  have hfr675 : ∀ b, b ∈ L → b ≠ x → f631 b = f b := fun b hb z0 => (fr671 b (hsb588 b hb) (fun e => hnq589 (e ▸ hb))).trans (hfr587 b hb z0)
  have hnq677 : q633 ∉ L := fun h => hn642 (hsb588 _ h)
  have hnq678 : q634 ∉ L := fun h => hn645 (hsb588 _ h)
  have hnq679 : q635 ∉ L := fun h => hn648 (hsb588 _ h)
  have hnq680 : q636 ∉ L := fun h => hn651 (hsb588 _ h)
  have hnq681 : q637 ∉ L := fun h => hn654 (hsb588 _ h)
  have hnq682 : q638 ∉ L := fun h => hn657 (hsb588 _ h)
  have hnq683 : q639 ∉ L := fun h => hn660 (hsb588 _ h)
  have hnq684 : q640 ∉ L := fun h => hn663 (hsb588 _ h)
  have hnq685 : q641 ∉ L := fun h => hn666 (hsb588 _ h)
  have hsb676 : ∀ b, b ∈ L → b ∈ L630 := fun b hb => sb672 b (hsb588 b hb)
  have hn687 : x ≠ q633 := fun e => hn642 (e ▸ hm591)
  have hn688 : x ≠ q634 := fun e => hn645 (e ▸ hm591)
  have hn689 : x ≠ q635 := fun e => hn648 (e ▸ hm591)
  have hn690 : x ≠ q636 := fun e => hn651 (e ▸ hm591)
  have hn691 : x ≠ q637 := fun e => hn654 (e ▸ hm591)
  have hn692 : x ≠ q638 := fun e => hn657 (e ▸ hm591)
  have hn693 : x ≠ q639 := fun e => hn660 (e ▸ hm591)
  have hn694 : x ≠ q640 := fun e => hn663 (e ▸ hm591)
  have hn695 : x ≠ q641 := fun e => hn666 (e ▸ hm591)
  have hf696 := (fr671 x hm591 hn592).trans hf590
  have hm686 := sb672 _ hm591
  have hn698 : q1 ≠ q633 := fun e => hn642 (e ▸ hm594)
  have hn699 : q1 ≠ q634 := fun e => hn645 (e ▸ hm594)
  have hn700 : q1 ≠ q635 := fun e => hn648 (e ▸ hm594)
  have hn701 : q1 ≠ q636 := fun e => hn651 (e ▸ hm594)
  have hn702 : q1 ≠ q637 := fun e => hn654 (e ▸ hm594)
  have hn703 : q1 ≠ q638 := fun e => hn657 (e ▸ hm594)
  have hn704 : q1 ≠ q639 := fun e => hn660 (e ▸ hm594)
  have hn705 : q1 ≠ q640 := fun e => hn663 (e ▸ hm594)
  have hn706 : q1 ≠ q641 := fun e => hn666 (e ▸ hm594)
  have hf707 := (fr671 q1 hm594 hn595).trans hf593
  have hm697 := sb672 _ hm594
  have hn709 : q21 ≠ q633 := fun e => hn642 (e ▸ hm597)
  have hn710 : q21 ≠ q634 := fun e => hn645 (e ▸ hm597)
  have hn711 : q21 ≠ q635 := fun e => hn648 (e ▸ hm597)
  have hn712 : q21 ≠ q636 := fun e => hn651 (e ▸ hm597)
  have hn713 : q21 ≠ q637 := fun e => hn654 (e ▸ hm597)
  have hn714 : q21 ≠ q638 := fun e => hn657 (e ▸ hm597)
  have hn715 : q21 ≠ q639 := fun e => hn660 (e ▸ hm597)
  have hn716 : q21 ≠ q640 := fun e => hn663 (e ▸ hm597)
  have hn717 : q21 ≠ q641 := fun e => hn666 (e ▸ hm597)
  have hf718 := (fr671 q21 hm597 hn598).trans hf596
  have hm708 := sb672 _ hm597
  have hn720 : q45 ≠ q633 := fun e => hn642 (e ▸ hm600)
  have hn721 : q45 ≠ q634 := fun e => hn645 (e ▸ hm600)
  have hn722 : q45 ≠ q635 := fun e => hn648 (e ▸ hm600)
  have hn723 : q45 ≠ q636 := fun e => hn651 (e ▸ hm600)
  have hn724 : q45 ≠ q637 := fun e => hn654 (e ▸ hm600)
  have hn725 : q45 ≠ q638 := fun e => hn657 (e ▸ hm600)
  have hn726 : q45 ≠ q639 := fun e => hn660 (e ▸ hm600)
  have hn727 : q45 ≠ q640 := fun e => hn663 (e ▸ hm600)
  have hn728 : q45 ≠ q641 := fun e => hn666 (e ▸ hm600)
  have hf729 := (fr671 q45 hm600 hn601).trans hf599
  have hm719 := sb672 _ hm600
  have hn731 : q90 ≠ q633 := fun e => hn642 (e ▸ hm603)
  have hn732 : q90 ≠ q634 := fun e => hn645 (e ▸ hm603)
  have hn733 : q90 ≠ q635 := fun e => hn648 (e ▸ hm603)
  have hn734 : q90 ≠ q636 := fun e => hn651 (e ▸ hm603)
  have hn735 : q90 ≠ q637 := fun e => hn654 (e ▸ hm603)
  have hn736 : q90 ≠ q638 := fun e => hn657 (e ▸ hm603)
  have hn737 : q90 ≠ q639 := fun e => hn660 (e ▸ hm603)
  have hn738 : q90 ≠ q640 := fun e => hn663 (e ▸ hm603)
  have hn739 : q90 ≠ q641 := fun e => hn666 (e ▸ hm603)
  have hf740 := (fr671 q90 hm603 hn604).trans hf602
  have hm730 := sb672 _ hm603
  have hn742 : q141 ≠ q633 := fun e => hn642 (e ▸ hm606)
  have hn743 : q141 ≠ q634 := fun e => hn645 (e ▸ hm606)
  have hn744 : q141 ≠ q635 := fun e => hn648 (e ▸ hm606)
  have hn745 : q141 ≠ q636 := fun e => hn651 (e ▸ hm606)
  have hn746 : q141 ≠ q637 := fun e => hn654 (e ▸ hm606)
  have hn747 : q141 ≠ q638 := fun e => hn657 (e ▸ hm606)
  have hn748 : q141 ≠ q639 := fun e => hn660 (e ▸ hm606)
  have hn749 : q141 ≠ q640 := fun e => hn663 (e ▸ hm606)
  have hn750 : q141 ≠ q641 := fun e => hn666 (e ▸ hm606)
  have hf751 := (fr671 q141 hm606 hn607).trans hf605
  have hm741 := sb672 _ hm606
  have hn753 : q198 ≠ q633 := fun e => hn642 (e ▸ hm609)
  have hn754 : q198 ≠ q634 := fun e => hn645 (e ▸ hm609)
  have hn755 : q198 ≠ q635 := fun e => hn648 (e ▸ hm609)
  have hn756 : q198 ≠ q636 := fun e => hn651 (e ▸ hm609)
  have hn757 : q198 ≠ q637 := fun e => hn654 (e ▸ hm609)
  have hn758 : q198 ≠ q638 := fun e => hn657 (e ▸ hm609)
  have hn759 : q198 ≠ q639 := fun e => hn660 (e ▸ hm609)
  have hn760 : q198 ≠ q640 := fun e => hn663 (e ▸ hm609)
  have hn761 : q198 ≠ q641 := fun e => hn666 (e ▸ hm609)
  have hf762 := (fr671 q198 hm609 hn610).trans hf608
  have hm752 := sb672 _ hm609
  have hn764 : q233 ≠ q633 := fun e => hn642 (e ▸ hm612)
  have hn765 : q233 ≠ q634 := fun e => hn645 (e ▸ hm612)
  have hn766 : q233 ≠ q635 := fun e => hn648 (e ▸ hm612)
  have hn767 : q233 ≠ q636 := fun e => hn651 (e ▸ hm612)
  have hn768 : q233 ≠ q637 := fun e => hn654 (e ▸ hm612)
  have hn769 : q233 ≠ q638 := fun e => hn657 (e ▸ hm612)
  have hn770 : q233 ≠ q639 := fun e => hn660 (e ▸ hm612)
  have hn771 : q233 ≠ q640 := fun e => hn663 (e ▸ hm612)
  have hn772 : q233 ≠ q641 := fun e => hn666 (e ▸ hm612)
  have hf773 := (fr671 q233 hm612 hn613).trans hf611
  have hm763 := sb672 _ hm612
  have hn775 : q277 ≠ q633 := fun e => hn642 (e ▸ hm615)
  have hn776 : q277 ≠ q634 := fun e => hn645 (e ▸ hm615)
  have hn777 : q277 ≠ q635 := fun e => hn648 (e ▸ hm615)
  have hn778 : q277 ≠ q636 := fun e => hn651 (e ▸ hm615)
  have hn779 : q277 ≠ q637 := fun e => hn654 (e ▸ hm615)
  have hn780 : q277 ≠ q638 := fun e => hn657 (e ▸ hm615)
  have hn781 : q277 ≠ q639 := fun e => hn660 (e ▸ hm615)
  have hn782 : q277 ≠ q640 := fun e => hn663 (e ▸ hm615)
  have hn783 : q277 ≠ q641 := fun e => hn666 (e ▸ hm615)
  have hf784 := (fr671 q277 hm615 hn616).trans hf614
  have hm774 := sb672 _ hm615
  have hn786 : q318 ≠ q633 := fun e => hn642 (e ▸ hm618)
  have hn787 : q318 ≠ q634 := fun e => hn645 (e ▸ hm618)
  have hn788 : q318 ≠ q635 := fun e => hn648 (e ▸ hm618)
  have hn789 : q318 ≠ q636 := fun e => hn651 (e ▸ hm618)
  have hn790 : q318 ≠ q637 := fun e => hn654 (e ▸ hm618)
  have hn791 : q318 ≠ q638 := fun e => hn657 (e ▸ hm618)
  have hn792 : q318 ≠ q639 := fun e => hn660 (e ▸ hm618)
  have hn793 : q318 ≠ q640 := fun e => hn663 (e ▸ hm618)
  have hn794 : q318 ≠ q641 := fun e => hn666 (e ▸ hm618)
  have hf795 := (fr671 q318 hm618 hn619).trans hf617
  have hm785 := sb672 _ hm618
  have hn797 : q319 ≠ q633 := fun e => hn642 (e ▸ hm621)
  have hn798 : q319 ≠ q634 := fun e => hn645 (e ▸ hm621)
  have hn799 : q319 ≠ q635 := fun e => hn648 (e ▸ hm621)
  have hn800 : q319 ≠ q636 := fun e => hn651 (e ▸ hm621)
  have hn801 : q319 ≠ q637 := fun e => hn654 (e ▸ hm621)
  have hn802 : q319 ≠ q638 := fun e => hn657 (e ▸ hm621)
  have hn803 : q319 ≠ q639 := fun e => hn660 (e ▸ hm621)
  have hn804 : q319 ≠ q640 := fun e => hn663 (e ▸ hm621)
  have hn805 : q319 ≠ q641 := fun e => hn666 (e ▸ hm621)
  have hf806 := (fr671 q319 hm621 hn622).trans hf620
  have hm796 := sb672 _ hm621
  have hn808 : q385 ≠ q633 := fun e => hn642 (e ▸ hm624)
  have hn809 : q385 ≠ q634 := fun e => hn645 (e ▸ hm624)
  have hn810 : q385 ≠ q635 := fun e => hn648 (e ▸ hm624)
  have hn811 : q385 ≠ q636 := fun e => hn651 (e ▸ hm624)
  have hn812 : q385 ≠ q637 := fun e => hn654 (e ▸ hm624)
  have hn813 : q385 ≠ q638 := fun e => hn657 (e ▸ hm624)
  have hn814 : q385 ≠ q639 := fun e => hn660 (e ▸ hm624)
  have hn815 : q385 ≠ q640 := fun e => hn663 (e ▸ hm624)
  have hn816 : q385 ≠ q641 := fun e => hn666 (e ▸ hm624)
  have hf817 := (fr671 q385 hm624 hn625).trans hf623
  have hm807 := sb672 _ hm624
  have hn819 : q478 ≠ q633 := fun e => hn642 (e ▸ hm627)
  have hn820 : q478 ≠ q634 := fun e => hn645 (e ▸ hm627)
  have hn821 : q478 ≠ q635 := fun e => hn648 (e ▸ hm627)
  have hn822 : q478 ≠ q636 := fun e => hn651 (e ▸ hm627)
  have hn823 : q478 ≠ q637 := fun e => hn654 (e ▸ hm627)
  have hn824 : q478 ≠ q638 := fun e => hn657 (e ▸ hm627)
  have hn825 : q478 ≠ q639 := fun e => hn660 (e ▸ hm627)
  have hn826 : q478 ≠ q640 := fun e => hn663 (e ▸ hm627)
  have hn827 : q478 ≠ q641 := fun e => hn666 (e ▸ hm627)
  have hf828 := (fr671 q478 hm627 hn628).trans hf626
  have hm818 := sb672 _ hm627
  have hn830 : q577 ≠ q633 := fun e => hn642 (e ▸ hm582)
  have hn831 : q577 ≠ q634 := fun e => hn645 (e ▸ hm582)
  have hn832 : q577 ≠ q635 := fun e => hn648 (e ▸ hm582)
  have hn833 : q577 ≠ q636 := fun e => hn651 (e ▸ hm582)
  have hn834 : q577 ≠ q637 := fun e => hn654 (e ▸ hm582)
  have hn835 : q577 ≠ q638 := fun e => hn657 (e ▸ hm582)
  have hn836 : q577 ≠ q639 := fun e => hn660 (e ▸ hm582)
  have hn837 : q577 ≠ q640 := fun e => hn663 (e ▸ hm582)
  have hn838 : q577 ≠ q641 := fun e => hn666 (e ▸ hm582)
  have hm829 := sb672 _ hm582
  refine pl_putF (ty := (.object "RulerWord$Course")) (v := .ref q577) (fs' := [.ref q1, .ref q45, .ref q90, .ref q141, .ref q198, .ref q277, .ref q385, .ref q478, .ref q577, .null, .null, .null, .null, .null, .null, .int 0, .int 0, .long 0]) hx hb hts (fun w h => mT (inX10 w h)) tyX10 tyX10_ok nmX10 hown hG.1 hP hD hS hm686 hf696 rfl 8 (by decide) (hts _ (mT wg_483)) (fun _ h => h) rfl hnm rfl (by decide +kernel) (rfl) (rfl) (Nat.le_of_ble_eq_true rfl) rfl dX10_init_100 (fun H locs f839 hf841 ho840 hP hD hS => ?_)
  have hfr842 : ∀ b, b ∈ L → b ≠ x → f839 b = f b := fun b hb z0 => (ho840 b z0).trans (hfr675 b hb z0)
  have hf843 := (ho840 q1 hn16.symm).trans hf707
  have hf844 := (ho840 q21 hn35.symm).trans hf718
  have hf845 := (ho840 q45 hn60.symm).trans hf729
  have hf846 := (ho840 q90 hn105.symm).trans hf740
  have hf847 := (ho840 q141 hn156.symm).trans hf751
  have hf848 := (ho840 q198 hn213.symm).trans hf762
  have hf849 := (ho840 q233 hn247.symm).trans hf773
  have hf850 := (ho840 q277 hn292.symm).trans hf784
  have hf851 := (ho840 q318 hn337.symm).trans hf795
  have hf852 := (ho840 q319 hn338.symm).trans hf806
  have hf853 := (ho840 q385 hn400.symm).trans hf817
  have hf854 := (ho840 q478 hn493.symm).trans hf828
  have hf855 := (ho840 q577 hn592.symm).trans hf669
  have hf856 := (ho840 q633 hn687.symm).trans hf644
  have hf857 := (ho840 q634 hn688.symm).trans hf647
  have hf858 := (ho840 q635 hn689.symm).trans hf650
  have hf859 := (ho840 q636 hn690.symm).trans hf653
  have hf860 := (ho840 q637 hn691.symm).trans hf656
  have hf861 := (ho840 q638 hn692.symm).trans hf659
  have hf862 := (ho840 q639 hn693.symm).trans hf662
  have hf863 := (ho840 q640 hn694.symm).trans hf665
  have hf864 := (ho840 q641 hn695.symm).trans hf668
  refine lv_aload_n hx hb dX10_init_103 rfl (lv_at hl 0 rfl) ?_
  refine pl_new (ci := 3) (fs := [.int 0, .int 0, .int 0, .int 0, .int 0, .int 0, .int 0, .long 0, .long 0, .null, .null, .null, .null, .null, .null, .null, .null, .null]) (C := RX3) (T := TX3) (N := 18) hx hb hts (fun w h => mT (inX3 w h)) tyX3 tyX3_ok hown (hts _ (mT wg_329)) (hts _ (mT wg_330)) (hts _ (mT wg_165)) hG.1 hP hD hS hA rfl dvX3 (Nat.le_of_ble_eq_true rfl) (Nat.le_of_ble_eq_true rfl) dX10_init_104 (fun q865 H L866 f867 hq868 hs869 hm870 hf871 ho872 hP hD hS => ?_)
  have hN873 : [q865, q633, q634, q635, q636, q637, q638, q639, q640, q641, q577, q478, q385, q318, q319, q277, q233, q198, q141, q90, q45, q21, q1].Nodup := List.nodup_cons.mpr ⟨fun h => hq868 (hNs674 _ h), hN673⟩
  have hNs874 : ∀ b, b ∈ [q865, q633, q634, q635, q636, q637, q638, q639, q640, q641, q577, q478, q385, q318, q319, q277, q233, q198, q141, q90, q45, q21, q1] → b ∈ L866 := List.forall_mem_cons.mpr ⟨hm870, fun b hb => hs869 b (hNs674 b hb)⟩
  have hfr875 : ∀ b, b ∈ L → b ≠ x → f867 b = f b := fun b hb z0 => (ho872 b (hsb676 b hb)).trans (hfr842 b hb z0)
  have hnq877 : q865 ∉ L := fun h => hq868 (hsb676 _ h)
  have hsb876 : ∀ b, b ∈ L → b ∈ _ := fun b hb => hs869 b (hsb676 b hb)
  have hf878 := (ho872 x hm686).trans hf841
  have hn880 : x ≠ q865 := fun e => hq868 (e ▸ hm686)
  have hm879 := hs869 _ hm686
  have hf881 := (ho872 q1 hm697).trans hf843
  have hn883 : q1 ≠ q865 := fun e => hq868 (e ▸ hm697)
  have hm882 := hs869 _ hm697
  have hf884 := (ho872 q21 hm708).trans hf844
  have hn886 : q21 ≠ q865 := fun e => hq868 (e ▸ hm708)
  have hm885 := hs869 _ hm708
  have hf887 := (ho872 q45 hm719).trans hf845
  have hn889 : q45 ≠ q865 := fun e => hq868 (e ▸ hm719)
  have hm888 := hs869 _ hm719
  have hf890 := (ho872 q90 hm730).trans hf846
  have hn892 : q90 ≠ q865 := fun e => hq868 (e ▸ hm730)
  have hm891 := hs869 _ hm730
  have hf893 := (ho872 q141 hm741).trans hf847
  have hn895 : q141 ≠ q865 := fun e => hq868 (e ▸ hm741)
  have hm894 := hs869 _ hm741
  have hf896 := (ho872 q198 hm752).trans hf848
  have hn898 : q198 ≠ q865 := fun e => hq868 (e ▸ hm752)
  have hm897 := hs869 _ hm752
  have hf899 := (ho872 q233 hm763).trans hf849
  have hn901 : q233 ≠ q865 := fun e => hq868 (e ▸ hm763)
  have hm900 := hs869 _ hm763
  have hf902 := (ho872 q277 hm774).trans hf850
  have hn904 : q277 ≠ q865 := fun e => hq868 (e ▸ hm774)
  have hm903 := hs869 _ hm774
  have hf905 := (ho872 q318 hm785).trans hf851
  have hn907 : q318 ≠ q865 := fun e => hq868 (e ▸ hm785)
  have hm906 := hs869 _ hm785
  have hf908 := (ho872 q319 hm796).trans hf852
  have hn910 : q319 ≠ q865 := fun e => hq868 (e ▸ hm796)
  have hm909 := hs869 _ hm796
  have hf911 := (ho872 q385 hm807).trans hf853
  have hn913 : q385 ≠ q865 := fun e => hq868 (e ▸ hm807)
  have hm912 := hs869 _ hm807
  have hf914 := (ho872 q478 hm818).trans hf854
  have hn916 : q478 ≠ q865 := fun e => hq868 (e ▸ hm818)
  have hm915 := hs869 _ hm818
  have hf917 := (ho872 q577 hm829).trans hf855
  have hn919 : q577 ≠ q865 := fun e => hq868 (e ▸ hm829)
  have hm918 := hs869 _ hm829
  have hf920 := (ho872 q633 hm643).trans hf856
  have hn922 : q633 ≠ q865 := fun e => hq868 (e ▸ hm643)
  have hm921 := hs869 _ hm643
  have hf923 := (ho872 q634 hm646).trans hf857
  have hn925 : q634 ≠ q865 := fun e => hq868 (e ▸ hm646)
  have hm924 := hs869 _ hm646
  have hf926 := (ho872 q635 hm649).trans hf858
  have hn928 : q635 ≠ q865 := fun e => hq868 (e ▸ hm649)
  have hm927 := hs869 _ hm649
  have hf929 := (ho872 q636 hm652).trans hf859
  have hn931 : q636 ≠ q865 := fun e => hq868 (e ▸ hm652)
  have hm930 := hs869 _ hm652
  have hf932 := (ho872 q637 hm655).trans hf860
  have hn934 : q637 ≠ q865 := fun e => hq868 (e ▸ hm655)
  have hm933 := hs869 _ hm655
  have hf935 := (ho872 q638 hm658).trans hf861
  have hn937 : q638 ≠ q865 := fun e => hq868 (e ▸ hm658)
  have hm936 := hs869 _ hm658
  have hf938 := (ho872 q639 hm661).trans hf862
  have hn940 : q639 ≠ q865 := fun e => hq868 (e ▸ hm661)
  have hm939 := hs869 _ hm661
  have hf941 := (ho872 q640 hm664).trans hf863
  have hn943 : q640 ≠ q865 := fun e => hq868 (e ▸ hm664)
  have hm942 := hs869 _ hm664
  have hf944 := (ho872 q641 hm667).trans hf864
  have hn946 : q641 ≠ q865 := fun e => hq868 (e ▸ hm667)
  have hm945 := hs869 _ hm667
  refine lv_dup hx hb dX10_init_107 rfl ?_
  refine call_v (run_IN (rm := { frames := 1, cells := 9, slots := 258, locals := 12 }) hx hb hml hown hts (k_X3_init l g _ _ _ q865 hm870 hf871) cI_X3_init wn_331 ⟨Nat.le_of_ble_eq_true rfl, Nat.le_of_ble_eq_true rfl⟩ hG hE hA hP hD hS rfl hl.1 (As := []) (rest := [.ref q865, .ref x]) rfl (Nat.le_of_ble_eq_true rfl) dX10_init_108 ⟨Nat.le_of_ble_eq_true rfl, Nat.le_of_ble_eq_true rfl⟩) hA hD hS (fun L948 f949 H locs hp950 hP hD hS => ?_)
  obtain ⟨q951, q952, q953, q954, q955, q956, q957, q958, q959, hn960, hm961, hf962, hn963, hm964, hf965, hn966, hm967, hf968, hn969, hm970, hf971, hn972, hm973, hf974, hn975, hm976, hf977, hn978, hm979, hf980, hn981, hm982, hf983, hn984, hm985, hf986, hf987, er988, fr989, sb990⟩ := hp950
  have hN991 : [q951, q952, q953, q954, q955, q956, q957, q958, q959, q865, q633, q634, q635, q636, q637, q638, q639, q640, q641, q577, q478, q385, q318, q319, q277, q233, q198, q141, q90, q45, q21, q1].Nodup := nd_app (l := [q951, q952, q953, q954, q955, q956, q957, q958, q959]) (k := [q865, q633, q634, q635, q636, q637, q638, q639, q640, q641, q577, q478, q385, q318, q319, q277, q233, q198, q141, q90, q45, q21, q1]) er988 (List.forall_mem_cons.mpr ⟨hn960, (List.forall_mem_cons.mpr ⟨hn963, (List.forall_mem_cons.mpr ⟨hn966, (List.forall_mem_cons.mpr ⟨hn969, (List.forall_mem_cons.mpr ⟨hn972, (List.forall_mem_cons.mpr ⟨hn975, (List.forall_mem_cons.mpr ⟨hn978, (List.forall_mem_cons.mpr ⟨hn981, (List.forall_mem_cons.mpr ⟨hn984, (fun _ h => absurd h List.not_mem_nil)⟩)⟩)⟩)⟩)⟩)⟩)⟩)⟩)⟩) hN873 hNs874
  have hNs992 : ∀ b, b ∈ [q951, q952, q953, q954, q955, q956, q957, q958, q959, q865, q633, q634, q635, q636, q637, q638, q639, q640, q641, q577, q478, q385, q318, q319, q277, q233, q198, q141, q90, q45, q21, q1] → b ∈ L948 := fm_app (l := [q951, q952, q953, q954, q955, q956, q957, q958, q959]) (k := [q865, q633, q634, q635, q636, q637, q638, q639, q640, q641, q577, q478, q385, q318, q319, q277, q233, q198, q141, q90, q45, q21, q1]) (List.forall_mem_cons.mpr ⟨hm961, (List.forall_mem_cons.mpr ⟨hm964, (List.forall_mem_cons.mpr ⟨hm967, (List.forall_mem_cons.mpr ⟨hm970, (List.forall_mem_cons.mpr ⟨hm973, (List.forall_mem_cons.mpr ⟨hm976, (List.forall_mem_cons.mpr ⟨hm979, (List.forall_mem_cons.mpr ⟨hm982, (List.forall_mem_cons.mpr ⟨hm985, (fun _ h => absurd h List.not_mem_nil)⟩)⟩)⟩)⟩)⟩)⟩)⟩)⟩)⟩) (fun b hb => sb990 b (hNs874 b hb))
  have hfr993 : ∀ b, b ∈ L → b ≠ x → f949 b = f b := fun b hb z0 => (fr989 b (hsb876 b hb) (fun e => hnq877 (e ▸ hb))).trans (hfr875 b hb z0)
  have hnq995 : q951 ∉ L := fun h => hn960 (hsb876 _ h)
  have hnq996 : q952 ∉ L := fun h => hn963 (hsb876 _ h)
  have hnq997 : q953 ∉ L := fun h => hn966 (hsb876 _ h)
  have hnq998 : q954 ∉ L := fun h => hn969 (hsb876 _ h)
  have hnq999 : q955 ∉ L := fun h => hn972 (hsb876 _ h)
  have hnq1000 : q956 ∉ L := fun h => hn975 (hsb876 _ h)
  have hnq1001 : q957 ∉ L := fun h => hn978 (hsb876 _ h)
  have hnq1002 : q958 ∉ L := fun h => hn981 (hsb876 _ h)
  have hnq1003 : q959 ∉ L := fun h => hn984 (hsb876 _ h)
  have hsb994 : ∀ b, b ∈ L → b ∈ L948 := fun b hb => sb990 b (hsb876 b hb)
  have hn1005 : x ≠ q951 := fun e => hn960 (e ▸ hm879)
  have hn1006 : x ≠ q952 := fun e => hn963 (e ▸ hm879)
  have hn1007 : x ≠ q953 := fun e => hn966 (e ▸ hm879)
  have hn1008 : x ≠ q954 := fun e => hn969 (e ▸ hm879)
  have hn1009 : x ≠ q955 := fun e => hn972 (e ▸ hm879)
  have hn1010 : x ≠ q956 := fun e => hn975 (e ▸ hm879)
  have hn1011 : x ≠ q957 := fun e => hn978 (e ▸ hm879)
  have hn1012 : x ≠ q958 := fun e => hn981 (e ▸ hm879)
  have hn1013 : x ≠ q959 := fun e => hn984 (e ▸ hm879)
  have hf1014 := (fr989 x hm879 hn880).trans hf878
  have hm1004 := sb990 _ hm879
  have hn1016 : q1 ≠ q951 := fun e => hn960 (e ▸ hm882)
  have hn1017 : q1 ≠ q952 := fun e => hn963 (e ▸ hm882)
  have hn1018 : q1 ≠ q953 := fun e => hn966 (e ▸ hm882)
  have hn1019 : q1 ≠ q954 := fun e => hn969 (e ▸ hm882)
  have hn1020 : q1 ≠ q955 := fun e => hn972 (e ▸ hm882)
  have hn1021 : q1 ≠ q956 := fun e => hn975 (e ▸ hm882)
  have hn1022 : q1 ≠ q957 := fun e => hn978 (e ▸ hm882)
  have hn1023 : q1 ≠ q958 := fun e => hn981 (e ▸ hm882)
  have hn1024 : q1 ≠ q959 := fun e => hn984 (e ▸ hm882)
  have hf1025 := (fr989 q1 hm882 hn883).trans hf881
  have hm1015 := sb990 _ hm882
  have hn1027 : q21 ≠ q951 := fun e => hn960 (e ▸ hm885)
  have hn1028 : q21 ≠ q952 := fun e => hn963 (e ▸ hm885)
  have hn1029 : q21 ≠ q953 := fun e => hn966 (e ▸ hm885)
  have hn1030 : q21 ≠ q954 := fun e => hn969 (e ▸ hm885)
  have hn1031 : q21 ≠ q955 := fun e => hn972 (e ▸ hm885)
  have hn1032 : q21 ≠ q956 := fun e => hn975 (e ▸ hm885)
  have hn1033 : q21 ≠ q957 := fun e => hn978 (e ▸ hm885)
  have hn1034 : q21 ≠ q958 := fun e => hn981 (e ▸ hm885)
  have hn1035 : q21 ≠ q959 := fun e => hn984 (e ▸ hm885)
  have hf1036 := (fr989 q21 hm885 hn886).trans hf884
  have hm1026 := sb990 _ hm885
  have hn1038 : q45 ≠ q951 := fun e => hn960 (e ▸ hm888)
  have hn1039 : q45 ≠ q952 := fun e => hn963 (e ▸ hm888)
  have hn1040 : q45 ≠ q953 := fun e => hn966 (e ▸ hm888)
  have hn1041 : q45 ≠ q954 := fun e => hn969 (e ▸ hm888)
  have hn1042 : q45 ≠ q955 := fun e => hn972 (e ▸ hm888)
  have hn1043 : q45 ≠ q956 := fun e => hn975 (e ▸ hm888)
  have hn1044 : q45 ≠ q957 := fun e => hn978 (e ▸ hm888)
  have hn1045 : q45 ≠ q958 := fun e => hn981 (e ▸ hm888)
  have hn1046 : q45 ≠ q959 := fun e => hn984 (e ▸ hm888)
  have hf1047 := (fr989 q45 hm888 hn889).trans hf887
  have hm1037 := sb990 _ hm888
  have hn1049 : q90 ≠ q951 := fun e => hn960 (e ▸ hm891)
  have hn1050 : q90 ≠ q952 := fun e => hn963 (e ▸ hm891)
  have hn1051 : q90 ≠ q953 := fun e => hn966 (e ▸ hm891)
  have hn1052 : q90 ≠ q954 := fun e => hn969 (e ▸ hm891)
  have hn1053 : q90 ≠ q955 := fun e => hn972 (e ▸ hm891)
  have hn1054 : q90 ≠ q956 := fun e => hn975 (e ▸ hm891)
  have hn1055 : q90 ≠ q957 := fun e => hn978 (e ▸ hm891)
  have hn1056 : q90 ≠ q958 := fun e => hn981 (e ▸ hm891)
  have hn1057 : q90 ≠ q959 := fun e => hn984 (e ▸ hm891)
  have hf1058 := (fr989 q90 hm891 hn892).trans hf890
  have hm1048 := sb990 _ hm891
  have hn1060 : q141 ≠ q951 := fun e => hn960 (e ▸ hm894)
  have hn1061 : q141 ≠ q952 := fun e => hn963 (e ▸ hm894)
  have hn1062 : q141 ≠ q953 := fun e => hn966 (e ▸ hm894)
  have hn1063 : q141 ≠ q954 := fun e => hn969 (e ▸ hm894)
  have hn1064 : q141 ≠ q955 := fun e => hn972 (e ▸ hm894)
  have hn1065 : q141 ≠ q956 := fun e => hn975 (e ▸ hm894)
  have hn1066 : q141 ≠ q957 := fun e => hn978 (e ▸ hm894)
  have hn1067 : q141 ≠ q958 := fun e => hn981 (e ▸ hm894)
  have hn1068 : q141 ≠ q959 := fun e => hn984 (e ▸ hm894)
  have hf1069 := (fr989 q141 hm894 hn895).trans hf893
  have hm1059 := sb990 _ hm894
  have hn1071 : q198 ≠ q951 := fun e => hn960 (e ▸ hm897)
  have hn1072 : q198 ≠ q952 := fun e => hn963 (e ▸ hm897)
  have hn1073 : q198 ≠ q953 := fun e => hn966 (e ▸ hm897)
  have hn1074 : q198 ≠ q954 := fun e => hn969 (e ▸ hm897)
  have hn1075 : q198 ≠ q955 := fun e => hn972 (e ▸ hm897)
  have hn1076 : q198 ≠ q956 := fun e => hn975 (e ▸ hm897)
  have hn1077 : q198 ≠ q957 := fun e => hn978 (e ▸ hm897)
  have hn1078 : q198 ≠ q958 := fun e => hn981 (e ▸ hm897)
  have hn1079 : q198 ≠ q959 := fun e => hn984 (e ▸ hm897)
  have hf1080 := (fr989 q198 hm897 hn898).trans hf896
  have hm1070 := sb990 _ hm897
  have hn1082 : q233 ≠ q951 := fun e => hn960 (e ▸ hm900)
  have hn1083 : q233 ≠ q952 := fun e => hn963 (e ▸ hm900)
  have hn1084 : q233 ≠ q953 := fun e => hn966 (e ▸ hm900)
  have hn1085 : q233 ≠ q954 := fun e => hn969 (e ▸ hm900)
  have hn1086 : q233 ≠ q955 := fun e => hn972 (e ▸ hm900)
  have hn1087 : q233 ≠ q956 := fun e => hn975 (e ▸ hm900)
  have hn1088 : q233 ≠ q957 := fun e => hn978 (e ▸ hm900)
  have hn1089 : q233 ≠ q958 := fun e => hn981 (e ▸ hm900)
  have hn1090 : q233 ≠ q959 := fun e => hn984 (e ▸ hm900)
  have hf1091 := (fr989 q233 hm900 hn901).trans hf899
  have hm1081 := sb990 _ hm900
  have hn1093 : q277 ≠ q951 := fun e => hn960 (e ▸ hm903)
  have hn1094 : q277 ≠ q952 := fun e => hn963 (e ▸ hm903)
  have hn1095 : q277 ≠ q953 := fun e => hn966 (e ▸ hm903)
  have hn1096 : q277 ≠ q954 := fun e => hn969 (e ▸ hm903)
  have hn1097 : q277 ≠ q955 := fun e => hn972 (e ▸ hm903)
  have hn1098 : q277 ≠ q956 := fun e => hn975 (e ▸ hm903)
  have hn1099 : q277 ≠ q957 := fun e => hn978 (e ▸ hm903)
  have hn1100 : q277 ≠ q958 := fun e => hn981 (e ▸ hm903)
  have hn1101 : q277 ≠ q959 := fun e => hn984 (e ▸ hm903)
  have hf1102 := (fr989 q277 hm903 hn904).trans hf902
  have hm1092 := sb990 _ hm903
  have hn1104 : q318 ≠ q951 := fun e => hn960 (e ▸ hm906)
  have hn1105 : q318 ≠ q952 := fun e => hn963 (e ▸ hm906)
  have hn1106 : q318 ≠ q953 := fun e => hn966 (e ▸ hm906)
  have hn1107 : q318 ≠ q954 := fun e => hn969 (e ▸ hm906)
  have hn1108 : q318 ≠ q955 := fun e => hn972 (e ▸ hm906)
  have hn1109 : q318 ≠ q956 := fun e => hn975 (e ▸ hm906)
  have hn1110 : q318 ≠ q957 := fun e => hn978 (e ▸ hm906)
  have hn1111 : q318 ≠ q958 := fun e => hn981 (e ▸ hm906)
  have hn1112 : q318 ≠ q959 := fun e => hn984 (e ▸ hm906)
  have hf1113 := (fr989 q318 hm906 hn907).trans hf905
  have hm1103 := sb990 _ hm906
  have hn1115 : q319 ≠ q951 := fun e => hn960 (e ▸ hm909)
  have hn1116 : q319 ≠ q952 := fun e => hn963 (e ▸ hm909)
  have hn1117 : q319 ≠ q953 := fun e => hn966 (e ▸ hm909)
  have hn1118 : q319 ≠ q954 := fun e => hn969 (e ▸ hm909)
  have hn1119 : q319 ≠ q955 := fun e => hn972 (e ▸ hm909)
  have hn1120 : q319 ≠ q956 := fun e => hn975 (e ▸ hm909)
  have hn1121 : q319 ≠ q957 := fun e => hn978 (e ▸ hm909)
  have hn1122 : q319 ≠ q958 := fun e => hn981 (e ▸ hm909)
  have hn1123 : q319 ≠ q959 := fun e => hn984 (e ▸ hm909)
  have hf1124 := (fr989 q319 hm909 hn910).trans hf908
  have hm1114 := sb990 _ hm909
  have hn1126 : q385 ≠ q951 := fun e => hn960 (e ▸ hm912)
  have hn1127 : q385 ≠ q952 := fun e => hn963 (e ▸ hm912)
  have hn1128 : q385 ≠ q953 := fun e => hn966 (e ▸ hm912)
  have hn1129 : q385 ≠ q954 := fun e => hn969 (e ▸ hm912)
  have hn1130 : q385 ≠ q955 := fun e => hn972 (e ▸ hm912)
  have hn1131 : q385 ≠ q956 := fun e => hn975 (e ▸ hm912)
  have hn1132 : q385 ≠ q957 := fun e => hn978 (e ▸ hm912)
  have hn1133 : q385 ≠ q958 := fun e => hn981 (e ▸ hm912)
  have hn1134 : q385 ≠ q959 := fun e => hn984 (e ▸ hm912)
  have hf1135 := (fr989 q385 hm912 hn913).trans hf911
  have hm1125 := sb990 _ hm912
  have hn1137 : q478 ≠ q951 := fun e => hn960 (e ▸ hm915)
  have hn1138 : q478 ≠ q952 := fun e => hn963 (e ▸ hm915)
  have hn1139 : q478 ≠ q953 := fun e => hn966 (e ▸ hm915)
  have hn1140 : q478 ≠ q954 := fun e => hn969 (e ▸ hm915)
  have hn1141 : q478 ≠ q955 := fun e => hn972 (e ▸ hm915)
  have hn1142 : q478 ≠ q956 := fun e => hn975 (e ▸ hm915)
  have hn1143 : q478 ≠ q957 := fun e => hn978 (e ▸ hm915)
  have hn1144 : q478 ≠ q958 := fun e => hn981 (e ▸ hm915)
  have hn1145 : q478 ≠ q959 := fun e => hn984 (e ▸ hm915)
  have hf1146 := (fr989 q478 hm915 hn916).trans hf914
  have hm1136 := sb990 _ hm915
  have hn1148 : q577 ≠ q951 := fun e => hn960 (e ▸ hm918)
  have hn1149 : q577 ≠ q952 := fun e => hn963 (e ▸ hm918)
  have hn1150 : q577 ≠ q953 := fun e => hn966 (e ▸ hm918)
  have hn1151 : q577 ≠ q954 := fun e => hn969 (e ▸ hm918)
  have hn1152 : q577 ≠ q955 := fun e => hn972 (e ▸ hm918)
  have hn1153 : q577 ≠ q956 := fun e => hn975 (e ▸ hm918)
  have hn1154 : q577 ≠ q957 := fun e => hn978 (e ▸ hm918)
  have hn1155 : q577 ≠ q958 := fun e => hn981 (e ▸ hm918)
  have hn1156 : q577 ≠ q959 := fun e => hn984 (e ▸ hm918)
  have hf1157 := (fr989 q577 hm918 hn919).trans hf917
  have hm1147 := sb990 _ hm918
  have hn1159 : q633 ≠ q951 := fun e => hn960 (e ▸ hm921)
  have hn1160 : q633 ≠ q952 := fun e => hn963 (e ▸ hm921)
  have hn1161 : q633 ≠ q953 := fun e => hn966 (e ▸ hm921)
  have hn1162 : q633 ≠ q954 := fun e => hn969 (e ▸ hm921)
  have hn1163 : q633 ≠ q955 := fun e => hn972 (e ▸ hm921)
  have hn1164 : q633 ≠ q956 := fun e => hn975 (e ▸ hm921)
  have hn1165 : q633 ≠ q957 := fun e => hn978 (e ▸ hm921)
  have hn1166 : q633 ≠ q958 := fun e => hn981 (e ▸ hm921)
  have hn1167 : q633 ≠ q959 := fun e => hn984 (e ▸ hm921)
  have hf1168 := (fr989 q633 hm921 hn922).trans hf920
  have hm1158 := sb990 _ hm921
  have hn1170 : q634 ≠ q951 := fun e => hn960 (e ▸ hm924)
  have hn1171 : q634 ≠ q952 := fun e => hn963 (e ▸ hm924)
  have hn1172 : q634 ≠ q953 := fun e => hn966 (e ▸ hm924)
  have hn1173 : q634 ≠ q954 := fun e => hn969 (e ▸ hm924)
  have hn1174 : q634 ≠ q955 := fun e => hn972 (e ▸ hm924)
  have hn1175 : q634 ≠ q956 := fun e => hn975 (e ▸ hm924)
  have hn1176 : q634 ≠ q957 := fun e => hn978 (e ▸ hm924)
  have hn1177 : q634 ≠ q958 := fun e => hn981 (e ▸ hm924)
  have hn1178 : q634 ≠ q959 := fun e => hn984 (e ▸ hm924)
  have hf1179 := (fr989 q634 hm924 hn925).trans hf923
  have hm1169 := sb990 _ hm924
  have hn1181 : q635 ≠ q951 := fun e => hn960 (e ▸ hm927)
  have hn1182 : q635 ≠ q952 := fun e => hn963 (e ▸ hm927)
  have hn1183 : q635 ≠ q953 := fun e => hn966 (e ▸ hm927)
  have hn1184 : q635 ≠ q954 := fun e => hn969 (e ▸ hm927)
  have hn1185 : q635 ≠ q955 := fun e => hn972 (e ▸ hm927)
  have hn1186 : q635 ≠ q956 := fun e => hn975 (e ▸ hm927)
  have hn1187 : q635 ≠ q957 := fun e => hn978 (e ▸ hm927)
  have hn1188 : q635 ≠ q958 := fun e => hn981 (e ▸ hm927)
  have hn1189 : q635 ≠ q959 := fun e => hn984 (e ▸ hm927)
  have hf1190 := (fr989 q635 hm927 hn928).trans hf926
  have hm1180 := sb990 _ hm927
  have hn1192 : q636 ≠ q951 := fun e => hn960 (e ▸ hm930)
  have hn1193 : q636 ≠ q952 := fun e => hn963 (e ▸ hm930)
  have hn1194 : q636 ≠ q953 := fun e => hn966 (e ▸ hm930)
  have hn1195 : q636 ≠ q954 := fun e => hn969 (e ▸ hm930)
  have hn1196 : q636 ≠ q955 := fun e => hn972 (e ▸ hm930)
  have hn1197 : q636 ≠ q956 := fun e => hn975 (e ▸ hm930)
  have hn1198 : q636 ≠ q957 := fun e => hn978 (e ▸ hm930)
  have hn1199 : q636 ≠ q958 := fun e => hn981 (e ▸ hm930)
  have hn1200 : q636 ≠ q959 := fun e => hn984 (e ▸ hm930)
  have hf1201 := (fr989 q636 hm930 hn931).trans hf929
  have hm1191 := sb990 _ hm930
  have hn1203 : q637 ≠ q951 := fun e => hn960 (e ▸ hm933)
  have hn1204 : q637 ≠ q952 := fun e => hn963 (e ▸ hm933)
  have hn1205 : q637 ≠ q953 := fun e => hn966 (e ▸ hm933)
  have hn1206 : q637 ≠ q954 := fun e => hn969 (e ▸ hm933)
  have hn1207 : q637 ≠ q955 := fun e => hn972 (e ▸ hm933)
  have hn1208 : q637 ≠ q956 := fun e => hn975 (e ▸ hm933)
  have hn1209 : q637 ≠ q957 := fun e => hn978 (e ▸ hm933)
  have hn1210 : q637 ≠ q958 := fun e => hn981 (e ▸ hm933)
  have hn1211 : q637 ≠ q959 := fun e => hn984 (e ▸ hm933)
  have hf1212 := (fr989 q637 hm933 hn934).trans hf932
  have hm1202 := sb990 _ hm933
  have hn1214 : q638 ≠ q951 := fun e => hn960 (e ▸ hm936)
  have hn1215 : q638 ≠ q952 := fun e => hn963 (e ▸ hm936)
  have hn1216 : q638 ≠ q953 := fun e => hn966 (e ▸ hm936)
  have hn1217 : q638 ≠ q954 := fun e => hn969 (e ▸ hm936)
  have hn1218 : q638 ≠ q955 := fun e => hn972 (e ▸ hm936)
  have hn1219 : q638 ≠ q956 := fun e => hn975 (e ▸ hm936)
  have hn1220 : q638 ≠ q957 := fun e => hn978 (e ▸ hm936)
  have hn1221 : q638 ≠ q958 := fun e => hn981 (e ▸ hm936)
  have hn1222 : q638 ≠ q959 := fun e => hn984 (e ▸ hm936)
  have hf1223 := (fr989 q638 hm936 hn937).trans hf935
  have hm1213 := sb990 _ hm936
  have hn1225 : q639 ≠ q951 := fun e => hn960 (e ▸ hm939)
  have hn1226 : q639 ≠ q952 := fun e => hn963 (e ▸ hm939)
  have hn1227 : q639 ≠ q953 := fun e => hn966 (e ▸ hm939)
  have hn1228 : q639 ≠ q954 := fun e => hn969 (e ▸ hm939)
  have hn1229 : q639 ≠ q955 := fun e => hn972 (e ▸ hm939)
  have hn1230 : q639 ≠ q956 := fun e => hn975 (e ▸ hm939)
  have hn1231 : q639 ≠ q957 := fun e => hn978 (e ▸ hm939)
  have hn1232 : q639 ≠ q958 := fun e => hn981 (e ▸ hm939)
  have hn1233 : q639 ≠ q959 := fun e => hn984 (e ▸ hm939)
  have hf1234 := (fr989 q639 hm939 hn940).trans hf938
  have hm1224 := sb990 _ hm939
  have hn1236 : q640 ≠ q951 := fun e => hn960 (e ▸ hm942)
  have hn1237 : q640 ≠ q952 := fun e => hn963 (e ▸ hm942)
  have hn1238 : q640 ≠ q953 := fun e => hn966 (e ▸ hm942)
  have hn1239 : q640 ≠ q954 := fun e => hn969 (e ▸ hm942)
  have hn1240 : q640 ≠ q955 := fun e => hn972 (e ▸ hm942)
  have hn1241 : q640 ≠ q956 := fun e => hn975 (e ▸ hm942)
  have hn1242 : q640 ≠ q957 := fun e => hn978 (e ▸ hm942)
  have hn1243 : q640 ≠ q958 := fun e => hn981 (e ▸ hm942)
  have hn1244 : q640 ≠ q959 := fun e => hn984 (e ▸ hm942)
  have hf1245 := (fr989 q640 hm942 hn943).trans hf941
  have hm1235 := sb990 _ hm942
  have hn1247 : q641 ≠ q951 := fun e => hn960 (e ▸ hm945)
  have hn1248 : q641 ≠ q952 := fun e => hn963 (e ▸ hm945)
  have hn1249 : q641 ≠ q953 := fun e => hn966 (e ▸ hm945)
  have hn1250 : q641 ≠ q954 := fun e => hn969 (e ▸ hm945)
  have hn1251 : q641 ≠ q955 := fun e => hn972 (e ▸ hm945)
  have hn1252 : q641 ≠ q956 := fun e => hn975 (e ▸ hm945)
  have hn1253 : q641 ≠ q957 := fun e => hn978 (e ▸ hm945)
  have hn1254 : q641 ≠ q958 := fun e => hn981 (e ▸ hm945)
  have hn1255 : q641 ≠ q959 := fun e => hn984 (e ▸ hm945)
  have hf1256 := (fr989 q641 hm945 hn946).trans hf944
  have hm1246 := sb990 _ hm945
  have hn1258 : q865 ≠ q951 := fun e => hn960 (e ▸ hm870)
  have hn1259 : q865 ≠ q952 := fun e => hn963 (e ▸ hm870)
  have hn1260 : q865 ≠ q953 := fun e => hn966 (e ▸ hm870)
  have hn1261 : q865 ≠ q954 := fun e => hn969 (e ▸ hm870)
  have hn1262 : q865 ≠ q955 := fun e => hn972 (e ▸ hm870)
  have hn1263 : q865 ≠ q956 := fun e => hn975 (e ▸ hm870)
  have hn1264 : q865 ≠ q957 := fun e => hn978 (e ▸ hm870)
  have hn1265 : q865 ≠ q958 := fun e => hn981 (e ▸ hm870)
  have hn1266 : q865 ≠ q959 := fun e => hn984 (e ▸ hm870)
  have hm1257 := sb990 _ hm870
  refine pl_putF (ty := (.object "RulerWord$Course")) (v := .ref q865) (fs' := [.ref q1, .ref q45, .ref q90, .ref q141, .ref q198, .ref q277, .ref q385, .ref q478, .ref q577, .ref q865, .null, .null, .null, .null, .null, .int 0, .int 0, .long 0]) hx hb hts (fun w h => mT (inX10 w h)) tyX10 tyX10_ok nmX10 hown hG.1 hP hD hS hm1004 hf1014 rfl 9 (by decide) (hts _ (mT wg_484)) (fun _ h => h) rfl hnm rfl (by decide +kernel) (rfl) (rfl) (Nat.le_of_ble_eq_true rfl) rfl dX10_init_111 (fun H locs f1267 hf1269 ho1268 hP hD hS => ?_)
  have hfr1270 : ∀ b, b ∈ L → b ≠ x → f1267 b = f b := fun b hb z0 => (ho1268 b z0).trans (hfr993 b hb z0)
  have hf1271 := (ho1268 q1 hn16.symm).trans hf1025
  have hf1272 := (ho1268 q21 hn35.symm).trans hf1036
  have hf1273 := (ho1268 q45 hn60.symm).trans hf1047
  have hf1274 := (ho1268 q90 hn105.symm).trans hf1058
  have hf1275 := (ho1268 q141 hn156.symm).trans hf1069
  have hf1276 := (ho1268 q198 hn213.symm).trans hf1080
  have hf1277 := (ho1268 q233 hn247.symm).trans hf1091
  have hf1278 := (ho1268 q277 hn292.symm).trans hf1102
  have hf1279 := (ho1268 q318 hn337.symm).trans hf1113
  have hf1280 := (ho1268 q319 hn338.symm).trans hf1124
  have hf1281 := (ho1268 q385 hn400.symm).trans hf1135
  have hf1282 := (ho1268 q478 hn493.symm).trans hf1146
  have hf1283 := (ho1268 q577 hn592.symm).trans hf1157
  have hf1284 := (ho1268 q633 hn687.symm).trans hf1168
  have hf1285 := (ho1268 q634 hn688.symm).trans hf1179
  have hf1286 := (ho1268 q635 hn689.symm).trans hf1190
  have hf1287 := (ho1268 q636 hn690.symm).trans hf1201
  have hf1288 := (ho1268 q637 hn691.symm).trans hf1212
  have hf1289 := (ho1268 q638 hn692.symm).trans hf1223
  have hf1290 := (ho1268 q639 hn693.symm).trans hf1234
  have hf1291 := (ho1268 q640 hn694.symm).trans hf1245
  have hf1292 := (ho1268 q641 hn695.symm).trans hf1256
  have hf1293 := (ho1268 q865 hn880.symm).trans hf987
  have hf1294 := (ho1268 q951 hn1005.symm).trans hf962
  have hf1295 := (ho1268 q952 hn1006.symm).trans hf965
  have hf1296 := (ho1268 q953 hn1007.symm).trans hf968
  have hf1297 := (ho1268 q954 hn1008.symm).trans hf971
  have hf1298 := (ho1268 q955 hn1009.symm).trans hf974
  have hf1299 := (ho1268 q956 hn1010.symm).trans hf977
  have hf1300 := (ho1268 q957 hn1011.symm).trans hf980
  have hf1301 := (ho1268 q958 hn1012.symm).trans hf983
  have hf1302 := (ho1268 q959 hn1013.symm).trans hf986
  refine lv_aload_n hx hb dX10_init_114 rfl (lv_at hl 0 rfl) ?_
  refine pl_new (ci := 3) (fs := [.int 0, .int 0, .int 0, .int 0, .int 0, .int 0, .int 0, .long 0, .long 0, .null, .null, .null, .null, .null, .null, .null, .null, .null]) (C := RX3) (T := TX3) (N := 18) hx hb hts (fun w h => mT (inX3 w h)) tyX3 tyX3_ok hown (hts _ (mT wg_329)) (hts _ (mT wg_330)) (hts _ (mT wg_165)) hG.1 hP hD hS hA rfl dvX3 (Nat.le_of_ble_eq_true rfl) (Nat.le_of_ble_eq_true rfl) dX10_init_115 (fun q1303 H L1304 f1305 hq1306 hs1307 hm1308 hf1309 ho1310 hP hD hS => ?_)
  have hN1311 : [q1303, q951, q952, q953, q954, q955, q956, q957, q958, q959, q865, q633, q634, q635, q636, q637, q638, q639, q640, q641, q577, q478, q385, q318, q319, q277, q233, q198, q141, q90, q45, q21, q1].Nodup := List.nodup_cons.mpr ⟨fun h => hq1306 (hNs992 _ h), hN991⟩
  have hNs1312 : ∀ b, b ∈ [q1303, q951, q952, q953, q954, q955, q956, q957, q958, q959, q865, q633, q634, q635, q636, q637, q638, q639, q640, q641, q577, q478, q385, q318, q319, q277, q233, q198, q141, q90, q45, q21, q1] → b ∈ L1304 := List.forall_mem_cons.mpr ⟨hm1308, fun b hb => hs1307 b (hNs992 b hb)⟩
  have hfr1313 : ∀ b, b ∈ L → b ≠ x → f1305 b = f b := fun b hb z0 => (ho1310 b (hsb994 b hb)).trans (hfr1270 b hb z0)
  have hnq1315 : q1303 ∉ L := fun h => hq1306 (hsb994 _ h)
  have hsb1314 : ∀ b, b ∈ L → b ∈ _ := fun b hb => hs1307 b (hsb994 b hb)
  have hf1316 := (ho1310 x hm1004).trans hf1269
  have hn1318 : x ≠ q1303 := fun e => hq1306 (e ▸ hm1004)
  have hm1317 := hs1307 _ hm1004
  have hf1319 := (ho1310 q1 hm1015).trans hf1271
  have hn1321 : q1 ≠ q1303 := fun e => hq1306 (e ▸ hm1015)
  have hm1320 := hs1307 _ hm1015
  have hf1322 := (ho1310 q21 hm1026).trans hf1272
  have hn1324 : q21 ≠ q1303 := fun e => hq1306 (e ▸ hm1026)
  have hm1323 := hs1307 _ hm1026
  have hf1325 := (ho1310 q45 hm1037).trans hf1273
  have hn1327 : q45 ≠ q1303 := fun e => hq1306 (e ▸ hm1037)
  have hm1326 := hs1307 _ hm1037
  have hf1328 := (ho1310 q90 hm1048).trans hf1274
  have hn1330 : q90 ≠ q1303 := fun e => hq1306 (e ▸ hm1048)
  have hm1329 := hs1307 _ hm1048
  have hf1331 := (ho1310 q141 hm1059).trans hf1275
  have hn1333 : q141 ≠ q1303 := fun e => hq1306 (e ▸ hm1059)
  have hm1332 := hs1307 _ hm1059
  have hf1334 := (ho1310 q198 hm1070).trans hf1276
  have hn1336 : q198 ≠ q1303 := fun e => hq1306 (e ▸ hm1070)
  have hm1335 := hs1307 _ hm1070
  have hf1337 := (ho1310 q233 hm1081).trans hf1277
  have hn1339 : q233 ≠ q1303 := fun e => hq1306 (e ▸ hm1081)
  have hm1338 := hs1307 _ hm1081
  have hf1340 := (ho1310 q277 hm1092).trans hf1278
  have hn1342 : q277 ≠ q1303 := fun e => hq1306 (e ▸ hm1092)
  have hm1341 := hs1307 _ hm1092
  have hf1343 := (ho1310 q318 hm1103).trans hf1279
  have hn1345 : q318 ≠ q1303 := fun e => hq1306 (e ▸ hm1103)
  have hm1344 := hs1307 _ hm1103
  have hf1346 := (ho1310 q319 hm1114).trans hf1280
  have hn1348 : q319 ≠ q1303 := fun e => hq1306 (e ▸ hm1114)
  have hm1347 := hs1307 _ hm1114
  have hf1349 := (ho1310 q385 hm1125).trans hf1281
  have hn1351 : q385 ≠ q1303 := fun e => hq1306 (e ▸ hm1125)
  have hm1350 := hs1307 _ hm1125
  have hf1352 := (ho1310 q478 hm1136).trans hf1282
  have hn1354 : q478 ≠ q1303 := fun e => hq1306 (e ▸ hm1136)
  have hm1353 := hs1307 _ hm1136
  have hf1355 := (ho1310 q577 hm1147).trans hf1283
  have hn1357 : q577 ≠ q1303 := fun e => hq1306 (e ▸ hm1147)
  have hm1356 := hs1307 _ hm1147
  have hf1358 := (ho1310 q633 hm1158).trans hf1284
  have hn1360 : q633 ≠ q1303 := fun e => hq1306 (e ▸ hm1158)
  have hm1359 := hs1307 _ hm1158
  have hf1361 := (ho1310 q634 hm1169).trans hf1285
  have hn1363 : q634 ≠ q1303 := fun e => hq1306 (e ▸ hm1169)
  have hm1362 := hs1307 _ hm1169
  have hf1364 := (ho1310 q635 hm1180).trans hf1286
  have hn1366 : q635 ≠ q1303 := fun e => hq1306 (e ▸ hm1180)
  have hm1365 := hs1307 _ hm1180
  have hf1367 := (ho1310 q636 hm1191).trans hf1287
  have hn1369 : q636 ≠ q1303 := fun e => hq1306 (e ▸ hm1191)
  have hm1368 := hs1307 _ hm1191
  have hf1370 := (ho1310 q637 hm1202).trans hf1288
  have hn1372 : q637 ≠ q1303 := fun e => hq1306 (e ▸ hm1202)
  have hm1371 := hs1307 _ hm1202
  have hf1373 := (ho1310 q638 hm1213).trans hf1289
  have hn1375 : q638 ≠ q1303 := fun e => hq1306 (e ▸ hm1213)
  have hm1374 := hs1307 _ hm1213
  have hf1376 := (ho1310 q639 hm1224).trans hf1290
  have hn1378 : q639 ≠ q1303 := fun e => hq1306 (e ▸ hm1224)
  have hm1377 := hs1307 _ hm1224
  have hf1379 := (ho1310 q640 hm1235).trans hf1291
  have hn1381 : q640 ≠ q1303 := fun e => hq1306 (e ▸ hm1235)
  have hm1380 := hs1307 _ hm1235
  have hf1382 := (ho1310 q641 hm1246).trans hf1292
  have hn1384 : q641 ≠ q1303 := fun e => hq1306 (e ▸ hm1246)
  have hm1383 := hs1307 _ hm1246
  have hf1385 := (ho1310 q865 hm1257).trans hf1293
  have hn1387 : q865 ≠ q1303 := fun e => hq1306 (e ▸ hm1257)
  have hm1386 := hs1307 _ hm1257
  have hf1388 := (ho1310 q951 hm961).trans hf1294
  have hn1390 : q951 ≠ q1303 := fun e => hq1306 (e ▸ hm961)
  have hm1389 := hs1307 _ hm961
  have hf1391 := (ho1310 q952 hm964).trans hf1295
  have hn1393 : q952 ≠ q1303 := fun e => hq1306 (e ▸ hm964)
  have hm1392 := hs1307 _ hm964
  have hf1394 := (ho1310 q953 hm967).trans hf1296
  have hn1396 : q953 ≠ q1303 := fun e => hq1306 (e ▸ hm967)
  have hm1395 := hs1307 _ hm967
  have hf1397 := (ho1310 q954 hm970).trans hf1297
  have hn1399 : q954 ≠ q1303 := fun e => hq1306 (e ▸ hm970)
  have hm1398 := hs1307 _ hm970
  have hf1400 := (ho1310 q955 hm973).trans hf1298
  have hn1402 : q955 ≠ q1303 := fun e => hq1306 (e ▸ hm973)
  have hm1401 := hs1307 _ hm973
  have hf1403 := (ho1310 q956 hm976).trans hf1299
  have hn1405 : q956 ≠ q1303 := fun e => hq1306 (e ▸ hm976)
  have hm1404 := hs1307 _ hm976
  have hf1406 := (ho1310 q957 hm979).trans hf1300
  have hn1408 : q957 ≠ q1303 := fun e => hq1306 (e ▸ hm979)
  have hm1407 := hs1307 _ hm979
  have hf1409 := (ho1310 q958 hm982).trans hf1301
  have hn1411 : q958 ≠ q1303 := fun e => hq1306 (e ▸ hm982)
  have hm1410 := hs1307 _ hm982
  have hf1412 := (ho1310 q959 hm985).trans hf1302
  have hn1414 : q959 ≠ q1303 := fun e => hq1306 (e ▸ hm985)
  have hm1413 := hs1307 _ hm985
  refine lv_dup hx hb dX10_init_118 rfl ?_
  refine call_v (run_IN (rm := { frames := 1, cells := 9, slots := 258, locals := 12 }) hx hb hml hown hts (k_X3_init l g _ _ _ q1303 hm1308 hf1309) cI_X3_init wn_331 ⟨Nat.le_of_ble_eq_true rfl, Nat.le_of_ble_eq_true rfl⟩ hG hE hA hP hD hS rfl hl.1 (As := []) (rest := [.ref q1303, .ref x]) rfl (Nat.le_of_ble_eq_true rfl) dX10_init_119 ⟨Nat.le_of_ble_eq_true rfl, Nat.le_of_ble_eq_true rfl⟩) hA hD hS (fun L1416 f1417 H locs hp1418 hP hD hS => ?_)
  obtain ⟨q1419, q1420, q1421, q1422, q1423, q1424, q1425, q1426, q1427, hn1428, hm1429, hf1430, hn1431, hm1432, hf1433, hn1434, hm1435, hf1436, hn1437, hm1438, hf1439, hn1440, hm1441, hf1442, hn1443, hm1444, hf1445, hn1446, hm1447, hf1448, hn1449, hm1450, hf1451, hn1452, hm1453, hf1454, hf1455, er1456, fr1457, sb1458⟩ := hp1418
  have hN1459 : [q1419, q1420, q1421, q1422, q1423, q1424, q1425, q1426, q1427, q1303, q951, q952, q953, q954, q955, q956, q957, q958, q959, q865, q633, q634, q635, q636, q637, q638, q639, q640, q641, q577, q478, q385, q318, q319, q277, q233, q198, q141, q90, q45, q21, q1].Nodup := nd_app (l := [q1419, q1420, q1421, q1422, q1423, q1424, q1425, q1426, q1427]) (k := [q1303, q951, q952, q953, q954, q955, q956, q957, q958, q959, q865, q633, q634, q635, q636, q637, q638, q639, q640, q641, q577, q478, q385, q318, q319, q277, q233, q198, q141, q90, q45, q21, q1]) er1456 (List.forall_mem_cons.mpr ⟨hn1428, (List.forall_mem_cons.mpr ⟨hn1431, (List.forall_mem_cons.mpr ⟨hn1434, (List.forall_mem_cons.mpr ⟨hn1437, (List.forall_mem_cons.mpr ⟨hn1440, (List.forall_mem_cons.mpr ⟨hn1443, (List.forall_mem_cons.mpr ⟨hn1446, (List.forall_mem_cons.mpr ⟨hn1449, (List.forall_mem_cons.mpr ⟨hn1452, (fun _ h => absurd h List.not_mem_nil)⟩)⟩)⟩)⟩)⟩)⟩)⟩)⟩)⟩) hN1311 hNs1312
  have hNs1460 : ∀ b, b ∈ [q1419, q1420, q1421, q1422, q1423, q1424, q1425, q1426, q1427, q1303, q951, q952, q953, q954, q955, q956, q957, q958, q959, q865, q633, q634, q635, q636, q637, q638, q639, q640, q641, q577, q478, q385, q318, q319, q277, q233, q198, q141, q90, q45, q21, q1] → b ∈ L1416 := fm_app (l := [q1419, q1420, q1421, q1422, q1423, q1424, q1425, q1426, q1427]) (k := [q1303, q951, q952, q953, q954, q955, q956, q957, q958, q959, q865, q633, q634, q635, q636, q637, q638, q639, q640, q641, q577, q478, q385, q318, q319, q277, q233, q198, q141, q90, q45, q21, q1]) (List.forall_mem_cons.mpr ⟨hm1429, (List.forall_mem_cons.mpr ⟨hm1432, (List.forall_mem_cons.mpr ⟨hm1435, (List.forall_mem_cons.mpr ⟨hm1438, (List.forall_mem_cons.mpr ⟨hm1441, (List.forall_mem_cons.mpr ⟨hm1444, (List.forall_mem_cons.mpr ⟨hm1447, (List.forall_mem_cons.mpr ⟨hm1450, (List.forall_mem_cons.mpr ⟨hm1453, (fun _ h => absurd h List.not_mem_nil)⟩)⟩)⟩)⟩)⟩)⟩)⟩)⟩)⟩) (fun b hb => sb1458 b (hNs1312 b hb))
  have hfr1461 : ∀ b, b ∈ L → b ≠ x → f1417 b = f b := fun b hb z0 => (fr1457 b (hsb1314 b hb) (fun e => hnq1315 (e ▸ hb))).trans (hfr1313 b hb z0)
  have hnq1463 : q1419 ∉ L := fun h => hn1428 (hsb1314 _ h)
  have hnq1464 : q1420 ∉ L := fun h => hn1431 (hsb1314 _ h)
  have hnq1465 : q1421 ∉ L := fun h => hn1434 (hsb1314 _ h)
  have hnq1466 : q1422 ∉ L := fun h => hn1437 (hsb1314 _ h)
  have hnq1467 : q1423 ∉ L := fun h => hn1440 (hsb1314 _ h)
  have hnq1468 : q1424 ∉ L := fun h => hn1443 (hsb1314 _ h)
  have hnq1469 : q1425 ∉ L := fun h => hn1446 (hsb1314 _ h)
  have hnq1470 : q1426 ∉ L := fun h => hn1449 (hsb1314 _ h)
  have hnq1471 : q1427 ∉ L := fun h => hn1452 (hsb1314 _ h)
  have hsb1462 : ∀ b, b ∈ L → b ∈ L1416 := fun b hb => sb1458 b (hsb1314 b hb)
  have hn1473 : x ≠ q1419 := fun e => hn1428 (e ▸ hm1317)
  have hn1474 : x ≠ q1420 := fun e => hn1431 (e ▸ hm1317)
  have hn1475 : x ≠ q1421 := fun e => hn1434 (e ▸ hm1317)
  have hn1476 : x ≠ q1422 := fun e => hn1437 (e ▸ hm1317)
  have hn1477 : x ≠ q1423 := fun e => hn1440 (e ▸ hm1317)
  have hn1478 : x ≠ q1424 := fun e => hn1443 (e ▸ hm1317)
  have hn1479 : x ≠ q1425 := fun e => hn1446 (e ▸ hm1317)
  have hn1480 : x ≠ q1426 := fun e => hn1449 (e ▸ hm1317)
  have hn1481 : x ≠ q1427 := fun e => hn1452 (e ▸ hm1317)
  have hf1482 := (fr1457 x hm1317 hn1318).trans hf1316
  have hm1472 := sb1458 _ hm1317
  have hn1484 : q1 ≠ q1419 := fun e => hn1428 (e ▸ hm1320)
  have hn1485 : q1 ≠ q1420 := fun e => hn1431 (e ▸ hm1320)
  have hn1486 : q1 ≠ q1421 := fun e => hn1434 (e ▸ hm1320)
  have hn1487 : q1 ≠ q1422 := fun e => hn1437 (e ▸ hm1320)
  have hn1488 : q1 ≠ q1423 := fun e => hn1440 (e ▸ hm1320)
  have hn1489 : q1 ≠ q1424 := fun e => hn1443 (e ▸ hm1320)
  have hn1490 : q1 ≠ q1425 := fun e => hn1446 (e ▸ hm1320)
  have hn1491 : q1 ≠ q1426 := fun e => hn1449 (e ▸ hm1320)
  have hn1492 : q1 ≠ q1427 := fun e => hn1452 (e ▸ hm1320)
  have hf1493 := (fr1457 q1 hm1320 hn1321).trans hf1319
  have hm1483 := sb1458 _ hm1320
  have hn1495 : q21 ≠ q1419 := fun e => hn1428 (e ▸ hm1323)
  have hn1496 : q21 ≠ q1420 := fun e => hn1431 (e ▸ hm1323)
  have hn1497 : q21 ≠ q1421 := fun e => hn1434 (e ▸ hm1323)
  have hn1498 : q21 ≠ q1422 := fun e => hn1437 (e ▸ hm1323)
  have hn1499 : q21 ≠ q1423 := fun e => hn1440 (e ▸ hm1323)
  have hn1500 : q21 ≠ q1424 := fun e => hn1443 (e ▸ hm1323)
  have hn1501 : q21 ≠ q1425 := fun e => hn1446 (e ▸ hm1323)
  have hn1502 : q21 ≠ q1426 := fun e => hn1449 (e ▸ hm1323)
  have hn1503 : q21 ≠ q1427 := fun e => hn1452 (e ▸ hm1323)
  have hf1504 := (fr1457 q21 hm1323 hn1324).trans hf1322
  have hm1494 := sb1458 _ hm1323
  have hn1506 : q45 ≠ q1419 := fun e => hn1428 (e ▸ hm1326)
  have hn1507 : q45 ≠ q1420 := fun e => hn1431 (e ▸ hm1326)
  have hn1508 : q45 ≠ q1421 := fun e => hn1434 (e ▸ hm1326)
  have hn1509 : q45 ≠ q1422 := fun e => hn1437 (e ▸ hm1326)
  have hn1510 : q45 ≠ q1423 := fun e => hn1440 (e ▸ hm1326)
  have hn1511 : q45 ≠ q1424 := fun e => hn1443 (e ▸ hm1326)
  have hn1512 : q45 ≠ q1425 := fun e => hn1446 (e ▸ hm1326)
  have hn1513 : q45 ≠ q1426 := fun e => hn1449 (e ▸ hm1326)
  have hn1514 : q45 ≠ q1427 := fun e => hn1452 (e ▸ hm1326)
  have hf1515 := (fr1457 q45 hm1326 hn1327).trans hf1325
  have hm1505 := sb1458 _ hm1326
  have hn1517 : q90 ≠ q1419 := fun e => hn1428 (e ▸ hm1329)
  have hn1518 : q90 ≠ q1420 := fun e => hn1431 (e ▸ hm1329)
  have hn1519 : q90 ≠ q1421 := fun e => hn1434 (e ▸ hm1329)
  have hn1520 : q90 ≠ q1422 := fun e => hn1437 (e ▸ hm1329)
  have hn1521 : q90 ≠ q1423 := fun e => hn1440 (e ▸ hm1329)
  have hn1522 : q90 ≠ q1424 := fun e => hn1443 (e ▸ hm1329)
  have hn1523 : q90 ≠ q1425 := fun e => hn1446 (e ▸ hm1329)
  have hn1524 : q90 ≠ q1426 := fun e => hn1449 (e ▸ hm1329)
  have hn1525 : q90 ≠ q1427 := fun e => hn1452 (e ▸ hm1329)
  have hf1526 := (fr1457 q90 hm1329 hn1330).trans hf1328
  have hm1516 := sb1458 _ hm1329
  have hn1528 : q141 ≠ q1419 := fun e => hn1428 (e ▸ hm1332)
  have hn1529 : q141 ≠ q1420 := fun e => hn1431 (e ▸ hm1332)
  have hn1530 : q141 ≠ q1421 := fun e => hn1434 (e ▸ hm1332)
  have hn1531 : q141 ≠ q1422 := fun e => hn1437 (e ▸ hm1332)
  have hn1532 : q141 ≠ q1423 := fun e => hn1440 (e ▸ hm1332)
  have hn1533 : q141 ≠ q1424 := fun e => hn1443 (e ▸ hm1332)
  have hn1534 : q141 ≠ q1425 := fun e => hn1446 (e ▸ hm1332)
  have hn1535 : q141 ≠ q1426 := fun e => hn1449 (e ▸ hm1332)
  have hn1536 : q141 ≠ q1427 := fun e => hn1452 (e ▸ hm1332)
  have hf1537 := (fr1457 q141 hm1332 hn1333).trans hf1331
  have hm1527 := sb1458 _ hm1332
  have hn1539 : q198 ≠ q1419 := fun e => hn1428 (e ▸ hm1335)
  have hn1540 : q198 ≠ q1420 := fun e => hn1431 (e ▸ hm1335)
  have hn1541 : q198 ≠ q1421 := fun e => hn1434 (e ▸ hm1335)
  have hn1542 : q198 ≠ q1422 := fun e => hn1437 (e ▸ hm1335)
  have hn1543 : q198 ≠ q1423 := fun e => hn1440 (e ▸ hm1335)
  have hn1544 : q198 ≠ q1424 := fun e => hn1443 (e ▸ hm1335)
  have hn1545 : q198 ≠ q1425 := fun e => hn1446 (e ▸ hm1335)
  have hn1546 : q198 ≠ q1426 := fun e => hn1449 (e ▸ hm1335)
  have hn1547 : q198 ≠ q1427 := fun e => hn1452 (e ▸ hm1335)
  have hf1548 := (fr1457 q198 hm1335 hn1336).trans hf1334
  have hm1538 := sb1458 _ hm1335
  have hn1550 : q233 ≠ q1419 := fun e => hn1428 (e ▸ hm1338)
  have hn1551 : q233 ≠ q1420 := fun e => hn1431 (e ▸ hm1338)
  have hn1552 : q233 ≠ q1421 := fun e => hn1434 (e ▸ hm1338)
  have hn1553 : q233 ≠ q1422 := fun e => hn1437 (e ▸ hm1338)
  have hn1554 : q233 ≠ q1423 := fun e => hn1440 (e ▸ hm1338)
  have hn1555 : q233 ≠ q1424 := fun e => hn1443 (e ▸ hm1338)
  have hn1556 : q233 ≠ q1425 := fun e => hn1446 (e ▸ hm1338)
  have hn1557 : q233 ≠ q1426 := fun e => hn1449 (e ▸ hm1338)
  have hn1558 : q233 ≠ q1427 := fun e => hn1452 (e ▸ hm1338)
  have hf1559 := (fr1457 q233 hm1338 hn1339).trans hf1337
  have hm1549 := sb1458 _ hm1338
  have hn1561 : q277 ≠ q1419 := fun e => hn1428 (e ▸ hm1341)
  have hn1562 : q277 ≠ q1420 := fun e => hn1431 (e ▸ hm1341)
  have hn1563 : q277 ≠ q1421 := fun e => hn1434 (e ▸ hm1341)
  have hn1564 : q277 ≠ q1422 := fun e => hn1437 (e ▸ hm1341)
  have hn1565 : q277 ≠ q1423 := fun e => hn1440 (e ▸ hm1341)
  have hn1566 : q277 ≠ q1424 := fun e => hn1443 (e ▸ hm1341)
  have hn1567 : q277 ≠ q1425 := fun e => hn1446 (e ▸ hm1341)
  have hn1568 : q277 ≠ q1426 := fun e => hn1449 (e ▸ hm1341)
  have hn1569 : q277 ≠ q1427 := fun e => hn1452 (e ▸ hm1341)
  have hf1570 := (fr1457 q277 hm1341 hn1342).trans hf1340
  have hm1560 := sb1458 _ hm1341
  have hn1572 : q318 ≠ q1419 := fun e => hn1428 (e ▸ hm1344)
  have hn1573 : q318 ≠ q1420 := fun e => hn1431 (e ▸ hm1344)
  have hn1574 : q318 ≠ q1421 := fun e => hn1434 (e ▸ hm1344)
  have hn1575 : q318 ≠ q1422 := fun e => hn1437 (e ▸ hm1344)
  have hn1576 : q318 ≠ q1423 := fun e => hn1440 (e ▸ hm1344)
  have hn1577 : q318 ≠ q1424 := fun e => hn1443 (e ▸ hm1344)
  have hn1578 : q318 ≠ q1425 := fun e => hn1446 (e ▸ hm1344)
  have hn1579 : q318 ≠ q1426 := fun e => hn1449 (e ▸ hm1344)
  have hn1580 : q318 ≠ q1427 := fun e => hn1452 (e ▸ hm1344)
  have hf1581 := (fr1457 q318 hm1344 hn1345).trans hf1343
  have hm1571 := sb1458 _ hm1344
  have hn1583 : q319 ≠ q1419 := fun e => hn1428 (e ▸ hm1347)
  have hn1584 : q319 ≠ q1420 := fun e => hn1431 (e ▸ hm1347)
  have hn1585 : q319 ≠ q1421 := fun e => hn1434 (e ▸ hm1347)
  have hn1586 : q319 ≠ q1422 := fun e => hn1437 (e ▸ hm1347)
  have hn1587 : q319 ≠ q1423 := fun e => hn1440 (e ▸ hm1347)
  have hn1588 : q319 ≠ q1424 := fun e => hn1443 (e ▸ hm1347)
  have hn1589 : q319 ≠ q1425 := fun e => hn1446 (e ▸ hm1347)
  have hn1590 : q319 ≠ q1426 := fun e => hn1449 (e ▸ hm1347)
  have hn1591 : q319 ≠ q1427 := fun e => hn1452 (e ▸ hm1347)
  have hf1592 := (fr1457 q319 hm1347 hn1348).trans hf1346
  have hm1582 := sb1458 _ hm1347
  have hn1594 : q385 ≠ q1419 := fun e => hn1428 (e ▸ hm1350)
  have hn1595 : q385 ≠ q1420 := fun e => hn1431 (e ▸ hm1350)
  have hn1596 : q385 ≠ q1421 := fun e => hn1434 (e ▸ hm1350)
  have hn1597 : q385 ≠ q1422 := fun e => hn1437 (e ▸ hm1350)
  have hn1598 : q385 ≠ q1423 := fun e => hn1440 (e ▸ hm1350)
  have hn1599 : q385 ≠ q1424 := fun e => hn1443 (e ▸ hm1350)
  have hn1600 : q385 ≠ q1425 := fun e => hn1446 (e ▸ hm1350)
  have hn1601 : q385 ≠ q1426 := fun e => hn1449 (e ▸ hm1350)
  have hn1602 : q385 ≠ q1427 := fun e => hn1452 (e ▸ hm1350)
  have hf1603 := (fr1457 q385 hm1350 hn1351).trans hf1349
  have hm1593 := sb1458 _ hm1350
  have hn1605 : q478 ≠ q1419 := fun e => hn1428 (e ▸ hm1353)
  have hn1606 : q478 ≠ q1420 := fun e => hn1431 (e ▸ hm1353)
  have hn1607 : q478 ≠ q1421 := fun e => hn1434 (e ▸ hm1353)
  have hn1608 : q478 ≠ q1422 := fun e => hn1437 (e ▸ hm1353)
  have hn1609 : q478 ≠ q1423 := fun e => hn1440 (e ▸ hm1353)
  have hn1610 : q478 ≠ q1424 := fun e => hn1443 (e ▸ hm1353)
  have hn1611 : q478 ≠ q1425 := fun e => hn1446 (e ▸ hm1353)
  have hn1612 : q478 ≠ q1426 := fun e => hn1449 (e ▸ hm1353)
  have hn1613 : q478 ≠ q1427 := fun e => hn1452 (e ▸ hm1353)
  have hf1614 := (fr1457 q478 hm1353 hn1354).trans hf1352
  have hm1604 := sb1458 _ hm1353
  have hn1616 : q577 ≠ q1419 := fun e => hn1428 (e ▸ hm1356)
  have hn1617 : q577 ≠ q1420 := fun e => hn1431 (e ▸ hm1356)
  have hn1618 : q577 ≠ q1421 := fun e => hn1434 (e ▸ hm1356)
  have hn1619 : q577 ≠ q1422 := fun e => hn1437 (e ▸ hm1356)
  have hn1620 : q577 ≠ q1423 := fun e => hn1440 (e ▸ hm1356)
  have hn1621 : q577 ≠ q1424 := fun e => hn1443 (e ▸ hm1356)
  have hn1622 : q577 ≠ q1425 := fun e => hn1446 (e ▸ hm1356)
  have hn1623 : q577 ≠ q1426 := fun e => hn1449 (e ▸ hm1356)
  have hn1624 : q577 ≠ q1427 := fun e => hn1452 (e ▸ hm1356)
  have hf1625 := (fr1457 q577 hm1356 hn1357).trans hf1355
  have hm1615 := sb1458 _ hm1356
  have hn1627 : q633 ≠ q1419 := fun e => hn1428 (e ▸ hm1359)
  have hn1628 : q633 ≠ q1420 := fun e => hn1431 (e ▸ hm1359)
  have hn1629 : q633 ≠ q1421 := fun e => hn1434 (e ▸ hm1359)
  have hn1630 : q633 ≠ q1422 := fun e => hn1437 (e ▸ hm1359)
  have hn1631 : q633 ≠ q1423 := fun e => hn1440 (e ▸ hm1359)
  have hn1632 : q633 ≠ q1424 := fun e => hn1443 (e ▸ hm1359)
  have hn1633 : q633 ≠ q1425 := fun e => hn1446 (e ▸ hm1359)
  have hn1634 : q633 ≠ q1426 := fun e => hn1449 (e ▸ hm1359)
  have hn1635 : q633 ≠ q1427 := fun e => hn1452 (e ▸ hm1359)
  have hf1636 := (fr1457 q633 hm1359 hn1360).trans hf1358
  have hm1626 := sb1458 _ hm1359
  have hn1638 : q634 ≠ q1419 := fun e => hn1428 (e ▸ hm1362)
  have hn1639 : q634 ≠ q1420 := fun e => hn1431 (e ▸ hm1362)
  have hn1640 : q634 ≠ q1421 := fun e => hn1434 (e ▸ hm1362)
  have hn1641 : q634 ≠ q1422 := fun e => hn1437 (e ▸ hm1362)
  have hn1642 : q634 ≠ q1423 := fun e => hn1440 (e ▸ hm1362)
  have hn1643 : q634 ≠ q1424 := fun e => hn1443 (e ▸ hm1362)
  have hn1644 : q634 ≠ q1425 := fun e => hn1446 (e ▸ hm1362)
  have hn1645 : q634 ≠ q1426 := fun e => hn1449 (e ▸ hm1362)
  have hn1646 : q634 ≠ q1427 := fun e => hn1452 (e ▸ hm1362)
  have hf1647 := (fr1457 q634 hm1362 hn1363).trans hf1361
  have hm1637 := sb1458 _ hm1362
  have hn1649 : q635 ≠ q1419 := fun e => hn1428 (e ▸ hm1365)
  have hn1650 : q635 ≠ q1420 := fun e => hn1431 (e ▸ hm1365)
  have hn1651 : q635 ≠ q1421 := fun e => hn1434 (e ▸ hm1365)
  have hn1652 : q635 ≠ q1422 := fun e => hn1437 (e ▸ hm1365)
  have hn1653 : q635 ≠ q1423 := fun e => hn1440 (e ▸ hm1365)
  have hn1654 : q635 ≠ q1424 := fun e => hn1443 (e ▸ hm1365)
  have hn1655 : q635 ≠ q1425 := fun e => hn1446 (e ▸ hm1365)
  have hn1656 : q635 ≠ q1426 := fun e => hn1449 (e ▸ hm1365)
  have hn1657 : q635 ≠ q1427 := fun e => hn1452 (e ▸ hm1365)
  have hf1658 := (fr1457 q635 hm1365 hn1366).trans hf1364
  have hm1648 := sb1458 _ hm1365
  have hn1660 : q636 ≠ q1419 := fun e => hn1428 (e ▸ hm1368)
  have hn1661 : q636 ≠ q1420 := fun e => hn1431 (e ▸ hm1368)
  have hn1662 : q636 ≠ q1421 := fun e => hn1434 (e ▸ hm1368)
  have hn1663 : q636 ≠ q1422 := fun e => hn1437 (e ▸ hm1368)
  have hn1664 : q636 ≠ q1423 := fun e => hn1440 (e ▸ hm1368)
  have hn1665 : q636 ≠ q1424 := fun e => hn1443 (e ▸ hm1368)
  have hn1666 : q636 ≠ q1425 := fun e => hn1446 (e ▸ hm1368)
  have hn1667 : q636 ≠ q1426 := fun e => hn1449 (e ▸ hm1368)
  have hn1668 : q636 ≠ q1427 := fun e => hn1452 (e ▸ hm1368)
  have hf1669 := (fr1457 q636 hm1368 hn1369).trans hf1367
  have hm1659 := sb1458 _ hm1368
  have hn1671 : q637 ≠ q1419 := fun e => hn1428 (e ▸ hm1371)
  have hn1672 : q637 ≠ q1420 := fun e => hn1431 (e ▸ hm1371)
  have hn1673 : q637 ≠ q1421 := fun e => hn1434 (e ▸ hm1371)
  have hn1674 : q637 ≠ q1422 := fun e => hn1437 (e ▸ hm1371)
  have hn1675 : q637 ≠ q1423 := fun e => hn1440 (e ▸ hm1371)
  have hn1676 : q637 ≠ q1424 := fun e => hn1443 (e ▸ hm1371)
  have hn1677 : q637 ≠ q1425 := fun e => hn1446 (e ▸ hm1371)
  have hn1678 : q637 ≠ q1426 := fun e => hn1449 (e ▸ hm1371)
  have hn1679 : q637 ≠ q1427 := fun e => hn1452 (e ▸ hm1371)
  have hf1680 := (fr1457 q637 hm1371 hn1372).trans hf1370
  have hm1670 := sb1458 _ hm1371
  have hn1682 : q638 ≠ q1419 := fun e => hn1428 (e ▸ hm1374)
  have hn1683 : q638 ≠ q1420 := fun e => hn1431 (e ▸ hm1374)
  have hn1684 : q638 ≠ q1421 := fun e => hn1434 (e ▸ hm1374)
  have hn1685 : q638 ≠ q1422 := fun e => hn1437 (e ▸ hm1374)
  have hn1686 : q638 ≠ q1423 := fun e => hn1440 (e ▸ hm1374)
  have hn1687 : q638 ≠ q1424 := fun e => hn1443 (e ▸ hm1374)
  have hn1688 : q638 ≠ q1425 := fun e => hn1446 (e ▸ hm1374)
  have hn1689 : q638 ≠ q1426 := fun e => hn1449 (e ▸ hm1374)
  have hn1690 : q638 ≠ q1427 := fun e => hn1452 (e ▸ hm1374)
  have hf1691 := (fr1457 q638 hm1374 hn1375).trans hf1373
  have hm1681 := sb1458 _ hm1374
  have hn1693 : q639 ≠ q1419 := fun e => hn1428 (e ▸ hm1377)
  have hn1694 : q639 ≠ q1420 := fun e => hn1431 (e ▸ hm1377)
  have hn1695 : q639 ≠ q1421 := fun e => hn1434 (e ▸ hm1377)
  have hn1696 : q639 ≠ q1422 := fun e => hn1437 (e ▸ hm1377)
  have hn1697 : q639 ≠ q1423 := fun e => hn1440 (e ▸ hm1377)
  have hn1698 : q639 ≠ q1424 := fun e => hn1443 (e ▸ hm1377)
  have hn1699 : q639 ≠ q1425 := fun e => hn1446 (e ▸ hm1377)
  have hn1700 : q639 ≠ q1426 := fun e => hn1449 (e ▸ hm1377)
  have hn1701 : q639 ≠ q1427 := fun e => hn1452 (e ▸ hm1377)
  have hf1702 := (fr1457 q639 hm1377 hn1378).trans hf1376
  have hm1692 := sb1458 _ hm1377
  have hn1704 : q640 ≠ q1419 := fun e => hn1428 (e ▸ hm1380)
  have hn1705 : q640 ≠ q1420 := fun e => hn1431 (e ▸ hm1380)
  have hn1706 : q640 ≠ q1421 := fun e => hn1434 (e ▸ hm1380)
  have hn1707 : q640 ≠ q1422 := fun e => hn1437 (e ▸ hm1380)
  have hn1708 : q640 ≠ q1423 := fun e => hn1440 (e ▸ hm1380)
  have hn1709 : q640 ≠ q1424 := fun e => hn1443 (e ▸ hm1380)
  have hn1710 : q640 ≠ q1425 := fun e => hn1446 (e ▸ hm1380)
  have hn1711 : q640 ≠ q1426 := fun e => hn1449 (e ▸ hm1380)
  have hn1712 : q640 ≠ q1427 := fun e => hn1452 (e ▸ hm1380)
  have hf1713 := (fr1457 q640 hm1380 hn1381).trans hf1379
  have hm1703 := sb1458 _ hm1380
  have hn1715 : q641 ≠ q1419 := fun e => hn1428 (e ▸ hm1383)
  have hn1716 : q641 ≠ q1420 := fun e => hn1431 (e ▸ hm1383)
  have hn1717 : q641 ≠ q1421 := fun e => hn1434 (e ▸ hm1383)
  have hn1718 : q641 ≠ q1422 := fun e => hn1437 (e ▸ hm1383)
  have hn1719 : q641 ≠ q1423 := fun e => hn1440 (e ▸ hm1383)
  have hn1720 : q641 ≠ q1424 := fun e => hn1443 (e ▸ hm1383)
  have hn1721 : q641 ≠ q1425 := fun e => hn1446 (e ▸ hm1383)
  have hn1722 : q641 ≠ q1426 := fun e => hn1449 (e ▸ hm1383)
  have hn1723 : q641 ≠ q1427 := fun e => hn1452 (e ▸ hm1383)
  have hf1724 := (fr1457 q641 hm1383 hn1384).trans hf1382
  have hm1714 := sb1458 _ hm1383
  have hn1726 : q865 ≠ q1419 := fun e => hn1428 (e ▸ hm1386)
  have hn1727 : q865 ≠ q1420 := fun e => hn1431 (e ▸ hm1386)
  have hn1728 : q865 ≠ q1421 := fun e => hn1434 (e ▸ hm1386)
  have hn1729 : q865 ≠ q1422 := fun e => hn1437 (e ▸ hm1386)
  have hn1730 : q865 ≠ q1423 := fun e => hn1440 (e ▸ hm1386)
  have hn1731 : q865 ≠ q1424 := fun e => hn1443 (e ▸ hm1386)
  have hn1732 : q865 ≠ q1425 := fun e => hn1446 (e ▸ hm1386)
  have hn1733 : q865 ≠ q1426 := fun e => hn1449 (e ▸ hm1386)
  have hn1734 : q865 ≠ q1427 := fun e => hn1452 (e ▸ hm1386)
  have hf1735 := (fr1457 q865 hm1386 hn1387).trans hf1385
  have hm1725 := sb1458 _ hm1386
  have hn1737 : q951 ≠ q1419 := fun e => hn1428 (e ▸ hm1389)
  have hn1738 : q951 ≠ q1420 := fun e => hn1431 (e ▸ hm1389)
  have hn1739 : q951 ≠ q1421 := fun e => hn1434 (e ▸ hm1389)
  have hn1740 : q951 ≠ q1422 := fun e => hn1437 (e ▸ hm1389)
  have hn1741 : q951 ≠ q1423 := fun e => hn1440 (e ▸ hm1389)
  have hn1742 : q951 ≠ q1424 := fun e => hn1443 (e ▸ hm1389)
  have hn1743 : q951 ≠ q1425 := fun e => hn1446 (e ▸ hm1389)
  have hn1744 : q951 ≠ q1426 := fun e => hn1449 (e ▸ hm1389)
  have hn1745 : q951 ≠ q1427 := fun e => hn1452 (e ▸ hm1389)
  have hf1746 := (fr1457 q951 hm1389 hn1390).trans hf1388
  have hm1736 := sb1458 _ hm1389
  have hn1748 : q952 ≠ q1419 := fun e => hn1428 (e ▸ hm1392)
  have hn1749 : q952 ≠ q1420 := fun e => hn1431 (e ▸ hm1392)
  have hn1750 : q952 ≠ q1421 := fun e => hn1434 (e ▸ hm1392)
  have hn1751 : q952 ≠ q1422 := fun e => hn1437 (e ▸ hm1392)
  have hn1752 : q952 ≠ q1423 := fun e => hn1440 (e ▸ hm1392)
  have hn1753 : q952 ≠ q1424 := fun e => hn1443 (e ▸ hm1392)
  have hn1754 : q952 ≠ q1425 := fun e => hn1446 (e ▸ hm1392)
  have hn1755 : q952 ≠ q1426 := fun e => hn1449 (e ▸ hm1392)
  have hn1756 : q952 ≠ q1427 := fun e => hn1452 (e ▸ hm1392)
  have hf1757 := (fr1457 q952 hm1392 hn1393).trans hf1391
  have hm1747 := sb1458 _ hm1392
  have hn1759 : q953 ≠ q1419 := fun e => hn1428 (e ▸ hm1395)
  have hn1760 : q953 ≠ q1420 := fun e => hn1431 (e ▸ hm1395)
  have hn1761 : q953 ≠ q1421 := fun e => hn1434 (e ▸ hm1395)
  have hn1762 : q953 ≠ q1422 := fun e => hn1437 (e ▸ hm1395)
  have hn1763 : q953 ≠ q1423 := fun e => hn1440 (e ▸ hm1395)
  have hn1764 : q953 ≠ q1424 := fun e => hn1443 (e ▸ hm1395)
  have hn1765 : q953 ≠ q1425 := fun e => hn1446 (e ▸ hm1395)
  have hn1766 : q953 ≠ q1426 := fun e => hn1449 (e ▸ hm1395)
  have hn1767 : q953 ≠ q1427 := fun e => hn1452 (e ▸ hm1395)
  have hf1768 := (fr1457 q953 hm1395 hn1396).trans hf1394
  have hm1758 := sb1458 _ hm1395
  have hn1770 : q954 ≠ q1419 := fun e => hn1428 (e ▸ hm1398)
  have hn1771 : q954 ≠ q1420 := fun e => hn1431 (e ▸ hm1398)
  have hn1772 : q954 ≠ q1421 := fun e => hn1434 (e ▸ hm1398)
  have hn1773 : q954 ≠ q1422 := fun e => hn1437 (e ▸ hm1398)
  have hn1774 : q954 ≠ q1423 := fun e => hn1440 (e ▸ hm1398)
  have hn1775 : q954 ≠ q1424 := fun e => hn1443 (e ▸ hm1398)
  have hn1776 : q954 ≠ q1425 := fun e => hn1446 (e ▸ hm1398)
  have hn1777 : q954 ≠ q1426 := fun e => hn1449 (e ▸ hm1398)
  have hn1778 : q954 ≠ q1427 := fun e => hn1452 (e ▸ hm1398)
  have hf1779 := (fr1457 q954 hm1398 hn1399).trans hf1397
  have hm1769 := sb1458 _ hm1398
  have hn1781 : q955 ≠ q1419 := fun e => hn1428 (e ▸ hm1401)
  have hn1782 : q955 ≠ q1420 := fun e => hn1431 (e ▸ hm1401)
  have hn1783 : q955 ≠ q1421 := fun e => hn1434 (e ▸ hm1401)
  have hn1784 : q955 ≠ q1422 := fun e => hn1437 (e ▸ hm1401)
  have hn1785 : q955 ≠ q1423 := fun e => hn1440 (e ▸ hm1401)
  have hn1786 : q955 ≠ q1424 := fun e => hn1443 (e ▸ hm1401)
  have hn1787 : q955 ≠ q1425 := fun e => hn1446 (e ▸ hm1401)
  have hn1788 : q955 ≠ q1426 := fun e => hn1449 (e ▸ hm1401)
  have hn1789 : q955 ≠ q1427 := fun e => hn1452 (e ▸ hm1401)
  have hf1790 := (fr1457 q955 hm1401 hn1402).trans hf1400
  have hm1780 := sb1458 _ hm1401
  have hn1792 : q956 ≠ q1419 := fun e => hn1428 (e ▸ hm1404)
  have hn1793 : q956 ≠ q1420 := fun e => hn1431 (e ▸ hm1404)
  have hn1794 : q956 ≠ q1421 := fun e => hn1434 (e ▸ hm1404)
  have hn1795 : q956 ≠ q1422 := fun e => hn1437 (e ▸ hm1404)
  have hn1796 : q956 ≠ q1423 := fun e => hn1440 (e ▸ hm1404)
  have hn1797 : q956 ≠ q1424 := fun e => hn1443 (e ▸ hm1404)
  have hn1798 : q956 ≠ q1425 := fun e => hn1446 (e ▸ hm1404)
  have hn1799 : q956 ≠ q1426 := fun e => hn1449 (e ▸ hm1404)
  have hn1800 : q956 ≠ q1427 := fun e => hn1452 (e ▸ hm1404)
  have hf1801 := (fr1457 q956 hm1404 hn1405).trans hf1403
  have hm1791 := sb1458 _ hm1404
  have hn1803 : q957 ≠ q1419 := fun e => hn1428 (e ▸ hm1407)
  have hn1804 : q957 ≠ q1420 := fun e => hn1431 (e ▸ hm1407)
  have hn1805 : q957 ≠ q1421 := fun e => hn1434 (e ▸ hm1407)
  have hn1806 : q957 ≠ q1422 := fun e => hn1437 (e ▸ hm1407)
  have hn1807 : q957 ≠ q1423 := fun e => hn1440 (e ▸ hm1407)
  have hn1808 : q957 ≠ q1424 := fun e => hn1443 (e ▸ hm1407)
  have hn1809 : q957 ≠ q1425 := fun e => hn1446 (e ▸ hm1407)
  have hn1810 : q957 ≠ q1426 := fun e => hn1449 (e ▸ hm1407)
  have hn1811 : q957 ≠ q1427 := fun e => hn1452 (e ▸ hm1407)
  have hf1812 := (fr1457 q957 hm1407 hn1408).trans hf1406
  have hm1802 := sb1458 _ hm1407
  have hn1814 : q958 ≠ q1419 := fun e => hn1428 (e ▸ hm1410)
  have hn1815 : q958 ≠ q1420 := fun e => hn1431 (e ▸ hm1410)
  have hn1816 : q958 ≠ q1421 := fun e => hn1434 (e ▸ hm1410)
  have hn1817 : q958 ≠ q1422 := fun e => hn1437 (e ▸ hm1410)
  have hn1818 : q958 ≠ q1423 := fun e => hn1440 (e ▸ hm1410)
  have hn1819 : q958 ≠ q1424 := fun e => hn1443 (e ▸ hm1410)
  have hn1820 : q958 ≠ q1425 := fun e => hn1446 (e ▸ hm1410)
  have hn1821 : q958 ≠ q1426 := fun e => hn1449 (e ▸ hm1410)
  have hn1822 : q958 ≠ q1427 := fun e => hn1452 (e ▸ hm1410)
  have hf1823 := (fr1457 q958 hm1410 hn1411).trans hf1409
  have hm1813 := sb1458 _ hm1410
  have hn1825 : q959 ≠ q1419 := fun e => hn1428 (e ▸ hm1413)
  have hn1826 : q959 ≠ q1420 := fun e => hn1431 (e ▸ hm1413)
  have hn1827 : q959 ≠ q1421 := fun e => hn1434 (e ▸ hm1413)
  have hn1828 : q959 ≠ q1422 := fun e => hn1437 (e ▸ hm1413)
  have hn1829 : q959 ≠ q1423 := fun e => hn1440 (e ▸ hm1413)
  have hn1830 : q959 ≠ q1424 := fun e => hn1443 (e ▸ hm1413)
  have hn1831 : q959 ≠ q1425 := fun e => hn1446 (e ▸ hm1413)
  have hn1832 : q959 ≠ q1426 := fun e => hn1449 (e ▸ hm1413)
  have hn1833 : q959 ≠ q1427 := fun e => hn1452 (e ▸ hm1413)
  have hf1834 := (fr1457 q959 hm1413 hn1414).trans hf1412
  have hm1824 := sb1458 _ hm1413
  have hn1836 : q1303 ≠ q1419 := fun e => hn1428 (e ▸ hm1308)
  have hn1837 : q1303 ≠ q1420 := fun e => hn1431 (e ▸ hm1308)
  have hn1838 : q1303 ≠ q1421 := fun e => hn1434 (e ▸ hm1308)
  have hn1839 : q1303 ≠ q1422 := fun e => hn1437 (e ▸ hm1308)
  have hn1840 : q1303 ≠ q1423 := fun e => hn1440 (e ▸ hm1308)
  have hn1841 : q1303 ≠ q1424 := fun e => hn1443 (e ▸ hm1308)
  have hn1842 : q1303 ≠ q1425 := fun e => hn1446 (e ▸ hm1308)
  have hn1843 : q1303 ≠ q1426 := fun e => hn1449 (e ▸ hm1308)
  have hn1844 : q1303 ≠ q1427 := fun e => hn1452 (e ▸ hm1308)
  have hm1835 := sb1458 _ hm1308
  refine pl_putF (ty := (.object "RulerWord$Course")) (v := .ref q1303) (fs' := [.ref q1, .ref q45, .ref q90, .ref q141, .ref q198, .ref q277, .ref q385, .ref q478, .ref q577, .ref q865, .ref q1303, .null, .null, .null, .null, .int 0, .int 0, .long 0]) hx hb hts (fun w h => mT (inX10 w h)) tyX10 tyX10_ok nmX10 hown hG.1 hP hD hS hm1472 hf1482 rfl 10 (by decide) (hts _ (mT wg_485)) (fun _ h => h) rfl hnm rfl (by decide +kernel) (rfl) (rfl) (Nat.le_of_ble_eq_true rfl) rfl dX10_init_122 (fun H locs f1845 hf1847 ho1846 hP hD hS => ?_)
  have hfr1848 : ∀ b, b ∈ L → b ≠ x → f1845 b = f b := fun b hb z0 => (ho1846 b z0).trans (hfr1461 b hb z0)
  have hf1849 := (ho1846 q1 hn16.symm).trans hf1493
  have hf1850 := (ho1846 q21 hn35.symm).trans hf1504
  have hf1851 := (ho1846 q45 hn60.symm).trans hf1515
  have hf1852 := (ho1846 q90 hn105.symm).trans hf1526
  have hf1853 := (ho1846 q141 hn156.symm).trans hf1537
  have hf1854 := (ho1846 q198 hn213.symm).trans hf1548
  have hf1855 := (ho1846 q233 hn247.symm).trans hf1559
  have hf1856 := (ho1846 q277 hn292.symm).trans hf1570
  have hf1857 := (ho1846 q318 hn337.symm).trans hf1581
  have hf1858 := (ho1846 q319 hn338.symm).trans hf1592
  have hf1859 := (ho1846 q385 hn400.symm).trans hf1603
  have hf1860 := (ho1846 q478 hn493.symm).trans hf1614
  have hf1861 := (ho1846 q577 hn592.symm).trans hf1625
  have hf1862 := (ho1846 q633 hn687.symm).trans hf1636
  have hf1863 := (ho1846 q634 hn688.symm).trans hf1647
  have hf1864 := (ho1846 q635 hn689.symm).trans hf1658
  have hf1865 := (ho1846 q636 hn690.symm).trans hf1669
  have hf1866 := (ho1846 q637 hn691.symm).trans hf1680
  have hf1867 := (ho1846 q638 hn692.symm).trans hf1691
  have hf1868 := (ho1846 q639 hn693.symm).trans hf1702
  have hf1869 := (ho1846 q640 hn694.symm).trans hf1713
  have hf1870 := (ho1846 q641 hn695.symm).trans hf1724
  have hf1871 := (ho1846 q865 hn880.symm).trans hf1735
  have hf1872 := (ho1846 q951 hn1005.symm).trans hf1746
  have hf1873 := (ho1846 q952 hn1006.symm).trans hf1757
  have hf1874 := (ho1846 q953 hn1007.symm).trans hf1768
  have hf1875 := (ho1846 q954 hn1008.symm).trans hf1779
  have hf1876 := (ho1846 q955 hn1009.symm).trans hf1790
  have hf1877 := (ho1846 q956 hn1010.symm).trans hf1801
  have hf1878 := (ho1846 q957 hn1011.symm).trans hf1812
  have hf1879 := (ho1846 q958 hn1012.symm).trans hf1823
  have hf1880 := (ho1846 q959 hn1013.symm).trans hf1834
  have hf1881 := (ho1846 q1303 hn1318.symm).trans hf1455
  have hf1882 := (ho1846 q1419 hn1473.symm).trans hf1430
  have hf1883 := (ho1846 q1420 hn1474.symm).trans hf1433
  have hf1884 := (ho1846 q1421 hn1475.symm).trans hf1436
  have hf1885 := (ho1846 q1422 hn1476.symm).trans hf1439
  have hf1886 := (ho1846 q1423 hn1477.symm).trans hf1442
  have hf1887 := (ho1846 q1424 hn1478.symm).trans hf1445
  have hf1888 := (ho1846 q1425 hn1479.symm).trans hf1448
  have hf1889 := (ho1846 q1426 hn1480.symm).trans hf1451
  have hf1890 := (ho1846 q1427 hn1481.symm).trans hf1454
  refine lv_aload_n hx hb dX10_init_125 rfl (lv_at hl 0 rfl) ?_
  refine pl_new (ci := 0) (fs := [.null, .int 0, .int 0]) (C := RX0) (T := TX0) (N := 3) hx hb hts (fun w h => mT (inX0 w h)) tyX0 tyX0_ok hown (hts _ (mT wg_404)) (hts _ (mT wg_405)) (hts _ (mT wg_166)) hG.1 hP hD hS hA rfl dvX0 (Nat.le_of_ble_eq_true rfl) (Nat.le_of_ble_eq_true rfl) dX10_init_126 (fun q1891 H L1892 f1893 hq1894 hs1895 hm1896 hf1897 ho1898 hP hD hS => ?_)
  have hN1899 : [q1891, q1419, q1420, q1421, q1422, q1423, q1424, q1425, q1426, q1427, q1303, q951, q952, q953, q954, q955, q956, q957, q958, q959, q865, q633, q634, q635, q636, q637, q638, q639, q640, q641, q577, q478, q385, q318, q319, q277, q233, q198, q141, q90, q45, q21, q1].Nodup := List.nodup_cons.mpr ⟨fun h => hq1894 (hNs1460 _ h), hN1459⟩
  have hNs1900 : ∀ b, b ∈ [q1891, q1419, q1420, q1421, q1422, q1423, q1424, q1425, q1426, q1427, q1303, q951, q952, q953, q954, q955, q956, q957, q958, q959, q865, q633, q634, q635, q636, q637, q638, q639, q640, q641, q577, q478, q385, q318, q319, q277, q233, q198, q141, q90, q45, q21, q1] → b ∈ L1892 := List.forall_mem_cons.mpr ⟨hm1896, fun b hb => hs1895 b (hNs1460 b hb)⟩
  have hfr1901 : ∀ b, b ∈ L → b ≠ x → f1893 b = f b := fun b hb z0 => (ho1898 b (hsb1462 b hb)).trans (hfr1848 b hb z0)
  have hnq1903 : q1891 ∉ L := fun h => hq1894 (hsb1462 _ h)
  have hsb1902 : ∀ b, b ∈ L → b ∈ _ := fun b hb => hs1895 b (hsb1462 b hb)
  have hf1904 := (ho1898 x hm1472).trans hf1847
  have hn1906 : x ≠ q1891 := fun e => hq1894 (e ▸ hm1472)
  have hm1905 := hs1895 _ hm1472
  have hf1907 := (ho1898 q1 hm1483).trans hf1849
  have hn1909 : q1 ≠ q1891 := fun e => hq1894 (e ▸ hm1483)
  have hm1908 := hs1895 _ hm1483
  have hf1910 := (ho1898 q21 hm1494).trans hf1850
  have hn1912 : q21 ≠ q1891 := fun e => hq1894 (e ▸ hm1494)
  have hm1911 := hs1895 _ hm1494
  have hf1913 := (ho1898 q45 hm1505).trans hf1851
  have hn1915 : q45 ≠ q1891 := fun e => hq1894 (e ▸ hm1505)
  have hm1914 := hs1895 _ hm1505
  have hf1916 := (ho1898 q90 hm1516).trans hf1852
  have hn1918 : q90 ≠ q1891 := fun e => hq1894 (e ▸ hm1516)
  have hm1917 := hs1895 _ hm1516
  have hf1919 := (ho1898 q141 hm1527).trans hf1853
  have hn1921 : q141 ≠ q1891 := fun e => hq1894 (e ▸ hm1527)
  have hm1920 := hs1895 _ hm1527
  have hf1922 := (ho1898 q198 hm1538).trans hf1854
  have hn1924 : q198 ≠ q1891 := fun e => hq1894 (e ▸ hm1538)
  have hm1923 := hs1895 _ hm1538
  have hf1925 := (ho1898 q233 hm1549).trans hf1855
  have hn1927 : q233 ≠ q1891 := fun e => hq1894 (e ▸ hm1549)
  have hm1926 := hs1895 _ hm1549
  have hf1928 := (ho1898 q277 hm1560).trans hf1856
  have hn1930 : q277 ≠ q1891 := fun e => hq1894 (e ▸ hm1560)
  have hm1929 := hs1895 _ hm1560
  have hf1931 := (ho1898 q318 hm1571).trans hf1857
  have hn1933 : q318 ≠ q1891 := fun e => hq1894 (e ▸ hm1571)
  have hm1932 := hs1895 _ hm1571
  have hf1934 := (ho1898 q319 hm1582).trans hf1858
  have hn1936 : q319 ≠ q1891 := fun e => hq1894 (e ▸ hm1582)
  have hm1935 := hs1895 _ hm1582
  have hf1937 := (ho1898 q385 hm1593).trans hf1859
  have hn1939 : q385 ≠ q1891 := fun e => hq1894 (e ▸ hm1593)
  have hm1938 := hs1895 _ hm1593
  have hf1940 := (ho1898 q478 hm1604).trans hf1860
  have hn1942 : q478 ≠ q1891 := fun e => hq1894 (e ▸ hm1604)
  have hm1941 := hs1895 _ hm1604
  have hf1943 := (ho1898 q577 hm1615).trans hf1861
  have hn1945 : q577 ≠ q1891 := fun e => hq1894 (e ▸ hm1615)
  have hm1944 := hs1895 _ hm1615
  have hf1946 := (ho1898 q633 hm1626).trans hf1862
  have hn1948 : q633 ≠ q1891 := fun e => hq1894 (e ▸ hm1626)
  have hm1947 := hs1895 _ hm1626
  have hf1949 := (ho1898 q634 hm1637).trans hf1863
  have hn1951 : q634 ≠ q1891 := fun e => hq1894 (e ▸ hm1637)
  have hm1950 := hs1895 _ hm1637
  have hf1952 := (ho1898 q635 hm1648).trans hf1864
  have hn1954 : q635 ≠ q1891 := fun e => hq1894 (e ▸ hm1648)
  have hm1953 := hs1895 _ hm1648
  have hf1955 := (ho1898 q636 hm1659).trans hf1865
  have hn1957 : q636 ≠ q1891 := fun e => hq1894 (e ▸ hm1659)
  have hm1956 := hs1895 _ hm1659
  have hf1958 := (ho1898 q637 hm1670).trans hf1866
  have hn1960 : q637 ≠ q1891 := fun e => hq1894 (e ▸ hm1670)
  have hm1959 := hs1895 _ hm1670
  have hf1961 := (ho1898 q638 hm1681).trans hf1867
  have hn1963 : q638 ≠ q1891 := fun e => hq1894 (e ▸ hm1681)
  have hm1962 := hs1895 _ hm1681
  have hf1964 := (ho1898 q639 hm1692).trans hf1868
  have hn1966 : q639 ≠ q1891 := fun e => hq1894 (e ▸ hm1692)
  have hm1965 := hs1895 _ hm1692
  have hf1967 := (ho1898 q640 hm1703).trans hf1869
  have hn1969 : q640 ≠ q1891 := fun e => hq1894 (e ▸ hm1703)
  have hm1968 := hs1895 _ hm1703
  have hf1970 := (ho1898 q641 hm1714).trans hf1870
  have hn1972 : q641 ≠ q1891 := fun e => hq1894 (e ▸ hm1714)
  have hm1971 := hs1895 _ hm1714
  have hf1973 := (ho1898 q865 hm1725).trans hf1871
  have hn1975 : q865 ≠ q1891 := fun e => hq1894 (e ▸ hm1725)
  have hm1974 := hs1895 _ hm1725
  have hf1976 := (ho1898 q951 hm1736).trans hf1872
  have hn1978 : q951 ≠ q1891 := fun e => hq1894 (e ▸ hm1736)
  have hm1977 := hs1895 _ hm1736
  have hf1979 := (ho1898 q952 hm1747).trans hf1873
  have hn1981 : q952 ≠ q1891 := fun e => hq1894 (e ▸ hm1747)
  have hm1980 := hs1895 _ hm1747
  have hf1982 := (ho1898 q953 hm1758).trans hf1874
  have hn1984 : q953 ≠ q1891 := fun e => hq1894 (e ▸ hm1758)
  have hm1983 := hs1895 _ hm1758
  have hf1985 := (ho1898 q954 hm1769).trans hf1875
  have hn1987 : q954 ≠ q1891 := fun e => hq1894 (e ▸ hm1769)
  have hm1986 := hs1895 _ hm1769
  have hf1988 := (ho1898 q955 hm1780).trans hf1876
  have hn1990 : q955 ≠ q1891 := fun e => hq1894 (e ▸ hm1780)
  have hm1989 := hs1895 _ hm1780
  have hf1991 := (ho1898 q956 hm1791).trans hf1877
  have hn1993 : q956 ≠ q1891 := fun e => hq1894 (e ▸ hm1791)
  have hm1992 := hs1895 _ hm1791
  have hf1994 := (ho1898 q957 hm1802).trans hf1878
  have hn1996 : q957 ≠ q1891 := fun e => hq1894 (e ▸ hm1802)
  have hm1995 := hs1895 _ hm1802
  have hf1997 := (ho1898 q958 hm1813).trans hf1879
  have hn1999 : q958 ≠ q1891 := fun e => hq1894 (e ▸ hm1813)
  have hm1998 := hs1895 _ hm1813
  have hf2000 := (ho1898 q959 hm1824).trans hf1880
  have hn2002 : q959 ≠ q1891 := fun e => hq1894 (e ▸ hm1824)
  have hm2001 := hs1895 _ hm1824
  have hf2003 := (ho1898 q1303 hm1835).trans hf1881
  have hn2005 : q1303 ≠ q1891 := fun e => hq1894 (e ▸ hm1835)
  have hm2004 := hs1895 _ hm1835
  have hf2006 := (ho1898 q1419 hm1429).trans hf1882
  have hn2008 : q1419 ≠ q1891 := fun e => hq1894 (e ▸ hm1429)
  have hm2007 := hs1895 _ hm1429
  have hf2009 := (ho1898 q1420 hm1432).trans hf1883
  have hn2011 : q1420 ≠ q1891 := fun e => hq1894 (e ▸ hm1432)
  have hm2010 := hs1895 _ hm1432
  have hf2012 := (ho1898 q1421 hm1435).trans hf1884
  have hn2014 : q1421 ≠ q1891 := fun e => hq1894 (e ▸ hm1435)
  have hm2013 := hs1895 _ hm1435
  have hf2015 := (ho1898 q1422 hm1438).trans hf1885
  have hn2017 : q1422 ≠ q1891 := fun e => hq1894 (e ▸ hm1438)
  have hm2016 := hs1895 _ hm1438
  have hf2018 := (ho1898 q1423 hm1441).trans hf1886
  have hn2020 : q1423 ≠ q1891 := fun e => hq1894 (e ▸ hm1441)
  have hm2019 := hs1895 _ hm1441
  have hf2021 := (ho1898 q1424 hm1444).trans hf1887
  have hn2023 : q1424 ≠ q1891 := fun e => hq1894 (e ▸ hm1444)
  have hm2022 := hs1895 _ hm1444
  have hf2024 := (ho1898 q1425 hm1447).trans hf1888
  have hn2026 : q1425 ≠ q1891 := fun e => hq1894 (e ▸ hm1447)
  have hm2025 := hs1895 _ hm1447
  have hf2027 := (ho1898 q1426 hm1450).trans hf1889
  have hn2029 : q1426 ≠ q1891 := fun e => hq1894 (e ▸ hm1450)
  have hm2028 := hs1895 _ hm1450
  have hf2030 := (ho1898 q1427 hm1453).trans hf1890
  have hn2032 : q1427 ≠ q1891 := fun e => hq1894 (e ▸ hm1453)
  have hm2031 := hs1895 _ hm1453
  refine lv_dup hx hb dX10_init_129 rfl ?_
  refine call_v (run_IN (rm := { frames := 2, cells := 201, slots := 5540, locals := 32 }) hx hb hml hown hts (k_X0_init l g _ _ _ q1891 hm1896 hf1897) cI_X0_init wn_406 ⟨Nat.le_of_ble_eq_true rfl, Nat.le_of_ble_eq_true rfl⟩ hG hE hA hP hD hS rfl hl.1 (As := []) (rest := [.ref q1891, .ref x]) rfl (Nat.le_of_ble_eq_true rfl) dX10_init_130 ⟨Nat.le_of_ble_eq_true rfl, Nat.le_of_ble_eq_true rfl⟩) hA hD hS (fun L2034 f2035 H locs hp2036 hP hD hS => ?_)
  obtain ⟨q2037, r2038, aa2039, hn2040, hm2041, hf2042, hf2043, er2044, fr2045, sb2046⟩ := hp2036
  obtain ⟨er2044, er2044R, er2044ne, er2044rr⟩ := er2044
  have hN2047 : [q2037, q1891, q1419, q1420, q1421, q1422, q1423, q1424, q1425, q1426, q1427, q1303, q951, q952, q953, q954, q955, q956, q957, q958, q959, q865, q633, q634, q635, q636, q637, q638, q639, q640, q641, q577, q478, q385, q318, q319, q277, q233, q198, q141, q90, q45, q21, q1].Nodup := nd_app (l := [q2037]) (k := [q1891, q1419, q1420, q1421, q1422, q1423, q1424, q1425, q1426, q1427, q1303, q951, q952, q953, q954, q955, q956, q957, q958, q959, q865, q633, q634, q635, q636, q637, q638, q639, q640, q641, q577, q478, q385, q318, q319, q277, q233, q198, q141, q90, q45, q21, q1]) er2044 (List.forall_mem_cons.mpr ⟨hn2040, (fun _ h => absurd h List.not_mem_nil)⟩) hN1899 hNs1900
  have hNs2048 : ∀ b, b ∈ [q2037, q1891, q1419, q1420, q1421, q1422, q1423, q1424, q1425, q1426, q1427, q1303, q951, q952, q953, q954, q955, q956, q957, q958, q959, q865, q633, q634, q635, q636, q637, q638, q639, q640, q641, q577, q478, q385, q318, q319, q277, q233, q198, q141, q90, q45, q21, q1] → b ∈ L2034 := fm_app (l := [q2037]) (k := [q1891, q1419, q1420, q1421, q1422, q1423, q1424, q1425, q1426, q1427, q1303, q951, q952, q953, q954, q955, q956, q957, q958, q959, q865, q633, q634, q635, q636, q637, q638, q639, q640, q641, q577, q478, q385, q318, q319, q277, q233, q198, q141, q90, q45, q21, q1]) (List.forall_mem_cons.mpr ⟨hm2041, (fun _ h => absurd h List.not_mem_nil)⟩) (fun b hb => sb2046 b (hNs1900 b hb))
  have hfr2049 : ∀ b, b ∈ L → b ≠ x → f2035 b = f b := fun b hb z0 => (fr2045 b (hsb1902 b hb) (fun e => hnq1903 (e ▸ hb))).trans (hfr1901 b hb z0)
  have hnq2051 : q2037 ∉ L := fun h => hn2040 (hsb1902 _ h)
  have hsb2050 : ∀ b, b ∈ L → b ∈ L2034 := fun b hb => sb2046 b (hsb1902 b hb)
  have hn2053 : x ≠ q2037 := fun e => hn2040 (e ▸ hm1905)
  have hf2054 := (fr2045 x hm1905 hn1906).trans hf1904
  have hm2052 := sb2046 _ hm1905
  have hn2056 : q1 ≠ q2037 := fun e => hn2040 (e ▸ hm1908)
  have hf2057 := (fr2045 q1 hm1908 hn1909).trans hf1907
  have hm2055 := sb2046 _ hm1908
  have hn2059 : q21 ≠ q2037 := fun e => hn2040 (e ▸ hm1911)
  have hf2060 := (fr2045 q21 hm1911 hn1912).trans hf1910
  have hm2058 := sb2046 _ hm1911
  have hn2062 : q45 ≠ q2037 := fun e => hn2040 (e ▸ hm1914)
  have hf2063 := (fr2045 q45 hm1914 hn1915).trans hf1913
  have hm2061 := sb2046 _ hm1914
  have hn2065 : q90 ≠ q2037 := fun e => hn2040 (e ▸ hm1917)
  have hf2066 := (fr2045 q90 hm1917 hn1918).trans hf1916
  have hm2064 := sb2046 _ hm1917
  have hn2068 : q141 ≠ q2037 := fun e => hn2040 (e ▸ hm1920)
  have hf2069 := (fr2045 q141 hm1920 hn1921).trans hf1919
  have hm2067 := sb2046 _ hm1920
  have hn2071 : q198 ≠ q2037 := fun e => hn2040 (e ▸ hm1923)
  have hf2072 := (fr2045 q198 hm1923 hn1924).trans hf1922
  have hm2070 := sb2046 _ hm1923
  have hn2074 : q233 ≠ q2037 := fun e => hn2040 (e ▸ hm1926)
  have hf2075 := (fr2045 q233 hm1926 hn1927).trans hf1925
  have hm2073 := sb2046 _ hm1926
  have hn2077 : q277 ≠ q2037 := fun e => hn2040 (e ▸ hm1929)
  have hf2078 := (fr2045 q277 hm1929 hn1930).trans hf1928
  have hm2076 := sb2046 _ hm1929
  have hn2080 : q318 ≠ q2037 := fun e => hn2040 (e ▸ hm1932)
  have hf2081 := (fr2045 q318 hm1932 hn1933).trans hf1931
  have hm2079 := sb2046 _ hm1932
  have hn2083 : q319 ≠ q2037 := fun e => hn2040 (e ▸ hm1935)
  have hf2084 := (fr2045 q319 hm1935 hn1936).trans hf1934
  have hm2082 := sb2046 _ hm1935
  have hn2086 : q385 ≠ q2037 := fun e => hn2040 (e ▸ hm1938)
  have hf2087 := (fr2045 q385 hm1938 hn1939).trans hf1937
  have hm2085 := sb2046 _ hm1938
  have hn2089 : q478 ≠ q2037 := fun e => hn2040 (e ▸ hm1941)
  have hf2090 := (fr2045 q478 hm1941 hn1942).trans hf1940
  have hm2088 := sb2046 _ hm1941
  have hn2092 : q577 ≠ q2037 := fun e => hn2040 (e ▸ hm1944)
  have hf2093 := (fr2045 q577 hm1944 hn1945).trans hf1943
  have hm2091 := sb2046 _ hm1944
  have hn2095 : q633 ≠ q2037 := fun e => hn2040 (e ▸ hm1947)
  have hf2096 := (fr2045 q633 hm1947 hn1948).trans hf1946
  have hm2094 := sb2046 _ hm1947
  have hn2098 : q634 ≠ q2037 := fun e => hn2040 (e ▸ hm1950)
  have hf2099 := (fr2045 q634 hm1950 hn1951).trans hf1949
  have hm2097 := sb2046 _ hm1950
  have hn2101 : q635 ≠ q2037 := fun e => hn2040 (e ▸ hm1953)
  have hf2102 := (fr2045 q635 hm1953 hn1954).trans hf1952
  have hm2100 := sb2046 _ hm1953
  have hn2104 : q636 ≠ q2037 := fun e => hn2040 (e ▸ hm1956)
  have hf2105 := (fr2045 q636 hm1956 hn1957).trans hf1955
  have hm2103 := sb2046 _ hm1956
  have hn2107 : q637 ≠ q2037 := fun e => hn2040 (e ▸ hm1959)
  have hf2108 := (fr2045 q637 hm1959 hn1960).trans hf1958
  have hm2106 := sb2046 _ hm1959
  have hn2110 : q638 ≠ q2037 := fun e => hn2040 (e ▸ hm1962)
  have hf2111 := (fr2045 q638 hm1962 hn1963).trans hf1961
  have hm2109 := sb2046 _ hm1962
  have hn2113 : q639 ≠ q2037 := fun e => hn2040 (e ▸ hm1965)
  have hf2114 := (fr2045 q639 hm1965 hn1966).trans hf1964
  have hm2112 := sb2046 _ hm1965
  have hn2116 : q640 ≠ q2037 := fun e => hn2040 (e ▸ hm1968)
  have hf2117 := (fr2045 q640 hm1968 hn1969).trans hf1967
  have hm2115 := sb2046 _ hm1968
  have hn2119 : q641 ≠ q2037 := fun e => hn2040 (e ▸ hm1971)
  have hf2120 := (fr2045 q641 hm1971 hn1972).trans hf1970
  have hm2118 := sb2046 _ hm1971
  have hn2122 : q865 ≠ q2037 := fun e => hn2040 (e ▸ hm1974)
  have hf2123 := (fr2045 q865 hm1974 hn1975).trans hf1973
  have hm2121 := sb2046 _ hm1974
  have hn2125 : q951 ≠ q2037 := fun e => hn2040 (e ▸ hm1977)
  have hf2126 := (fr2045 q951 hm1977 hn1978).trans hf1976
  have hm2124 := sb2046 _ hm1977
  have hn2128 : q952 ≠ q2037 := fun e => hn2040 (e ▸ hm1980)
  have hf2129 := (fr2045 q952 hm1980 hn1981).trans hf1979
  have hm2127 := sb2046 _ hm1980
  have hn2131 : q953 ≠ q2037 := fun e => hn2040 (e ▸ hm1983)
  have hf2132 := (fr2045 q953 hm1983 hn1984).trans hf1982
  have hm2130 := sb2046 _ hm1983
  have hn2134 : q954 ≠ q2037 := fun e => hn2040 (e ▸ hm1986)
  have hf2135 := (fr2045 q954 hm1986 hn1987).trans hf1985
  have hm2133 := sb2046 _ hm1986
  have hn2137 : q955 ≠ q2037 := fun e => hn2040 (e ▸ hm1989)
  have hf2138 := (fr2045 q955 hm1989 hn1990).trans hf1988
  have hm2136 := sb2046 _ hm1989
  have hn2140 : q956 ≠ q2037 := fun e => hn2040 (e ▸ hm1992)
  have hf2141 := (fr2045 q956 hm1992 hn1993).trans hf1991
  have hm2139 := sb2046 _ hm1992
  have hn2143 : q957 ≠ q2037 := fun e => hn2040 (e ▸ hm1995)
  have hf2144 := (fr2045 q957 hm1995 hn1996).trans hf1994
  have hm2142 := sb2046 _ hm1995
  have hn2146 : q958 ≠ q2037 := fun e => hn2040 (e ▸ hm1998)
  have hf2147 := (fr2045 q958 hm1998 hn1999).trans hf1997
  have hm2145 := sb2046 _ hm1998
  have hn2149 : q959 ≠ q2037 := fun e => hn2040 (e ▸ hm2001)
  have hf2150 := (fr2045 q959 hm2001 hn2002).trans hf2000
  have hm2148 := sb2046 _ hm2001
  have hn2152 : q1303 ≠ q2037 := fun e => hn2040 (e ▸ hm2004)
  have hf2153 := (fr2045 q1303 hm2004 hn2005).trans hf2003
  have hm2151 := sb2046 _ hm2004
  have hn2155 : q1419 ≠ q2037 := fun e => hn2040 (e ▸ hm2007)
  have hf2156 := (fr2045 q1419 hm2007 hn2008).trans hf2006
  have hm2154 := sb2046 _ hm2007
  have hn2158 : q1420 ≠ q2037 := fun e => hn2040 (e ▸ hm2010)
  have hf2159 := (fr2045 q1420 hm2010 hn2011).trans hf2009
  have hm2157 := sb2046 _ hm2010
  have hn2161 : q1421 ≠ q2037 := fun e => hn2040 (e ▸ hm2013)
  have hf2162 := (fr2045 q1421 hm2013 hn2014).trans hf2012
  have hm2160 := sb2046 _ hm2013
  have hn2164 : q1422 ≠ q2037 := fun e => hn2040 (e ▸ hm2016)
  have hf2165 := (fr2045 q1422 hm2016 hn2017).trans hf2015
  have hm2163 := sb2046 _ hm2016
  have hn2167 : q1423 ≠ q2037 := fun e => hn2040 (e ▸ hm2019)
  have hf2168 := (fr2045 q1423 hm2019 hn2020).trans hf2018
  have hm2166 := sb2046 _ hm2019
  have hn2170 : q1424 ≠ q2037 := fun e => hn2040 (e ▸ hm2022)
  have hf2171 := (fr2045 q1424 hm2022 hn2023).trans hf2021
  have hm2169 := sb2046 _ hm2022
  have hn2173 : q1425 ≠ q2037 := fun e => hn2040 (e ▸ hm2025)
  have hf2174 := (fr2045 q1425 hm2025 hn2026).trans hf2024
  have hm2172 := sb2046 _ hm2025
  have hn2176 : q1426 ≠ q2037 := fun e => hn2040 (e ▸ hm2028)
  have hf2177 := (fr2045 q1426 hm2028 hn2029).trans hf2027
  have hm2175 := sb2046 _ hm2028
  have hn2179 : q1427 ≠ q2037 := fun e => hn2040 (e ▸ hm2031)
  have hf2180 := (fr2045 q1427 hm2031 hn2032).trans hf2030
  have hm2178 := sb2046 _ hm2031
  have hn2182 : q1891 ≠ q2037 := fun e => hn2040 (e ▸ hm1896)
  have hm2181 := sb2046 _ hm1896
  refine pl_putF (ty := (.object "RulerWord$Acts")) (v := .ref q1891) (fs' := [.ref q1, .ref q45, .ref q90, .ref q141, .ref q198, .ref q277, .ref q385, .ref q478, .ref q577, .ref q865, .ref q1303, .ref q1891, .null, .null, .null, .int 0, .int 0, .long 0]) hx hb hts (fun w h => mT (inX10 w h)) tyX10 tyX10_ok nmX10 hown hG.1 hP hD hS hm2052 hf2054 rfl 11 (by decide) (hts _ (mT wg_486)) (fun _ h => h) rfl hnm rfl (by decide +kernel) (rfl) (rfl) (Nat.le_of_ble_eq_true rfl) rfl dX10_init_133 (fun H locs f2183 hf2185 ho2184 hP hD hS => ?_)
  have hR2186 : RINGP g L1892 L2034 f2183 20 aa2039 := RINGP.tr er2044R (fun j hj k hk e => (er2044R.1 j hj k hk).2 (e ▸ hm1905)) (fun b hb => hb) (fun b _ hb => ho2184 b hb)
  have hfr2187 : ∀ b, b ∈ L → b ≠ x → f2183 b = f b := fun b hb z0 => (ho2184 b z0).trans (hfr2049 b hb z0)
  have hf2188 := (ho2184 q1 hn16.symm).trans hf2057
  have hf2189 := (ho2184 q21 hn35.symm).trans hf2060
  have hf2190 := (ho2184 q45 hn60.symm).trans hf2063
  have hf2191 := (ho2184 q90 hn105.symm).trans hf2066
  have hf2192 := (ho2184 q141 hn156.symm).trans hf2069
  have hf2193 := (ho2184 q198 hn213.symm).trans hf2072
  have hf2194 := (ho2184 q233 hn247.symm).trans hf2075
  have hf2195 := (ho2184 q277 hn292.symm).trans hf2078
  have hf2196 := (ho2184 q318 hn337.symm).trans hf2081
  have hf2197 := (ho2184 q319 hn338.symm).trans hf2084
  have hf2198 := (ho2184 q385 hn400.symm).trans hf2087
  have hf2199 := (ho2184 q478 hn493.symm).trans hf2090
  have hf2200 := (ho2184 q577 hn592.symm).trans hf2093
  have hf2201 := (ho2184 q633 hn687.symm).trans hf2096
  have hf2202 := (ho2184 q634 hn688.symm).trans hf2099
  have hf2203 := (ho2184 q635 hn689.symm).trans hf2102
  have hf2204 := (ho2184 q636 hn690.symm).trans hf2105
  have hf2205 := (ho2184 q637 hn691.symm).trans hf2108
  have hf2206 := (ho2184 q638 hn692.symm).trans hf2111
  have hf2207 := (ho2184 q639 hn693.symm).trans hf2114
  have hf2208 := (ho2184 q640 hn694.symm).trans hf2117
  have hf2209 := (ho2184 q641 hn695.symm).trans hf2120
  have hf2210 := (ho2184 q865 hn880.symm).trans hf2123
  have hf2211 := (ho2184 q951 hn1005.symm).trans hf2126
  have hf2212 := (ho2184 q952 hn1006.symm).trans hf2129
  have hf2213 := (ho2184 q953 hn1007.symm).trans hf2132
  have hf2214 := (ho2184 q954 hn1008.symm).trans hf2135
  have hf2215 := (ho2184 q955 hn1009.symm).trans hf2138
  have hf2216 := (ho2184 q956 hn1010.symm).trans hf2141
  have hf2217 := (ho2184 q957 hn1011.symm).trans hf2144
  have hf2218 := (ho2184 q958 hn1012.symm).trans hf2147
  have hf2219 := (ho2184 q959 hn1013.symm).trans hf2150
  have hf2220 := (ho2184 q1303 hn1318.symm).trans hf2153
  have hf2221 := (ho2184 q1419 hn1473.symm).trans hf2156
  have hf2222 := (ho2184 q1420 hn1474.symm).trans hf2159
  have hf2223 := (ho2184 q1421 hn1475.symm).trans hf2162
  have hf2224 := (ho2184 q1422 hn1476.symm).trans hf2165
  have hf2225 := (ho2184 q1423 hn1477.symm).trans hf2168
  have hf2226 := (ho2184 q1424 hn1478.symm).trans hf2171
  have hf2227 := (ho2184 q1425 hn1479.symm).trans hf2174
  have hf2228 := (ho2184 q1426 hn1480.symm).trans hf2177
  have hf2229 := (ho2184 q1427 hn1481.symm).trans hf2180
  have hf2230 := (ho2184 q1891 hn1906.symm).trans hf2043
  have hf2231 := (ho2184 q2037 hn2053.symm).trans hf2042
  refine lv_aload_n hx hb dX10_init_136 rfl (lv_at hl 0 rfl) ?_
  refine pl_new (ci := 7) (fs := [.null, .null, .null, .null, .null, .null, .int 0, .int 0, .int 0, .int 0, .int 0, .int 0, .int 0, .int 0]) (C := RX7) (T := TX7) (N := 14) hx hb hts (fun w h => mT (inX7 w h)) tyX7 tyX7_ok hown (hts _ (mT wg_424)) (hts _ (mT wg_425)) (hts _ (mT wg_167)) hG.1 hP hD hS hA rfl dvX7 (Nat.le_of_ble_eq_true rfl) (Nat.le_of_ble_eq_true rfl) dX10_init_137 (fun q2232 H L2233 f2234 hq2235 hs2236 hm2237 hf2238 ho2239 hP hD hS => ?_)
  have hN2240 : [q2232, q2037, q1891, q1419, q1420, q1421, q1422, q1423, q1424, q1425, q1426, q1427, q1303, q951, q952, q953, q954, q955, q956, q957, q958, q959, q865, q633, q634, q635, q636, q637, q638, q639, q640, q641, q577, q478, q385, q318, q319, q277, q233, q198, q141, q90, q45, q21, q1].Nodup := List.nodup_cons.mpr ⟨fun h => hq2235 (hNs2048 _ h), hN2047⟩
  have hNs2241 : ∀ b, b ∈ [q2232, q2037, q1891, q1419, q1420, q1421, q1422, q1423, q1424, q1425, q1426, q1427, q1303, q951, q952, q953, q954, q955, q956, q957, q958, q959, q865, q633, q634, q635, q636, q637, q638, q639, q640, q641, q577, q478, q385, q318, q319, q277, q233, q198, q141, q90, q45, q21, q1] → b ∈ L2233 := List.forall_mem_cons.mpr ⟨hm2237, fun b hb => hs2236 b (hNs2048 b hb)⟩
  have hRq2242 : ∀ j, j < 20 → ∀ k, k < 10 → aa2039 j k ≠ q2232 := fun j hj k hk e => hq2235 (e ▸ (hR2186.1 j hj k hk).1)
  have hR2243 : RINGP g L1892 L2233 f2234 20 aa2039 := RINGP.tr hR2186 hRq2242 hs2236 (fun b hb _ => ho2239 b hb)
  have hfr2244 : ∀ b, b ∈ L → b ≠ x → f2234 b = f b := fun b hb z0 => (ho2239 b (hsb2050 b hb)).trans (hfr2187 b hb z0)
  have hnq2246 : q2232 ∉ L := fun h => hq2235 (hsb2050 _ h)
  have hsb2245 : ∀ b, b ∈ L → b ∈ _ := fun b hb => hs2236 b (hsb2050 b hb)
  have hf2247 := (ho2239 x hm2052).trans hf2185
  have hn2249 : x ≠ q2232 := fun e => hq2235 (e ▸ hm2052)
  have hm2248 := hs2236 _ hm2052
  have hf2250 := (ho2239 q1 hm2055).trans hf2188
  have hn2252 : q1 ≠ q2232 := fun e => hq2235 (e ▸ hm2055)
  have hm2251 := hs2236 _ hm2055
  have hf2253 := (ho2239 q21 hm2058).trans hf2189
  have hn2255 : q21 ≠ q2232 := fun e => hq2235 (e ▸ hm2058)
  have hm2254 := hs2236 _ hm2058
  have hf2256 := (ho2239 q45 hm2061).trans hf2190
  have hn2258 : q45 ≠ q2232 := fun e => hq2235 (e ▸ hm2061)
  have hm2257 := hs2236 _ hm2061
  have hf2259 := (ho2239 q90 hm2064).trans hf2191
  have hn2261 : q90 ≠ q2232 := fun e => hq2235 (e ▸ hm2064)
  have hm2260 := hs2236 _ hm2064
  have hf2262 := (ho2239 q141 hm2067).trans hf2192
  have hn2264 : q141 ≠ q2232 := fun e => hq2235 (e ▸ hm2067)
  have hm2263 := hs2236 _ hm2067
  have hf2265 := (ho2239 q198 hm2070).trans hf2193
  have hn2267 : q198 ≠ q2232 := fun e => hq2235 (e ▸ hm2070)
  have hm2266 := hs2236 _ hm2070
  have hf2268 := (ho2239 q233 hm2073).trans hf2194
  have hn2270 : q233 ≠ q2232 := fun e => hq2235 (e ▸ hm2073)
  have hm2269 := hs2236 _ hm2073
  have hf2271 := (ho2239 q277 hm2076).trans hf2195
  have hn2273 : q277 ≠ q2232 := fun e => hq2235 (e ▸ hm2076)
  have hm2272 := hs2236 _ hm2076
  have hf2274 := (ho2239 q318 hm2079).trans hf2196
  have hn2276 : q318 ≠ q2232 := fun e => hq2235 (e ▸ hm2079)
  have hm2275 := hs2236 _ hm2079
  have hf2277 := (ho2239 q319 hm2082).trans hf2197
  have hn2279 : q319 ≠ q2232 := fun e => hq2235 (e ▸ hm2082)
  have hm2278 := hs2236 _ hm2082
  have hf2280 := (ho2239 q385 hm2085).trans hf2198
  have hn2282 : q385 ≠ q2232 := fun e => hq2235 (e ▸ hm2085)
  have hm2281 := hs2236 _ hm2085
  have hf2283 := (ho2239 q478 hm2088).trans hf2199
  have hn2285 : q478 ≠ q2232 := fun e => hq2235 (e ▸ hm2088)
  have hm2284 := hs2236 _ hm2088
  have hf2286 := (ho2239 q577 hm2091).trans hf2200
  have hn2288 : q577 ≠ q2232 := fun e => hq2235 (e ▸ hm2091)
  have hm2287 := hs2236 _ hm2091
  have hf2289 := (ho2239 q633 hm2094).trans hf2201
  have hn2291 : q633 ≠ q2232 := fun e => hq2235 (e ▸ hm2094)
  have hm2290 := hs2236 _ hm2094
  have hf2292 := (ho2239 q634 hm2097).trans hf2202
  have hn2294 : q634 ≠ q2232 := fun e => hq2235 (e ▸ hm2097)
  have hm2293 := hs2236 _ hm2097
  have hf2295 := (ho2239 q635 hm2100).trans hf2203
  have hn2297 : q635 ≠ q2232 := fun e => hq2235 (e ▸ hm2100)
  have hm2296 := hs2236 _ hm2100
  have hf2298 := (ho2239 q636 hm2103).trans hf2204
  have hn2300 : q636 ≠ q2232 := fun e => hq2235 (e ▸ hm2103)
  have hm2299 := hs2236 _ hm2103
  have hf2301 := (ho2239 q637 hm2106).trans hf2205
  have hn2303 : q637 ≠ q2232 := fun e => hq2235 (e ▸ hm2106)
  have hm2302 := hs2236 _ hm2106
  have hf2304 := (ho2239 q638 hm2109).trans hf2206
  have hn2306 : q638 ≠ q2232 := fun e => hq2235 (e ▸ hm2109)
  have hm2305 := hs2236 _ hm2109
  have hf2307 := (ho2239 q639 hm2112).trans hf2207
  have hn2309 : q639 ≠ q2232 := fun e => hq2235 (e ▸ hm2112)
  have hm2308 := hs2236 _ hm2112
  have hf2310 := (ho2239 q640 hm2115).trans hf2208
  have hn2312 : q640 ≠ q2232 := fun e => hq2235 (e ▸ hm2115)
  have hm2311 := hs2236 _ hm2115
  have hf2313 := (ho2239 q641 hm2118).trans hf2209
  have hn2315 : q641 ≠ q2232 := fun e => hq2235 (e ▸ hm2118)
  have hm2314 := hs2236 _ hm2118
  have hf2316 := (ho2239 q865 hm2121).trans hf2210
  have hn2318 : q865 ≠ q2232 := fun e => hq2235 (e ▸ hm2121)
  have hm2317 := hs2236 _ hm2121
  have hf2319 := (ho2239 q951 hm2124).trans hf2211
  have hn2321 : q951 ≠ q2232 := fun e => hq2235 (e ▸ hm2124)
  have hm2320 := hs2236 _ hm2124
  have hf2322 := (ho2239 q952 hm2127).trans hf2212
  have hn2324 : q952 ≠ q2232 := fun e => hq2235 (e ▸ hm2127)
  have hm2323 := hs2236 _ hm2127
  have hf2325 := (ho2239 q953 hm2130).trans hf2213
  have hn2327 : q953 ≠ q2232 := fun e => hq2235 (e ▸ hm2130)
  have hm2326 := hs2236 _ hm2130
  have hf2328 := (ho2239 q954 hm2133).trans hf2214
  have hn2330 : q954 ≠ q2232 := fun e => hq2235 (e ▸ hm2133)
  have hm2329 := hs2236 _ hm2133
  have hf2331 := (ho2239 q955 hm2136).trans hf2215
  have hn2333 : q955 ≠ q2232 := fun e => hq2235 (e ▸ hm2136)
  have hm2332 := hs2236 _ hm2136
  have hf2334 := (ho2239 q956 hm2139).trans hf2216
  have hn2336 : q956 ≠ q2232 := fun e => hq2235 (e ▸ hm2139)
  have hm2335 := hs2236 _ hm2139
  have hf2337 := (ho2239 q957 hm2142).trans hf2217
  have hn2339 : q957 ≠ q2232 := fun e => hq2235 (e ▸ hm2142)
  have hm2338 := hs2236 _ hm2142
  have hf2340 := (ho2239 q958 hm2145).trans hf2218
  have hn2342 : q958 ≠ q2232 := fun e => hq2235 (e ▸ hm2145)
  have hm2341 := hs2236 _ hm2145
  have hf2343 := (ho2239 q959 hm2148).trans hf2219
  have hn2345 : q959 ≠ q2232 := fun e => hq2235 (e ▸ hm2148)
  have hm2344 := hs2236 _ hm2148
  have hf2346 := (ho2239 q1303 hm2151).trans hf2220
  have hn2348 : q1303 ≠ q2232 := fun e => hq2235 (e ▸ hm2151)
  have hm2347 := hs2236 _ hm2151
  have hf2349 := (ho2239 q1419 hm2154).trans hf2221
  have hn2351 : q1419 ≠ q2232 := fun e => hq2235 (e ▸ hm2154)
  have hm2350 := hs2236 _ hm2154
  have hf2352 := (ho2239 q1420 hm2157).trans hf2222
  have hn2354 : q1420 ≠ q2232 := fun e => hq2235 (e ▸ hm2157)
  have hm2353 := hs2236 _ hm2157
  have hf2355 := (ho2239 q1421 hm2160).trans hf2223
  have hn2357 : q1421 ≠ q2232 := fun e => hq2235 (e ▸ hm2160)
  have hm2356 := hs2236 _ hm2160
  have hf2358 := (ho2239 q1422 hm2163).trans hf2224
  have hn2360 : q1422 ≠ q2232 := fun e => hq2235 (e ▸ hm2163)
  have hm2359 := hs2236 _ hm2163
  have hf2361 := (ho2239 q1423 hm2166).trans hf2225
  have hn2363 : q1423 ≠ q2232 := fun e => hq2235 (e ▸ hm2166)
  have hm2362 := hs2236 _ hm2166
  have hf2364 := (ho2239 q1424 hm2169).trans hf2226
  have hn2366 : q1424 ≠ q2232 := fun e => hq2235 (e ▸ hm2169)
  have hm2365 := hs2236 _ hm2169
  have hf2367 := (ho2239 q1425 hm2172).trans hf2227
  have hn2369 : q1425 ≠ q2232 := fun e => hq2235 (e ▸ hm2172)
  have hm2368 := hs2236 _ hm2172
  have hf2370 := (ho2239 q1426 hm2175).trans hf2228
  have hn2372 : q1426 ≠ q2232 := fun e => hq2235 (e ▸ hm2175)
  have hm2371 := hs2236 _ hm2175
  have hf2373 := (ho2239 q1427 hm2178).trans hf2229
  have hn2375 : q1427 ≠ q2232 := fun e => hq2235 (e ▸ hm2178)
  have hm2374 := hs2236 _ hm2178
  have hf2376 := (ho2239 q1891 hm2181).trans hf2230
  have hn2378 : q1891 ≠ q2232 := fun e => hq2235 (e ▸ hm2181)
  have hm2377 := hs2236 _ hm2181
  have hf2379 := (ho2239 q2037 hm2041).trans hf2231
  have hn2381 : q2037 ≠ q2232 := fun e => hq2235 (e ▸ hm2041)
  have hm2380 := hs2236 _ hm2041
  refine lv_dup hx hb dX10_init_140 rfl ?_
  refine call_v (run_IN (rm := { frames := 2, cells := 6, slots := 288, locals := 32 }) hx hb hml hown hts (k_X7_init l g _ _ _ q2232 hm2237 hf2238) cI_X7_init wn_426 ⟨Nat.le_of_ble_eq_true rfl, Nat.le_of_ble_eq_true rfl⟩ hG hE hA hP hD hS rfl hl.1 (As := []) (rest := [.ref q2232, .ref x]) rfl (Nat.le_of_ble_eq_true rfl) dX10_init_141 ⟨Nat.le_of_ble_eq_true rfl, Nat.le_of_ble_eq_true rfl⟩) hA hD hS (fun L2383 f2384 H locs hp2385 hP hD hS => ?_)
  obtain ⟨q2386, q2387, q2388, q2389, q2390, q2391, hn2392, hm2393, hf2394, hn2395, hm2396, hf2397, hn2398, hm2399, hf2400, hn2401, hm2402, hf2403, hn2404, hm2405, hf2406, hn2407, hm2408, hf2409, hf2410, er2411, fr2412, sb2413⟩ := hp2385
  have hN2414 : [q2386, q2387, q2388, q2389, q2390, q2391, q2232, q2037, q1891, q1419, q1420, q1421, q1422, q1423, q1424, q1425, q1426, q1427, q1303, q951, q952, q953, q954, q955, q956, q957, q958, q959, q865, q633, q634, q635, q636, q637, q638, q639, q640, q641, q577, q478, q385, q318, q319, q277, q233, q198, q141, q90, q45, q21, q1].Nodup := nd_app (l := [q2386, q2387, q2388, q2389, q2390, q2391]) (k := [q2232, q2037, q1891, q1419, q1420, q1421, q1422, q1423, q1424, q1425, q1426, q1427, q1303, q951, q952, q953, q954, q955, q956, q957, q958, q959, q865, q633, q634, q635, q636, q637, q638, q639, q640, q641, q577, q478, q385, q318, q319, q277, q233, q198, q141, q90, q45, q21, q1]) er2411 (List.forall_mem_cons.mpr ⟨hn2392, (List.forall_mem_cons.mpr ⟨hn2395, (List.forall_mem_cons.mpr ⟨hn2398, (List.forall_mem_cons.mpr ⟨hn2401, (List.forall_mem_cons.mpr ⟨hn2404, (List.forall_mem_cons.mpr ⟨hn2407, (fun _ h => absurd h List.not_mem_nil)⟩)⟩)⟩)⟩)⟩)⟩) hN2240 hNs2241
  have hNs2415 : ∀ b, b ∈ [q2386, q2387, q2388, q2389, q2390, q2391, q2232, q2037, q1891, q1419, q1420, q1421, q1422, q1423, q1424, q1425, q1426, q1427, q1303, q951, q952, q953, q954, q955, q956, q957, q958, q959, q865, q633, q634, q635, q636, q637, q638, q639, q640, q641, q577, q478, q385, q318, q319, q277, q233, q198, q141, q90, q45, q21, q1] → b ∈ L2383 := fm_app (l := [q2386, q2387, q2388, q2389, q2390, q2391]) (k := [q2232, q2037, q1891, q1419, q1420, q1421, q1422, q1423, q1424, q1425, q1426, q1427, q1303, q951, q952, q953, q954, q955, q956, q957, q958, q959, q865, q633, q634, q635, q636, q637, q638, q639, q640, q641, q577, q478, q385, q318, q319, q277, q233, q198, q141, q90, q45, q21, q1]) (List.forall_mem_cons.mpr ⟨hm2393, (List.forall_mem_cons.mpr ⟨hm2396, (List.forall_mem_cons.mpr ⟨hm2399, (List.forall_mem_cons.mpr ⟨hm2402, (List.forall_mem_cons.mpr ⟨hm2405, (List.forall_mem_cons.mpr ⟨hm2408, (fun _ h => absurd h List.not_mem_nil)⟩)⟩)⟩)⟩)⟩)⟩) (fun b hb => sb2413 b (hNs2241 b hb))
  have hRq2416 : ∀ j, j < 20 → ∀ k, k < 10 → aa2039 j k ≠ q2386 := fun j hj k hk e => hn2392 (e ▸ (hR2243.1 j hj k hk).1)
  have hRq2417 : ∀ j, j < 20 → ∀ k, k < 10 → aa2039 j k ≠ q2387 := fun j hj k hk e => hn2395 (e ▸ (hR2243.1 j hj k hk).1)
  have hRq2418 : ∀ j, j < 20 → ∀ k, k < 10 → aa2039 j k ≠ q2388 := fun j hj k hk e => hn2398 (e ▸ (hR2243.1 j hj k hk).1)
  have hRq2419 : ∀ j, j < 20 → ∀ k, k < 10 → aa2039 j k ≠ q2389 := fun j hj k hk e => hn2401 (e ▸ (hR2243.1 j hj k hk).1)
  have hRq2420 : ∀ j, j < 20 → ∀ k, k < 10 → aa2039 j k ≠ q2390 := fun j hj k hk e => hn2404 (e ▸ (hR2243.1 j hj k hk).1)
  have hRq2421 : ∀ j, j < 20 → ∀ k, k < 10 → aa2039 j k ≠ q2391 := fun j hj k hk e => hn2407 (e ▸ (hR2243.1 j hj k hk).1)
  have hR2422 : RINGP g L1892 L2383 f2384 20 aa2039 := RINGP.tr hR2243 hRq2242 sb2413 (fun b hb hn => fr2412 b hb hn)
  have hfr2423 : ∀ b, b ∈ L → b ≠ x → f2384 b = f b := fun b hb z0 => (fr2412 b (hsb2245 b hb) (fun e => hnq2246 (e ▸ hb))).trans (hfr2244 b hb z0)
  have hnq2425 : q2386 ∉ L := fun h => hn2392 (hsb2245 _ h)
  have hnq2426 : q2387 ∉ L := fun h => hn2395 (hsb2245 _ h)
  have hnq2427 : q2388 ∉ L := fun h => hn2398 (hsb2245 _ h)
  have hnq2428 : q2389 ∉ L := fun h => hn2401 (hsb2245 _ h)
  have hnq2429 : q2390 ∉ L := fun h => hn2404 (hsb2245 _ h)
  have hnq2430 : q2391 ∉ L := fun h => hn2407 (hsb2245 _ h)
  have hsb2424 : ∀ b, b ∈ L → b ∈ L2383 := fun b hb => sb2413 b (hsb2245 b hb)
  have hn2432 : x ≠ q2386 := fun e => hn2392 (e ▸ hm2248)
  have hn2433 : x ≠ q2387 := fun e => hn2395 (e ▸ hm2248)
  have hn2434 : x ≠ q2388 := fun e => hn2398 (e ▸ hm2248)
  have hn2435 : x ≠ q2389 := fun e => hn2401 (e ▸ hm2248)
  have hn2436 : x ≠ q2390 := fun e => hn2404 (e ▸ hm2248)
  have hn2437 : x ≠ q2391 := fun e => hn2407 (e ▸ hm2248)
  have hf2438 := (fr2412 x hm2248 hn2249).trans hf2247
  have hm2431 := sb2413 _ hm2248
  have hn2440 : q1 ≠ q2386 := fun e => hn2392 (e ▸ hm2251)
  have hn2441 : q1 ≠ q2387 := fun e => hn2395 (e ▸ hm2251)
  have hn2442 : q1 ≠ q2388 := fun e => hn2398 (e ▸ hm2251)
  have hn2443 : q1 ≠ q2389 := fun e => hn2401 (e ▸ hm2251)
  have hn2444 : q1 ≠ q2390 := fun e => hn2404 (e ▸ hm2251)
  have hn2445 : q1 ≠ q2391 := fun e => hn2407 (e ▸ hm2251)
  have hf2446 := (fr2412 q1 hm2251 hn2252).trans hf2250
  have hm2439 := sb2413 _ hm2251
  have hn2448 : q21 ≠ q2386 := fun e => hn2392 (e ▸ hm2254)
  have hn2449 : q21 ≠ q2387 := fun e => hn2395 (e ▸ hm2254)
  have hn2450 : q21 ≠ q2388 := fun e => hn2398 (e ▸ hm2254)
  have hn2451 : q21 ≠ q2389 := fun e => hn2401 (e ▸ hm2254)
  have hn2452 : q21 ≠ q2390 := fun e => hn2404 (e ▸ hm2254)
  have hn2453 : q21 ≠ q2391 := fun e => hn2407 (e ▸ hm2254)
  have hf2454 := (fr2412 q21 hm2254 hn2255).trans hf2253
  have hm2447 := sb2413 _ hm2254
  have hn2456 : q45 ≠ q2386 := fun e => hn2392 (e ▸ hm2257)
  have hn2457 : q45 ≠ q2387 := fun e => hn2395 (e ▸ hm2257)
  have hn2458 : q45 ≠ q2388 := fun e => hn2398 (e ▸ hm2257)
  have hn2459 : q45 ≠ q2389 := fun e => hn2401 (e ▸ hm2257)
  have hn2460 : q45 ≠ q2390 := fun e => hn2404 (e ▸ hm2257)
  have hn2461 : q45 ≠ q2391 := fun e => hn2407 (e ▸ hm2257)
  have hf2462 := (fr2412 q45 hm2257 hn2258).trans hf2256
  have hm2455 := sb2413 _ hm2257
  have hn2464 : q90 ≠ q2386 := fun e => hn2392 (e ▸ hm2260)
  have hn2465 : q90 ≠ q2387 := fun e => hn2395 (e ▸ hm2260)
  have hn2466 : q90 ≠ q2388 := fun e => hn2398 (e ▸ hm2260)
  have hn2467 : q90 ≠ q2389 := fun e => hn2401 (e ▸ hm2260)
  have hn2468 : q90 ≠ q2390 := fun e => hn2404 (e ▸ hm2260)
  have hn2469 : q90 ≠ q2391 := fun e => hn2407 (e ▸ hm2260)
  have hf2470 := (fr2412 q90 hm2260 hn2261).trans hf2259
  have hm2463 := sb2413 _ hm2260
  have hn2472 : q141 ≠ q2386 := fun e => hn2392 (e ▸ hm2263)
  have hn2473 : q141 ≠ q2387 := fun e => hn2395 (e ▸ hm2263)
  have hn2474 : q141 ≠ q2388 := fun e => hn2398 (e ▸ hm2263)
  have hn2475 : q141 ≠ q2389 := fun e => hn2401 (e ▸ hm2263)
  have hn2476 : q141 ≠ q2390 := fun e => hn2404 (e ▸ hm2263)
  have hn2477 : q141 ≠ q2391 := fun e => hn2407 (e ▸ hm2263)
  have hf2478 := (fr2412 q141 hm2263 hn2264).trans hf2262
  have hm2471 := sb2413 _ hm2263
  have hn2480 : q198 ≠ q2386 := fun e => hn2392 (e ▸ hm2266)
  have hn2481 : q198 ≠ q2387 := fun e => hn2395 (e ▸ hm2266)
  have hn2482 : q198 ≠ q2388 := fun e => hn2398 (e ▸ hm2266)
  have hn2483 : q198 ≠ q2389 := fun e => hn2401 (e ▸ hm2266)
  have hn2484 : q198 ≠ q2390 := fun e => hn2404 (e ▸ hm2266)
  have hn2485 : q198 ≠ q2391 := fun e => hn2407 (e ▸ hm2266)
  have hf2486 := (fr2412 q198 hm2266 hn2267).trans hf2265
  have hm2479 := sb2413 _ hm2266
  have hn2488 : q233 ≠ q2386 := fun e => hn2392 (e ▸ hm2269)
  have hn2489 : q233 ≠ q2387 := fun e => hn2395 (e ▸ hm2269)
  have hn2490 : q233 ≠ q2388 := fun e => hn2398 (e ▸ hm2269)
  have hn2491 : q233 ≠ q2389 := fun e => hn2401 (e ▸ hm2269)
  have hn2492 : q233 ≠ q2390 := fun e => hn2404 (e ▸ hm2269)
  have hn2493 : q233 ≠ q2391 := fun e => hn2407 (e ▸ hm2269)
  have hf2494 := (fr2412 q233 hm2269 hn2270).trans hf2268
  have hm2487 := sb2413 _ hm2269
  have hn2496 : q277 ≠ q2386 := fun e => hn2392 (e ▸ hm2272)
  have hn2497 : q277 ≠ q2387 := fun e => hn2395 (e ▸ hm2272)
  have hn2498 : q277 ≠ q2388 := fun e => hn2398 (e ▸ hm2272)
  have hn2499 : q277 ≠ q2389 := fun e => hn2401 (e ▸ hm2272)
  have hn2500 : q277 ≠ q2390 := fun e => hn2404 (e ▸ hm2272)
  have hn2501 : q277 ≠ q2391 := fun e => hn2407 (e ▸ hm2272)
  have hf2502 := (fr2412 q277 hm2272 hn2273).trans hf2271
  have hm2495 := sb2413 _ hm2272
  have hn2504 : q318 ≠ q2386 := fun e => hn2392 (e ▸ hm2275)
  have hn2505 : q318 ≠ q2387 := fun e => hn2395 (e ▸ hm2275)
  have hn2506 : q318 ≠ q2388 := fun e => hn2398 (e ▸ hm2275)
  have hn2507 : q318 ≠ q2389 := fun e => hn2401 (e ▸ hm2275)
  have hn2508 : q318 ≠ q2390 := fun e => hn2404 (e ▸ hm2275)
  have hn2509 : q318 ≠ q2391 := fun e => hn2407 (e ▸ hm2275)
  have hf2510 := (fr2412 q318 hm2275 hn2276).trans hf2274
  have hm2503 := sb2413 _ hm2275
  have hn2512 : q319 ≠ q2386 := fun e => hn2392 (e ▸ hm2278)
  have hn2513 : q319 ≠ q2387 := fun e => hn2395 (e ▸ hm2278)
  have hn2514 : q319 ≠ q2388 := fun e => hn2398 (e ▸ hm2278)
  have hn2515 : q319 ≠ q2389 := fun e => hn2401 (e ▸ hm2278)
  have hn2516 : q319 ≠ q2390 := fun e => hn2404 (e ▸ hm2278)
  have hn2517 : q319 ≠ q2391 := fun e => hn2407 (e ▸ hm2278)
  have hf2518 := (fr2412 q319 hm2278 hn2279).trans hf2277
  have hm2511 := sb2413 _ hm2278
  have hn2520 : q385 ≠ q2386 := fun e => hn2392 (e ▸ hm2281)
  have hn2521 : q385 ≠ q2387 := fun e => hn2395 (e ▸ hm2281)
  have hn2522 : q385 ≠ q2388 := fun e => hn2398 (e ▸ hm2281)
  have hn2523 : q385 ≠ q2389 := fun e => hn2401 (e ▸ hm2281)
  have hn2524 : q385 ≠ q2390 := fun e => hn2404 (e ▸ hm2281)
  have hn2525 : q385 ≠ q2391 := fun e => hn2407 (e ▸ hm2281)
  have hf2526 := (fr2412 q385 hm2281 hn2282).trans hf2280
  have hm2519 := sb2413 _ hm2281
  have hn2528 : q478 ≠ q2386 := fun e => hn2392 (e ▸ hm2284)
  have hn2529 : q478 ≠ q2387 := fun e => hn2395 (e ▸ hm2284)
  have hn2530 : q478 ≠ q2388 := fun e => hn2398 (e ▸ hm2284)
  have hn2531 : q478 ≠ q2389 := fun e => hn2401 (e ▸ hm2284)
  have hn2532 : q478 ≠ q2390 := fun e => hn2404 (e ▸ hm2284)
  have hn2533 : q478 ≠ q2391 := fun e => hn2407 (e ▸ hm2284)
  have hf2534 := (fr2412 q478 hm2284 hn2285).trans hf2283
  have hm2527 := sb2413 _ hm2284
  have hn2536 : q577 ≠ q2386 := fun e => hn2392 (e ▸ hm2287)
  have hn2537 : q577 ≠ q2387 := fun e => hn2395 (e ▸ hm2287)
  have hn2538 : q577 ≠ q2388 := fun e => hn2398 (e ▸ hm2287)
  have hn2539 : q577 ≠ q2389 := fun e => hn2401 (e ▸ hm2287)
  have hn2540 : q577 ≠ q2390 := fun e => hn2404 (e ▸ hm2287)
  have hn2541 : q577 ≠ q2391 := fun e => hn2407 (e ▸ hm2287)
  have hf2542 := (fr2412 q577 hm2287 hn2288).trans hf2286
  have hm2535 := sb2413 _ hm2287
  have hn2544 : q633 ≠ q2386 := fun e => hn2392 (e ▸ hm2290)
  have hn2545 : q633 ≠ q2387 := fun e => hn2395 (e ▸ hm2290)
  have hn2546 : q633 ≠ q2388 := fun e => hn2398 (e ▸ hm2290)
  have hn2547 : q633 ≠ q2389 := fun e => hn2401 (e ▸ hm2290)
  have hn2548 : q633 ≠ q2390 := fun e => hn2404 (e ▸ hm2290)
  have hn2549 : q633 ≠ q2391 := fun e => hn2407 (e ▸ hm2290)
  have hf2550 := (fr2412 q633 hm2290 hn2291).trans hf2289
  have hm2543 := sb2413 _ hm2290
  have hn2552 : q634 ≠ q2386 := fun e => hn2392 (e ▸ hm2293)
  have hn2553 : q634 ≠ q2387 := fun e => hn2395 (e ▸ hm2293)
  have hn2554 : q634 ≠ q2388 := fun e => hn2398 (e ▸ hm2293)
  have hn2555 : q634 ≠ q2389 := fun e => hn2401 (e ▸ hm2293)
  have hn2556 : q634 ≠ q2390 := fun e => hn2404 (e ▸ hm2293)
  have hn2557 : q634 ≠ q2391 := fun e => hn2407 (e ▸ hm2293)
  have hf2558 := (fr2412 q634 hm2293 hn2294).trans hf2292
  have hm2551 := sb2413 _ hm2293
  have hn2560 : q635 ≠ q2386 := fun e => hn2392 (e ▸ hm2296)
  have hn2561 : q635 ≠ q2387 := fun e => hn2395 (e ▸ hm2296)
  have hn2562 : q635 ≠ q2388 := fun e => hn2398 (e ▸ hm2296)
  have hn2563 : q635 ≠ q2389 := fun e => hn2401 (e ▸ hm2296)
  have hn2564 : q635 ≠ q2390 := fun e => hn2404 (e ▸ hm2296)
  have hn2565 : q635 ≠ q2391 := fun e => hn2407 (e ▸ hm2296)
  have hf2566 := (fr2412 q635 hm2296 hn2297).trans hf2295
  have hm2559 := sb2413 _ hm2296
  have hn2568 : q636 ≠ q2386 := fun e => hn2392 (e ▸ hm2299)
  have hn2569 : q636 ≠ q2387 := fun e => hn2395 (e ▸ hm2299)
  have hn2570 : q636 ≠ q2388 := fun e => hn2398 (e ▸ hm2299)
  have hn2571 : q636 ≠ q2389 := fun e => hn2401 (e ▸ hm2299)
  have hn2572 : q636 ≠ q2390 := fun e => hn2404 (e ▸ hm2299)
  have hn2573 : q636 ≠ q2391 := fun e => hn2407 (e ▸ hm2299)
  have hf2574 := (fr2412 q636 hm2299 hn2300).trans hf2298
  have hm2567 := sb2413 _ hm2299
  have hn2576 : q637 ≠ q2386 := fun e => hn2392 (e ▸ hm2302)
  have hn2577 : q637 ≠ q2387 := fun e => hn2395 (e ▸ hm2302)
  have hn2578 : q637 ≠ q2388 := fun e => hn2398 (e ▸ hm2302)
  have hn2579 : q637 ≠ q2389 := fun e => hn2401 (e ▸ hm2302)
  have hn2580 : q637 ≠ q2390 := fun e => hn2404 (e ▸ hm2302)
  have hn2581 : q637 ≠ q2391 := fun e => hn2407 (e ▸ hm2302)
  have hf2582 := (fr2412 q637 hm2302 hn2303).trans hf2301
  have hm2575 := sb2413 _ hm2302
  have hn2584 : q638 ≠ q2386 := fun e => hn2392 (e ▸ hm2305)
  have hn2585 : q638 ≠ q2387 := fun e => hn2395 (e ▸ hm2305)
  have hn2586 : q638 ≠ q2388 := fun e => hn2398 (e ▸ hm2305)
  have hn2587 : q638 ≠ q2389 := fun e => hn2401 (e ▸ hm2305)
  have hn2588 : q638 ≠ q2390 := fun e => hn2404 (e ▸ hm2305)
  have hn2589 : q638 ≠ q2391 := fun e => hn2407 (e ▸ hm2305)
  have hf2590 := (fr2412 q638 hm2305 hn2306).trans hf2304
  have hm2583 := sb2413 _ hm2305
  have hn2592 : q639 ≠ q2386 := fun e => hn2392 (e ▸ hm2308)
  have hn2593 : q639 ≠ q2387 := fun e => hn2395 (e ▸ hm2308)
  have hn2594 : q639 ≠ q2388 := fun e => hn2398 (e ▸ hm2308)
  have hn2595 : q639 ≠ q2389 := fun e => hn2401 (e ▸ hm2308)
  have hn2596 : q639 ≠ q2390 := fun e => hn2404 (e ▸ hm2308)
  have hn2597 : q639 ≠ q2391 := fun e => hn2407 (e ▸ hm2308)
  have hf2598 := (fr2412 q639 hm2308 hn2309).trans hf2307
  have hm2591 := sb2413 _ hm2308
  have hn2600 : q640 ≠ q2386 := fun e => hn2392 (e ▸ hm2311)
  have hn2601 : q640 ≠ q2387 := fun e => hn2395 (e ▸ hm2311)
  have hn2602 : q640 ≠ q2388 := fun e => hn2398 (e ▸ hm2311)
  have hn2603 : q640 ≠ q2389 := fun e => hn2401 (e ▸ hm2311)
  have hn2604 : q640 ≠ q2390 := fun e => hn2404 (e ▸ hm2311)
  have hn2605 : q640 ≠ q2391 := fun e => hn2407 (e ▸ hm2311)
  have hf2606 := (fr2412 q640 hm2311 hn2312).trans hf2310
  have hm2599 := sb2413 _ hm2311
  have hn2608 : q641 ≠ q2386 := fun e => hn2392 (e ▸ hm2314)
  have hn2609 : q641 ≠ q2387 := fun e => hn2395 (e ▸ hm2314)
  have hn2610 : q641 ≠ q2388 := fun e => hn2398 (e ▸ hm2314)
  have hn2611 : q641 ≠ q2389 := fun e => hn2401 (e ▸ hm2314)
  have hn2612 : q641 ≠ q2390 := fun e => hn2404 (e ▸ hm2314)
  have hn2613 : q641 ≠ q2391 := fun e => hn2407 (e ▸ hm2314)
  have hf2614 := (fr2412 q641 hm2314 hn2315).trans hf2313
  have hm2607 := sb2413 _ hm2314
  have hn2616 : q865 ≠ q2386 := fun e => hn2392 (e ▸ hm2317)
  have hn2617 : q865 ≠ q2387 := fun e => hn2395 (e ▸ hm2317)
  have hn2618 : q865 ≠ q2388 := fun e => hn2398 (e ▸ hm2317)
  have hn2619 : q865 ≠ q2389 := fun e => hn2401 (e ▸ hm2317)
  have hn2620 : q865 ≠ q2390 := fun e => hn2404 (e ▸ hm2317)
  have hn2621 : q865 ≠ q2391 := fun e => hn2407 (e ▸ hm2317)
  have hf2622 := (fr2412 q865 hm2317 hn2318).trans hf2316
  have hm2615 := sb2413 _ hm2317
  have hn2624 : q951 ≠ q2386 := fun e => hn2392 (e ▸ hm2320)
  have hn2625 : q951 ≠ q2387 := fun e => hn2395 (e ▸ hm2320)
  have hn2626 : q951 ≠ q2388 := fun e => hn2398 (e ▸ hm2320)
  have hn2627 : q951 ≠ q2389 := fun e => hn2401 (e ▸ hm2320)
  have hn2628 : q951 ≠ q2390 := fun e => hn2404 (e ▸ hm2320)
  have hn2629 : q951 ≠ q2391 := fun e => hn2407 (e ▸ hm2320)
  have hf2630 := (fr2412 q951 hm2320 hn2321).trans hf2319
  have hm2623 := sb2413 _ hm2320
  have hn2632 : q952 ≠ q2386 := fun e => hn2392 (e ▸ hm2323)
  have hn2633 : q952 ≠ q2387 := fun e => hn2395 (e ▸ hm2323)
  have hn2634 : q952 ≠ q2388 := fun e => hn2398 (e ▸ hm2323)
  have hn2635 : q952 ≠ q2389 := fun e => hn2401 (e ▸ hm2323)
  have hn2636 : q952 ≠ q2390 := fun e => hn2404 (e ▸ hm2323)
  have hn2637 : q952 ≠ q2391 := fun e => hn2407 (e ▸ hm2323)
  have hf2638 := (fr2412 q952 hm2323 hn2324).trans hf2322
  have hm2631 := sb2413 _ hm2323
  have hn2640 : q953 ≠ q2386 := fun e => hn2392 (e ▸ hm2326)
  have hn2641 : q953 ≠ q2387 := fun e => hn2395 (e ▸ hm2326)
  have hn2642 : q953 ≠ q2388 := fun e => hn2398 (e ▸ hm2326)
  have hn2643 : q953 ≠ q2389 := fun e => hn2401 (e ▸ hm2326)
  have hn2644 : q953 ≠ q2390 := fun e => hn2404 (e ▸ hm2326)
  have hn2645 : q953 ≠ q2391 := fun e => hn2407 (e ▸ hm2326)
  have hf2646 := (fr2412 q953 hm2326 hn2327).trans hf2325
  have hm2639 := sb2413 _ hm2326
  have hn2648 : q954 ≠ q2386 := fun e => hn2392 (e ▸ hm2329)
  have hn2649 : q954 ≠ q2387 := fun e => hn2395 (e ▸ hm2329)
  have hn2650 : q954 ≠ q2388 := fun e => hn2398 (e ▸ hm2329)
  have hn2651 : q954 ≠ q2389 := fun e => hn2401 (e ▸ hm2329)
  have hn2652 : q954 ≠ q2390 := fun e => hn2404 (e ▸ hm2329)
  have hn2653 : q954 ≠ q2391 := fun e => hn2407 (e ▸ hm2329)
  have hf2654 := (fr2412 q954 hm2329 hn2330).trans hf2328
  have hm2647 := sb2413 _ hm2329
  have hn2656 : q955 ≠ q2386 := fun e => hn2392 (e ▸ hm2332)
  have hn2657 : q955 ≠ q2387 := fun e => hn2395 (e ▸ hm2332)
  have hn2658 : q955 ≠ q2388 := fun e => hn2398 (e ▸ hm2332)
  have hn2659 : q955 ≠ q2389 := fun e => hn2401 (e ▸ hm2332)
  have hn2660 : q955 ≠ q2390 := fun e => hn2404 (e ▸ hm2332)
  have hn2661 : q955 ≠ q2391 := fun e => hn2407 (e ▸ hm2332)
  have hf2662 := (fr2412 q955 hm2332 hn2333).trans hf2331
  have hm2655 := sb2413 _ hm2332
  have hn2664 : q956 ≠ q2386 := fun e => hn2392 (e ▸ hm2335)
  have hn2665 : q956 ≠ q2387 := fun e => hn2395 (e ▸ hm2335)
  have hn2666 : q956 ≠ q2388 := fun e => hn2398 (e ▸ hm2335)
  have hn2667 : q956 ≠ q2389 := fun e => hn2401 (e ▸ hm2335)
  have hn2668 : q956 ≠ q2390 := fun e => hn2404 (e ▸ hm2335)
  have hn2669 : q956 ≠ q2391 := fun e => hn2407 (e ▸ hm2335)
  have hf2670 := (fr2412 q956 hm2335 hn2336).trans hf2334
  have hm2663 := sb2413 _ hm2335
  have hn2672 : q957 ≠ q2386 := fun e => hn2392 (e ▸ hm2338)
  have hn2673 : q957 ≠ q2387 := fun e => hn2395 (e ▸ hm2338)
  have hn2674 : q957 ≠ q2388 := fun e => hn2398 (e ▸ hm2338)
  have hn2675 : q957 ≠ q2389 := fun e => hn2401 (e ▸ hm2338)
  have hn2676 : q957 ≠ q2390 := fun e => hn2404 (e ▸ hm2338)
  have hn2677 : q957 ≠ q2391 := fun e => hn2407 (e ▸ hm2338)
  have hf2678 := (fr2412 q957 hm2338 hn2339).trans hf2337
  have hm2671 := sb2413 _ hm2338
  have hn2680 : q958 ≠ q2386 := fun e => hn2392 (e ▸ hm2341)
  have hn2681 : q958 ≠ q2387 := fun e => hn2395 (e ▸ hm2341)
  have hn2682 : q958 ≠ q2388 := fun e => hn2398 (e ▸ hm2341)
  have hn2683 : q958 ≠ q2389 := fun e => hn2401 (e ▸ hm2341)
  have hn2684 : q958 ≠ q2390 := fun e => hn2404 (e ▸ hm2341)
  have hn2685 : q958 ≠ q2391 := fun e => hn2407 (e ▸ hm2341)
  have hf2686 := (fr2412 q958 hm2341 hn2342).trans hf2340
  have hm2679 := sb2413 _ hm2341
  have hn2688 : q959 ≠ q2386 := fun e => hn2392 (e ▸ hm2344)
  have hn2689 : q959 ≠ q2387 := fun e => hn2395 (e ▸ hm2344)
  have hn2690 : q959 ≠ q2388 := fun e => hn2398 (e ▸ hm2344)
  have hn2691 : q959 ≠ q2389 := fun e => hn2401 (e ▸ hm2344)
  have hn2692 : q959 ≠ q2390 := fun e => hn2404 (e ▸ hm2344)
  have hn2693 : q959 ≠ q2391 := fun e => hn2407 (e ▸ hm2344)
  have hf2694 := (fr2412 q959 hm2344 hn2345).trans hf2343
  have hm2687 := sb2413 _ hm2344
  have hn2696 : q1303 ≠ q2386 := fun e => hn2392 (e ▸ hm2347)
  have hn2697 : q1303 ≠ q2387 := fun e => hn2395 (e ▸ hm2347)
  have hn2698 : q1303 ≠ q2388 := fun e => hn2398 (e ▸ hm2347)
  have hn2699 : q1303 ≠ q2389 := fun e => hn2401 (e ▸ hm2347)
  have hn2700 : q1303 ≠ q2390 := fun e => hn2404 (e ▸ hm2347)
  have hn2701 : q1303 ≠ q2391 := fun e => hn2407 (e ▸ hm2347)
  have hf2702 := (fr2412 q1303 hm2347 hn2348).trans hf2346
  have hm2695 := sb2413 _ hm2347
  have hn2704 : q1419 ≠ q2386 := fun e => hn2392 (e ▸ hm2350)
  have hn2705 : q1419 ≠ q2387 := fun e => hn2395 (e ▸ hm2350)
  have hn2706 : q1419 ≠ q2388 := fun e => hn2398 (e ▸ hm2350)
  have hn2707 : q1419 ≠ q2389 := fun e => hn2401 (e ▸ hm2350)
  have hn2708 : q1419 ≠ q2390 := fun e => hn2404 (e ▸ hm2350)
  have hn2709 : q1419 ≠ q2391 := fun e => hn2407 (e ▸ hm2350)
  have hf2710 := (fr2412 q1419 hm2350 hn2351).trans hf2349
  have hm2703 := sb2413 _ hm2350
  have hn2712 : q1420 ≠ q2386 := fun e => hn2392 (e ▸ hm2353)
  have hn2713 : q1420 ≠ q2387 := fun e => hn2395 (e ▸ hm2353)
  have hn2714 : q1420 ≠ q2388 := fun e => hn2398 (e ▸ hm2353)
  have hn2715 : q1420 ≠ q2389 := fun e => hn2401 (e ▸ hm2353)
  have hn2716 : q1420 ≠ q2390 := fun e => hn2404 (e ▸ hm2353)
  have hn2717 : q1420 ≠ q2391 := fun e => hn2407 (e ▸ hm2353)
  have hf2718 := (fr2412 q1420 hm2353 hn2354).trans hf2352
  have hm2711 := sb2413 _ hm2353
  have hn2720 : q1421 ≠ q2386 := fun e => hn2392 (e ▸ hm2356)
  have hn2721 : q1421 ≠ q2387 := fun e => hn2395 (e ▸ hm2356)
  have hn2722 : q1421 ≠ q2388 := fun e => hn2398 (e ▸ hm2356)
  have hn2723 : q1421 ≠ q2389 := fun e => hn2401 (e ▸ hm2356)
  have hn2724 : q1421 ≠ q2390 := fun e => hn2404 (e ▸ hm2356)
  have hn2725 : q1421 ≠ q2391 := fun e => hn2407 (e ▸ hm2356)
  have hf2726 := (fr2412 q1421 hm2356 hn2357).trans hf2355
  have hm2719 := sb2413 _ hm2356
  have hn2728 : q1422 ≠ q2386 := fun e => hn2392 (e ▸ hm2359)
  have hn2729 : q1422 ≠ q2387 := fun e => hn2395 (e ▸ hm2359)
  have hn2730 : q1422 ≠ q2388 := fun e => hn2398 (e ▸ hm2359)
  have hn2731 : q1422 ≠ q2389 := fun e => hn2401 (e ▸ hm2359)
  have hn2732 : q1422 ≠ q2390 := fun e => hn2404 (e ▸ hm2359)
  have hn2733 : q1422 ≠ q2391 := fun e => hn2407 (e ▸ hm2359)
  have hf2734 := (fr2412 q1422 hm2359 hn2360).trans hf2358
  have hm2727 := sb2413 _ hm2359
  have hn2736 : q1423 ≠ q2386 := fun e => hn2392 (e ▸ hm2362)
  have hn2737 : q1423 ≠ q2387 := fun e => hn2395 (e ▸ hm2362)
  have hn2738 : q1423 ≠ q2388 := fun e => hn2398 (e ▸ hm2362)
  have hn2739 : q1423 ≠ q2389 := fun e => hn2401 (e ▸ hm2362)
  have hn2740 : q1423 ≠ q2390 := fun e => hn2404 (e ▸ hm2362)
  have hn2741 : q1423 ≠ q2391 := fun e => hn2407 (e ▸ hm2362)
  have hf2742 := (fr2412 q1423 hm2362 hn2363).trans hf2361
  have hm2735 := sb2413 _ hm2362
  have hn2744 : q1424 ≠ q2386 := fun e => hn2392 (e ▸ hm2365)
  have hn2745 : q1424 ≠ q2387 := fun e => hn2395 (e ▸ hm2365)
  have hn2746 : q1424 ≠ q2388 := fun e => hn2398 (e ▸ hm2365)
  have hn2747 : q1424 ≠ q2389 := fun e => hn2401 (e ▸ hm2365)
  have hn2748 : q1424 ≠ q2390 := fun e => hn2404 (e ▸ hm2365)
  have hn2749 : q1424 ≠ q2391 := fun e => hn2407 (e ▸ hm2365)
  have hf2750 := (fr2412 q1424 hm2365 hn2366).trans hf2364
  have hm2743 := sb2413 _ hm2365
  have hn2752 : q1425 ≠ q2386 := fun e => hn2392 (e ▸ hm2368)
  have hn2753 : q1425 ≠ q2387 := fun e => hn2395 (e ▸ hm2368)
  have hn2754 : q1425 ≠ q2388 := fun e => hn2398 (e ▸ hm2368)
  have hn2755 : q1425 ≠ q2389 := fun e => hn2401 (e ▸ hm2368)
  have hn2756 : q1425 ≠ q2390 := fun e => hn2404 (e ▸ hm2368)
  have hn2757 : q1425 ≠ q2391 := fun e => hn2407 (e ▸ hm2368)
  have hf2758 := (fr2412 q1425 hm2368 hn2369).trans hf2367
  have hm2751 := sb2413 _ hm2368
  have hn2760 : q1426 ≠ q2386 := fun e => hn2392 (e ▸ hm2371)
  have hn2761 : q1426 ≠ q2387 := fun e => hn2395 (e ▸ hm2371)
  have hn2762 : q1426 ≠ q2388 := fun e => hn2398 (e ▸ hm2371)
  have hn2763 : q1426 ≠ q2389 := fun e => hn2401 (e ▸ hm2371)
  have hn2764 : q1426 ≠ q2390 := fun e => hn2404 (e ▸ hm2371)
  have hn2765 : q1426 ≠ q2391 := fun e => hn2407 (e ▸ hm2371)
  have hf2766 := (fr2412 q1426 hm2371 hn2372).trans hf2370
  have hm2759 := sb2413 _ hm2371
  have hn2768 : q1427 ≠ q2386 := fun e => hn2392 (e ▸ hm2374)
  have hn2769 : q1427 ≠ q2387 := fun e => hn2395 (e ▸ hm2374)
  have hn2770 : q1427 ≠ q2388 := fun e => hn2398 (e ▸ hm2374)
  have hn2771 : q1427 ≠ q2389 := fun e => hn2401 (e ▸ hm2374)
  have hn2772 : q1427 ≠ q2390 := fun e => hn2404 (e ▸ hm2374)
  have hn2773 : q1427 ≠ q2391 := fun e => hn2407 (e ▸ hm2374)
  have hf2774 := (fr2412 q1427 hm2374 hn2375).trans hf2373
  have hm2767 := sb2413 _ hm2374
  have hn2776 : q1891 ≠ q2386 := fun e => hn2392 (e ▸ hm2377)
  have hn2777 : q1891 ≠ q2387 := fun e => hn2395 (e ▸ hm2377)
  have hn2778 : q1891 ≠ q2388 := fun e => hn2398 (e ▸ hm2377)
  have hn2779 : q1891 ≠ q2389 := fun e => hn2401 (e ▸ hm2377)
  have hn2780 : q1891 ≠ q2390 := fun e => hn2404 (e ▸ hm2377)
  have hn2781 : q1891 ≠ q2391 := fun e => hn2407 (e ▸ hm2377)
  have hf2782 := (fr2412 q1891 hm2377 hn2378).trans hf2376
  have hm2775 := sb2413 _ hm2377
  have hn2784 : q2037 ≠ q2386 := fun e => hn2392 (e ▸ hm2380)
  have hn2785 : q2037 ≠ q2387 := fun e => hn2395 (e ▸ hm2380)
  have hn2786 : q2037 ≠ q2388 := fun e => hn2398 (e ▸ hm2380)
  have hn2787 : q2037 ≠ q2389 := fun e => hn2401 (e ▸ hm2380)
  have hn2788 : q2037 ≠ q2390 := fun e => hn2404 (e ▸ hm2380)
  have hn2789 : q2037 ≠ q2391 := fun e => hn2407 (e ▸ hm2380)
  have hf2790 := (fr2412 q2037 hm2380 hn2381).trans hf2379
  have hm2783 := sb2413 _ hm2380
  have hn2792 : q2232 ≠ q2386 := fun e => hn2392 (e ▸ hm2237)
  have hn2793 : q2232 ≠ q2387 := fun e => hn2395 (e ▸ hm2237)
  have hn2794 : q2232 ≠ q2388 := fun e => hn2398 (e ▸ hm2237)
  have hn2795 : q2232 ≠ q2389 := fun e => hn2401 (e ▸ hm2237)
  have hn2796 : q2232 ≠ q2390 := fun e => hn2404 (e ▸ hm2237)
  have hn2797 : q2232 ≠ q2391 := fun e => hn2407 (e ▸ hm2237)
  have hm2791 := sb2413 _ hm2237
  refine pl_putF (ty := (.object "RulerWord$Search")) (v := .ref q2232) (fs' := [.ref q1, .ref q45, .ref q90, .ref q141, .ref q198, .ref q277, .ref q385, .ref q478, .ref q577, .ref q865, .ref q1303, .ref q1891, .ref q2232, .null, .null, .int 0, .int 0, .long 0]) hx hb hts (fun w h => mT (inX10 w h)) tyX10 tyX10_ok nmX10 hown hG.1 hP hD hS hm2431 hf2438 rfl 12 (by decide) (hts _ (mT wg_487)) (fun _ h => h) rfl hnm rfl (by decide +kernel) (rfl) (rfl) (Nat.le_of_ble_eq_true rfl) rfl dX10_init_144 (fun H locs f2798 hf2800 ho2799 hP hD hS => ?_)
  have hR2801 : RINGP g L1892 L2383 f2798 20 aa2039 := RINGP.tr hR2422 (fun j hj k hk e => (hR2422.1 j hj k hk).2 (e ▸ hm1905)) (fun b hb => hb) (fun b _ hb => ho2799 b hb)
  have hfr2802 : ∀ b, b ∈ L → b ≠ x → f2798 b = f b := fun b hb z0 => (ho2799 b z0).trans (hfr2423 b hb z0)
  have hf2803 := (ho2799 q1 hn16.symm).trans hf2446
  have hf2804 := (ho2799 q21 hn35.symm).trans hf2454
  have hf2805 := (ho2799 q45 hn60.symm).trans hf2462
  have hf2806 := (ho2799 q90 hn105.symm).trans hf2470
  have hf2807 := (ho2799 q141 hn156.symm).trans hf2478
  have hf2808 := (ho2799 q198 hn213.symm).trans hf2486
  have hf2809 := (ho2799 q233 hn247.symm).trans hf2494
  have hf2810 := (ho2799 q277 hn292.symm).trans hf2502
  have hf2811 := (ho2799 q318 hn337.symm).trans hf2510
  have hf2812 := (ho2799 q319 hn338.symm).trans hf2518
  have hf2813 := (ho2799 q385 hn400.symm).trans hf2526
  have hf2814 := (ho2799 q478 hn493.symm).trans hf2534
  have hf2815 := (ho2799 q577 hn592.symm).trans hf2542
  have hf2816 := (ho2799 q633 hn687.symm).trans hf2550
  have hf2817 := (ho2799 q634 hn688.symm).trans hf2558
  have hf2818 := (ho2799 q635 hn689.symm).trans hf2566
  have hf2819 := (ho2799 q636 hn690.symm).trans hf2574
  have hf2820 := (ho2799 q637 hn691.symm).trans hf2582
  have hf2821 := (ho2799 q638 hn692.symm).trans hf2590
  have hf2822 := (ho2799 q639 hn693.symm).trans hf2598
  have hf2823 := (ho2799 q640 hn694.symm).trans hf2606
  have hf2824 := (ho2799 q641 hn695.symm).trans hf2614
  have hf2825 := (ho2799 q865 hn880.symm).trans hf2622
  have hf2826 := (ho2799 q951 hn1005.symm).trans hf2630
  have hf2827 := (ho2799 q952 hn1006.symm).trans hf2638
  have hf2828 := (ho2799 q953 hn1007.symm).trans hf2646
  have hf2829 := (ho2799 q954 hn1008.symm).trans hf2654
  have hf2830 := (ho2799 q955 hn1009.symm).trans hf2662
  have hf2831 := (ho2799 q956 hn1010.symm).trans hf2670
  have hf2832 := (ho2799 q957 hn1011.symm).trans hf2678
  have hf2833 := (ho2799 q958 hn1012.symm).trans hf2686
  have hf2834 := (ho2799 q959 hn1013.symm).trans hf2694
  have hf2835 := (ho2799 q1303 hn1318.symm).trans hf2702
  have hf2836 := (ho2799 q1419 hn1473.symm).trans hf2710
  have hf2837 := (ho2799 q1420 hn1474.symm).trans hf2718
  have hf2838 := (ho2799 q1421 hn1475.symm).trans hf2726
  have hf2839 := (ho2799 q1422 hn1476.symm).trans hf2734
  have hf2840 := (ho2799 q1423 hn1477.symm).trans hf2742
  have hf2841 := (ho2799 q1424 hn1478.symm).trans hf2750
  have hf2842 := (ho2799 q1425 hn1479.symm).trans hf2758
  have hf2843 := (ho2799 q1426 hn1480.symm).trans hf2766
  have hf2844 := (ho2799 q1427 hn1481.symm).trans hf2774
  have hf2845 := (ho2799 q1891 hn1906.symm).trans hf2782
  have hf2846 := (ho2799 q2037 hn2053.symm).trans hf2790
  have hf2847 := (ho2799 q2232 hn2249.symm).trans hf2410
  have hf2848 := (ho2799 q2386 hn2432.symm).trans hf2394
  have hf2849 := (ho2799 q2387 hn2433.symm).trans hf2397
  have hf2850 := (ho2799 q2388 hn2434.symm).trans hf2400
  have hf2851 := (ho2799 q2389 hn2435.symm).trans hf2403
  have hf2852 := (ho2799 q2390 hn2436.symm).trans hf2406
  have hf2853 := (ho2799 q2391 hn2437.symm).trans hf2409
  refine lv_aload_n hx hb dX10_init_147 rfl (lv_at hl 0 rfl) ?_
  refine pl_new (ci := 8) (fs := [.null, .int 0, .int 0, .int 0, .int 0]) (C := RX8) (T := TX8) (N := 5) hx hb hts (fun w h => mT (inX8 w h)) tyX8 tyX8_ok hown (hts _ (mT wg_189)) (hts _ (mT wg_190)) (hts _ (mT wg_158)) hG.1 hP hD hS hA rfl dvX8 (Nat.le_of_ble_eq_true rfl) (Nat.le_of_ble_eq_true rfl) dX10_init_148 (fun q2854 H L2855 f2856 hq2857 hs2858 hm2859 hf2860 ho2861 hP hD hS => ?_)
  have hN2862 : [q2854, q2386, q2387, q2388, q2389, q2390, q2391, q2232, q2037, q1891, q1419, q1420, q1421, q1422, q1423, q1424, q1425, q1426, q1427, q1303, q951, q952, q953, q954, q955, q956, q957, q958, q959, q865, q633, q634, q635, q636, q637, q638, q639, q640, q641, q577, q478, q385, q318, q319, q277, q233, q198, q141, q90, q45, q21, q1].Nodup := List.nodup_cons.mpr ⟨fun h => hq2857 (hNs2415 _ h), hN2414⟩
  have hNs2863 : ∀ b, b ∈ [q2854, q2386, q2387, q2388, q2389, q2390, q2391, q2232, q2037, q1891, q1419, q1420, q1421, q1422, q1423, q1424, q1425, q1426, q1427, q1303, q951, q952, q953, q954, q955, q956, q957, q958, q959, q865, q633, q634, q635, q636, q637, q638, q639, q640, q641, q577, q478, q385, q318, q319, q277, q233, q198, q141, q90, q45, q21, q1] → b ∈ L2855 := List.forall_mem_cons.mpr ⟨hm2859, fun b hb => hs2858 b (hNs2415 b hb)⟩
  have hRq2864 : ∀ j, j < 20 → ∀ k, k < 10 → aa2039 j k ≠ q2854 := fun j hj k hk e => hq2857 (e ▸ (hR2801.1 j hj k hk).1)
  have hR2865 : RINGP g L1892 L2855 f2856 20 aa2039 := RINGP.tr hR2801 hRq2864 hs2858 (fun b hb _ => ho2861 b hb)
  have hfr2866 : ∀ b, b ∈ L → b ≠ x → f2856 b = f b := fun b hb z0 => (ho2861 b (hsb2424 b hb)).trans (hfr2802 b hb z0)
  have hnq2868 : q2854 ∉ L := fun h => hq2857 (hsb2424 _ h)
  have hsb2867 : ∀ b, b ∈ L → b ∈ _ := fun b hb => hs2858 b (hsb2424 b hb)
  have hf2869 := (ho2861 x hm2431).trans hf2800
  have hn2871 : x ≠ q2854 := fun e => hq2857 (e ▸ hm2431)
  have hm2870 := hs2858 _ hm2431
  have hf2872 := (ho2861 q1 hm2439).trans hf2803
  have hn2874 : q1 ≠ q2854 := fun e => hq2857 (e ▸ hm2439)
  have hm2873 := hs2858 _ hm2439
  have hf2875 := (ho2861 q21 hm2447).trans hf2804
  have hn2877 : q21 ≠ q2854 := fun e => hq2857 (e ▸ hm2447)
  have hm2876 := hs2858 _ hm2447
  have hf2878 := (ho2861 q45 hm2455).trans hf2805
  have hn2880 : q45 ≠ q2854 := fun e => hq2857 (e ▸ hm2455)
  have hm2879 := hs2858 _ hm2455
  have hf2881 := (ho2861 q90 hm2463).trans hf2806
  have hn2883 : q90 ≠ q2854 := fun e => hq2857 (e ▸ hm2463)
  have hm2882 := hs2858 _ hm2463
  have hf2884 := (ho2861 q141 hm2471).trans hf2807
  have hn2886 : q141 ≠ q2854 := fun e => hq2857 (e ▸ hm2471)
  have hm2885 := hs2858 _ hm2471
  have hf2887 := (ho2861 q198 hm2479).trans hf2808
  have hn2889 : q198 ≠ q2854 := fun e => hq2857 (e ▸ hm2479)
  have hm2888 := hs2858 _ hm2479
  have hf2890 := (ho2861 q233 hm2487).trans hf2809
  have hn2892 : q233 ≠ q2854 := fun e => hq2857 (e ▸ hm2487)
  have hm2891 := hs2858 _ hm2487
  have hf2893 := (ho2861 q277 hm2495).trans hf2810
  have hn2895 : q277 ≠ q2854 := fun e => hq2857 (e ▸ hm2495)
  have hm2894 := hs2858 _ hm2495
  have hf2896 := (ho2861 q318 hm2503).trans hf2811
  have hn2898 : q318 ≠ q2854 := fun e => hq2857 (e ▸ hm2503)
  have hm2897 := hs2858 _ hm2503
  have hf2899 := (ho2861 q319 hm2511).trans hf2812
  have hn2901 : q319 ≠ q2854 := fun e => hq2857 (e ▸ hm2511)
  have hm2900 := hs2858 _ hm2511
  have hf2902 := (ho2861 q385 hm2519).trans hf2813
  have hn2904 : q385 ≠ q2854 := fun e => hq2857 (e ▸ hm2519)
  have hm2903 := hs2858 _ hm2519
  have hf2905 := (ho2861 q478 hm2527).trans hf2814
  have hn2907 : q478 ≠ q2854 := fun e => hq2857 (e ▸ hm2527)
  have hm2906 := hs2858 _ hm2527
  have hf2908 := (ho2861 q577 hm2535).trans hf2815
  have hn2910 : q577 ≠ q2854 := fun e => hq2857 (e ▸ hm2535)
  have hm2909 := hs2858 _ hm2535
  have hf2911 := (ho2861 q633 hm2543).trans hf2816
  have hn2913 : q633 ≠ q2854 := fun e => hq2857 (e ▸ hm2543)
  have hm2912 := hs2858 _ hm2543
  have hf2914 := (ho2861 q634 hm2551).trans hf2817
  have hn2916 : q634 ≠ q2854 := fun e => hq2857 (e ▸ hm2551)
  have hm2915 := hs2858 _ hm2551
  have hf2917 := (ho2861 q635 hm2559).trans hf2818
  have hn2919 : q635 ≠ q2854 := fun e => hq2857 (e ▸ hm2559)
  have hm2918 := hs2858 _ hm2559
  have hf2920 := (ho2861 q636 hm2567).trans hf2819
  have hn2922 : q636 ≠ q2854 := fun e => hq2857 (e ▸ hm2567)
  have hm2921 := hs2858 _ hm2567
  have hf2923 := (ho2861 q637 hm2575).trans hf2820
  have hn2925 : q637 ≠ q2854 := fun e => hq2857 (e ▸ hm2575)
  have hm2924 := hs2858 _ hm2575
  have hf2926 := (ho2861 q638 hm2583).trans hf2821
  have hn2928 : q638 ≠ q2854 := fun e => hq2857 (e ▸ hm2583)
  have hm2927 := hs2858 _ hm2583
  have hf2929 := (ho2861 q639 hm2591).trans hf2822
  have hn2931 : q639 ≠ q2854 := fun e => hq2857 (e ▸ hm2591)
  have hm2930 := hs2858 _ hm2591
  have hf2932 := (ho2861 q640 hm2599).trans hf2823
  have hn2934 : q640 ≠ q2854 := fun e => hq2857 (e ▸ hm2599)
  have hm2933 := hs2858 _ hm2599
  have hf2935 := (ho2861 q641 hm2607).trans hf2824
  have hn2937 : q641 ≠ q2854 := fun e => hq2857 (e ▸ hm2607)
  have hm2936 := hs2858 _ hm2607
  have hf2938 := (ho2861 q865 hm2615).trans hf2825
  have hn2940 : q865 ≠ q2854 := fun e => hq2857 (e ▸ hm2615)
  have hm2939 := hs2858 _ hm2615
  have hf2941 := (ho2861 q951 hm2623).trans hf2826
  have hn2943 : q951 ≠ q2854 := fun e => hq2857 (e ▸ hm2623)
  have hm2942 := hs2858 _ hm2623
  have hf2944 := (ho2861 q952 hm2631).trans hf2827
  have hn2946 : q952 ≠ q2854 := fun e => hq2857 (e ▸ hm2631)
  have hm2945 := hs2858 _ hm2631
  have hf2947 := (ho2861 q953 hm2639).trans hf2828
  have hn2949 : q953 ≠ q2854 := fun e => hq2857 (e ▸ hm2639)
  have hm2948 := hs2858 _ hm2639
  have hf2950 := (ho2861 q954 hm2647).trans hf2829
  have hn2952 : q954 ≠ q2854 := fun e => hq2857 (e ▸ hm2647)
  have hm2951 := hs2858 _ hm2647
  have hf2953 := (ho2861 q955 hm2655).trans hf2830
  have hn2955 : q955 ≠ q2854 := fun e => hq2857 (e ▸ hm2655)
  have hm2954 := hs2858 _ hm2655
  have hf2956 := (ho2861 q956 hm2663).trans hf2831
  have hn2958 : q956 ≠ q2854 := fun e => hq2857 (e ▸ hm2663)
  have hm2957 := hs2858 _ hm2663
  have hf2959 := (ho2861 q957 hm2671).trans hf2832
  have hn2961 : q957 ≠ q2854 := fun e => hq2857 (e ▸ hm2671)
  have hm2960 := hs2858 _ hm2671
  have hf2962 := (ho2861 q958 hm2679).trans hf2833
  have hn2964 : q958 ≠ q2854 := fun e => hq2857 (e ▸ hm2679)
  have hm2963 := hs2858 _ hm2679
  have hf2965 := (ho2861 q959 hm2687).trans hf2834
  have hn2967 : q959 ≠ q2854 := fun e => hq2857 (e ▸ hm2687)
  have hm2966 := hs2858 _ hm2687
  have hf2968 := (ho2861 q1303 hm2695).trans hf2835
  have hn2970 : q1303 ≠ q2854 := fun e => hq2857 (e ▸ hm2695)
  have hm2969 := hs2858 _ hm2695
  have hf2971 := (ho2861 q1419 hm2703).trans hf2836
  have hn2973 : q1419 ≠ q2854 := fun e => hq2857 (e ▸ hm2703)
  have hm2972 := hs2858 _ hm2703
  have hf2974 := (ho2861 q1420 hm2711).trans hf2837
  have hn2976 : q1420 ≠ q2854 := fun e => hq2857 (e ▸ hm2711)
  have hm2975 := hs2858 _ hm2711
  have hf2977 := (ho2861 q1421 hm2719).trans hf2838
  have hn2979 : q1421 ≠ q2854 := fun e => hq2857 (e ▸ hm2719)
  have hm2978 := hs2858 _ hm2719
  have hf2980 := (ho2861 q1422 hm2727).trans hf2839
  have hn2982 : q1422 ≠ q2854 := fun e => hq2857 (e ▸ hm2727)
  have hm2981 := hs2858 _ hm2727
  have hf2983 := (ho2861 q1423 hm2735).trans hf2840
  have hn2985 : q1423 ≠ q2854 := fun e => hq2857 (e ▸ hm2735)
  have hm2984 := hs2858 _ hm2735
  have hf2986 := (ho2861 q1424 hm2743).trans hf2841
  have hn2988 : q1424 ≠ q2854 := fun e => hq2857 (e ▸ hm2743)
  have hm2987 := hs2858 _ hm2743
  have hf2989 := (ho2861 q1425 hm2751).trans hf2842
  have hn2991 : q1425 ≠ q2854 := fun e => hq2857 (e ▸ hm2751)
  have hm2990 := hs2858 _ hm2751
  have hf2992 := (ho2861 q1426 hm2759).trans hf2843
  have hn2994 : q1426 ≠ q2854 := fun e => hq2857 (e ▸ hm2759)
  have hm2993 := hs2858 _ hm2759
  have hf2995 := (ho2861 q1427 hm2767).trans hf2844
  have hn2997 : q1427 ≠ q2854 := fun e => hq2857 (e ▸ hm2767)
  have hm2996 := hs2858 _ hm2767
  have hf2998 := (ho2861 q1891 hm2775).trans hf2845
  have hn3000 : q1891 ≠ q2854 := fun e => hq2857 (e ▸ hm2775)
  have hm2999 := hs2858 _ hm2775
  have hf3001 := (ho2861 q2037 hm2783).trans hf2846
  have hn3003 : q2037 ≠ q2854 := fun e => hq2857 (e ▸ hm2783)
  have hm3002 := hs2858 _ hm2783
  have hf3004 := (ho2861 q2232 hm2791).trans hf2847
  have hn3006 : q2232 ≠ q2854 := fun e => hq2857 (e ▸ hm2791)
  have hm3005 := hs2858 _ hm2791
  have hf3007 := (ho2861 q2386 hm2393).trans hf2848
  have hn3009 : q2386 ≠ q2854 := fun e => hq2857 (e ▸ hm2393)
  have hm3008 := hs2858 _ hm2393
  have hf3010 := (ho2861 q2387 hm2396).trans hf2849
  have hn3012 : q2387 ≠ q2854 := fun e => hq2857 (e ▸ hm2396)
  have hm3011 := hs2858 _ hm2396
  have hf3013 := (ho2861 q2388 hm2399).trans hf2850
  have hn3015 : q2388 ≠ q2854 := fun e => hq2857 (e ▸ hm2399)
  have hm3014 := hs2858 _ hm2399
  have hf3016 := (ho2861 q2389 hm2402).trans hf2851
  have hn3018 : q2389 ≠ q2854 := fun e => hq2857 (e ▸ hm2402)
  have hm3017 := hs2858 _ hm2402
  have hf3019 := (ho2861 q2390 hm2405).trans hf2852
  have hn3021 : q2390 ≠ q2854 := fun e => hq2857 (e ▸ hm2405)
  have hm3020 := hs2858 _ hm2405
  have hf3022 := (ho2861 q2391 hm2408).trans hf2853
  have hn3024 : q2391 ≠ q2854 := fun e => hq2857 (e ▸ hm2408)
  have hm3023 := hs2858 _ hm2408
  refine lv_dup hx hb dX10_init_151 rfl ?_
  refine call_v (run_IN (rm := { frames := 1, cells := 1, slots := 520, locals := 12 }) hx hb hml hown hts (k_X8_init l g _ _ _ q2854 hm2859 hf2860) cI_X8_init wn_191 ⟨Nat.le_of_ble_eq_true rfl, Nat.le_of_ble_eq_true rfl⟩ hG hE hA hP hD hS rfl hl.1 (As := []) (rest := [.ref q2854, .ref x]) rfl (Nat.le_of_ble_eq_true rfl) dX10_init_152 ⟨Nat.le_of_ble_eq_true rfl, Nat.le_of_ble_eq_true rfl⟩) hA hD hS (fun L3026 f3027 H locs hp3028 hP hD hS => ?_)
  obtain ⟨q3029, hn3030, hm3031, hf3032, hf3033, er3034, fr3035, sb3036⟩ := hp3028
  have hN3037 : [q3029, q2854, q2386, q2387, q2388, q2389, q2390, q2391, q2232, q2037, q1891, q1419, q1420, q1421, q1422, q1423, q1424, q1425, q1426, q1427, q1303, q951, q952, q953, q954, q955, q956, q957, q958, q959, q865, q633, q634, q635, q636, q637, q638, q639, q640, q641, q577, q478, q385, q318, q319, q277, q233, q198, q141, q90, q45, q21, q1].Nodup := nd_app (l := [q3029]) (k := [q2854, q2386, q2387, q2388, q2389, q2390, q2391, q2232, q2037, q1891, q1419, q1420, q1421, q1422, q1423, q1424, q1425, q1426, q1427, q1303, q951, q952, q953, q954, q955, q956, q957, q958, q959, q865, q633, q634, q635, q636, q637, q638, q639, q640, q641, q577, q478, q385, q318, q319, q277, q233, q198, q141, q90, q45, q21, q1]) er3034 (List.forall_mem_cons.mpr ⟨hn3030, (fun _ h => absurd h List.not_mem_nil)⟩) hN2862 hNs2863
  have hNs3038 : ∀ b, b ∈ [q3029, q2854, q2386, q2387, q2388, q2389, q2390, q2391, q2232, q2037, q1891, q1419, q1420, q1421, q1422, q1423, q1424, q1425, q1426, q1427, q1303, q951, q952, q953, q954, q955, q956, q957, q958, q959, q865, q633, q634, q635, q636, q637, q638, q639, q640, q641, q577, q478, q385, q318, q319, q277, q233, q198, q141, q90, q45, q21, q1] → b ∈ L3026 := fm_app (l := [q3029]) (k := [q2854, q2386, q2387, q2388, q2389, q2390, q2391, q2232, q2037, q1891, q1419, q1420, q1421, q1422, q1423, q1424, q1425, q1426, q1427, q1303, q951, q952, q953, q954, q955, q956, q957, q958, q959, q865, q633, q634, q635, q636, q637, q638, q639, q640, q641, q577, q478, q385, q318, q319, q277, q233, q198, q141, q90, q45, q21, q1]) (List.forall_mem_cons.mpr ⟨hm3031, (fun _ h => absurd h List.not_mem_nil)⟩) (fun b hb => sb3036 b (hNs2863 b hb))
  have hRq3039 : ∀ j, j < 20 → ∀ k, k < 10 → aa2039 j k ≠ q3029 := fun j hj k hk e => hn3030 (e ▸ (hR2865.1 j hj k hk).1)
  have hR3040 : RINGP g L1892 L3026 f3027 20 aa2039 := RINGP.tr hR2865 hRq2864 sb3036 (fun b hb hn => fr3035 b hb hn)
  have hfr3041 : ∀ b, b ∈ L → b ≠ x → f3027 b = f b := fun b hb z0 => (fr3035 b (hsb2867 b hb) (fun e => hnq2868 (e ▸ hb))).trans (hfr2866 b hb z0)
  have hnq3043 : q3029 ∉ L := fun h => hn3030 (hsb2867 _ h)
  have hsb3042 : ∀ b, b ∈ L → b ∈ L3026 := fun b hb => sb3036 b (hsb2867 b hb)
  have hn3045 : x ≠ q3029 := fun e => hn3030 (e ▸ hm2870)
  have hf3046 := (fr3035 x hm2870 hn2871).trans hf2869
  have hm3044 := sb3036 _ hm2870
  have hn3048 : q1 ≠ q3029 := fun e => hn3030 (e ▸ hm2873)
  have hf3049 := (fr3035 q1 hm2873 hn2874).trans hf2872
  have hm3047 := sb3036 _ hm2873
  have hn3051 : q21 ≠ q3029 := fun e => hn3030 (e ▸ hm2876)
  have hf3052 := (fr3035 q21 hm2876 hn2877).trans hf2875
  have hm3050 := sb3036 _ hm2876
  have hn3054 : q45 ≠ q3029 := fun e => hn3030 (e ▸ hm2879)
  have hf3055 := (fr3035 q45 hm2879 hn2880).trans hf2878
  have hm3053 := sb3036 _ hm2879
  have hn3057 : q90 ≠ q3029 := fun e => hn3030 (e ▸ hm2882)
  have hf3058 := (fr3035 q90 hm2882 hn2883).trans hf2881
  have hm3056 := sb3036 _ hm2882
  have hn3060 : q141 ≠ q3029 := fun e => hn3030 (e ▸ hm2885)
  have hf3061 := (fr3035 q141 hm2885 hn2886).trans hf2884
  have hm3059 := sb3036 _ hm2885
  have hn3063 : q198 ≠ q3029 := fun e => hn3030 (e ▸ hm2888)
  have hf3064 := (fr3035 q198 hm2888 hn2889).trans hf2887
  have hm3062 := sb3036 _ hm2888
  have hn3066 : q233 ≠ q3029 := fun e => hn3030 (e ▸ hm2891)
  have hf3067 := (fr3035 q233 hm2891 hn2892).trans hf2890
  have hm3065 := sb3036 _ hm2891
  have hn3069 : q277 ≠ q3029 := fun e => hn3030 (e ▸ hm2894)
  have hf3070 := (fr3035 q277 hm2894 hn2895).trans hf2893
  have hm3068 := sb3036 _ hm2894
  have hn3072 : q318 ≠ q3029 := fun e => hn3030 (e ▸ hm2897)
  have hf3073 := (fr3035 q318 hm2897 hn2898).trans hf2896
  have hm3071 := sb3036 _ hm2897
  have hn3075 : q319 ≠ q3029 := fun e => hn3030 (e ▸ hm2900)
  have hf3076 := (fr3035 q319 hm2900 hn2901).trans hf2899
  have hm3074 := sb3036 _ hm2900
  have hn3078 : q385 ≠ q3029 := fun e => hn3030 (e ▸ hm2903)
  have hf3079 := (fr3035 q385 hm2903 hn2904).trans hf2902
  have hm3077 := sb3036 _ hm2903
  have hn3081 : q478 ≠ q3029 := fun e => hn3030 (e ▸ hm2906)
  have hf3082 := (fr3035 q478 hm2906 hn2907).trans hf2905
  have hm3080 := sb3036 _ hm2906
  have hn3084 : q577 ≠ q3029 := fun e => hn3030 (e ▸ hm2909)
  have hf3085 := (fr3035 q577 hm2909 hn2910).trans hf2908
  have hm3083 := sb3036 _ hm2909
  have hn3087 : q633 ≠ q3029 := fun e => hn3030 (e ▸ hm2912)
  have hf3088 := (fr3035 q633 hm2912 hn2913).trans hf2911
  have hm3086 := sb3036 _ hm2912
  have hn3090 : q634 ≠ q3029 := fun e => hn3030 (e ▸ hm2915)
  have hf3091 := (fr3035 q634 hm2915 hn2916).trans hf2914
  have hm3089 := sb3036 _ hm2915
  have hn3093 : q635 ≠ q3029 := fun e => hn3030 (e ▸ hm2918)
  have hf3094 := (fr3035 q635 hm2918 hn2919).trans hf2917
  have hm3092 := sb3036 _ hm2918
  have hn3096 : q636 ≠ q3029 := fun e => hn3030 (e ▸ hm2921)
  have hf3097 := (fr3035 q636 hm2921 hn2922).trans hf2920
  have hm3095 := sb3036 _ hm2921
  have hn3099 : q637 ≠ q3029 := fun e => hn3030 (e ▸ hm2924)
  have hf3100 := (fr3035 q637 hm2924 hn2925).trans hf2923
  have hm3098 := sb3036 _ hm2924
  have hn3102 : q638 ≠ q3029 := fun e => hn3030 (e ▸ hm2927)
  have hf3103 := (fr3035 q638 hm2927 hn2928).trans hf2926
  have hm3101 := sb3036 _ hm2927
  have hn3105 : q639 ≠ q3029 := fun e => hn3030 (e ▸ hm2930)
  have hf3106 := (fr3035 q639 hm2930 hn2931).trans hf2929
  have hm3104 := sb3036 _ hm2930
  have hn3108 : q640 ≠ q3029 := fun e => hn3030 (e ▸ hm2933)
  have hf3109 := (fr3035 q640 hm2933 hn2934).trans hf2932
  have hm3107 := sb3036 _ hm2933
  have hn3111 : q641 ≠ q3029 := fun e => hn3030 (e ▸ hm2936)
  have hf3112 := (fr3035 q641 hm2936 hn2937).trans hf2935
  have hm3110 := sb3036 _ hm2936
  have hn3114 : q865 ≠ q3029 := fun e => hn3030 (e ▸ hm2939)
  have hf3115 := (fr3035 q865 hm2939 hn2940).trans hf2938
  have hm3113 := sb3036 _ hm2939
  have hn3117 : q951 ≠ q3029 := fun e => hn3030 (e ▸ hm2942)
  have hf3118 := (fr3035 q951 hm2942 hn2943).trans hf2941
  have hm3116 := sb3036 _ hm2942
  have hn3120 : q952 ≠ q3029 := fun e => hn3030 (e ▸ hm2945)
  have hf3121 := (fr3035 q952 hm2945 hn2946).trans hf2944
  have hm3119 := sb3036 _ hm2945
  have hn3123 : q953 ≠ q3029 := fun e => hn3030 (e ▸ hm2948)
  have hf3124 := (fr3035 q953 hm2948 hn2949).trans hf2947
  have hm3122 := sb3036 _ hm2948
  have hn3126 : q954 ≠ q3029 := fun e => hn3030 (e ▸ hm2951)
  have hf3127 := (fr3035 q954 hm2951 hn2952).trans hf2950
  have hm3125 := sb3036 _ hm2951
  have hn3129 : q955 ≠ q3029 := fun e => hn3030 (e ▸ hm2954)
  have hf3130 := (fr3035 q955 hm2954 hn2955).trans hf2953
  have hm3128 := sb3036 _ hm2954
  have hn3132 : q956 ≠ q3029 := fun e => hn3030 (e ▸ hm2957)
  have hf3133 := (fr3035 q956 hm2957 hn2958).trans hf2956
  have hm3131 := sb3036 _ hm2957
  have hn3135 : q957 ≠ q3029 := fun e => hn3030 (e ▸ hm2960)
  have hf3136 := (fr3035 q957 hm2960 hn2961).trans hf2959
  have hm3134 := sb3036 _ hm2960
  have hn3138 : q958 ≠ q3029 := fun e => hn3030 (e ▸ hm2963)
  have hf3139 := (fr3035 q958 hm2963 hn2964).trans hf2962
  have hm3137 := sb3036 _ hm2963
  have hn3141 : q959 ≠ q3029 := fun e => hn3030 (e ▸ hm2966)
  have hf3142 := (fr3035 q959 hm2966 hn2967).trans hf2965
  have hm3140 := sb3036 _ hm2966
  have hn3144 : q1303 ≠ q3029 := fun e => hn3030 (e ▸ hm2969)
  have hf3145 := (fr3035 q1303 hm2969 hn2970).trans hf2968
  have hm3143 := sb3036 _ hm2969
  have hn3147 : q1419 ≠ q3029 := fun e => hn3030 (e ▸ hm2972)
  have hf3148 := (fr3035 q1419 hm2972 hn2973).trans hf2971
  have hm3146 := sb3036 _ hm2972
  have hn3150 : q1420 ≠ q3029 := fun e => hn3030 (e ▸ hm2975)
  have hf3151 := (fr3035 q1420 hm2975 hn2976).trans hf2974
  have hm3149 := sb3036 _ hm2975
  have hn3153 : q1421 ≠ q3029 := fun e => hn3030 (e ▸ hm2978)
  have hf3154 := (fr3035 q1421 hm2978 hn2979).trans hf2977
  have hm3152 := sb3036 _ hm2978
  have hn3156 : q1422 ≠ q3029 := fun e => hn3030 (e ▸ hm2981)
  have hf3157 := (fr3035 q1422 hm2981 hn2982).trans hf2980
  have hm3155 := sb3036 _ hm2981
  have hn3159 : q1423 ≠ q3029 := fun e => hn3030 (e ▸ hm2984)
  have hf3160 := (fr3035 q1423 hm2984 hn2985).trans hf2983
  have hm3158 := sb3036 _ hm2984
  have hn3162 : q1424 ≠ q3029 := fun e => hn3030 (e ▸ hm2987)
  have hf3163 := (fr3035 q1424 hm2987 hn2988).trans hf2986
  have hm3161 := sb3036 _ hm2987
  have hn3165 : q1425 ≠ q3029 := fun e => hn3030 (e ▸ hm2990)
  have hf3166 := (fr3035 q1425 hm2990 hn2991).trans hf2989
  have hm3164 := sb3036 _ hm2990
  have hn3168 : q1426 ≠ q3029 := fun e => hn3030 (e ▸ hm2993)
  have hf3169 := (fr3035 q1426 hm2993 hn2994).trans hf2992
  have hm3167 := sb3036 _ hm2993
  have hn3171 : q1427 ≠ q3029 := fun e => hn3030 (e ▸ hm2996)
  have hf3172 := (fr3035 q1427 hm2996 hn2997).trans hf2995
  have hm3170 := sb3036 _ hm2996
  have hn3174 : q1891 ≠ q3029 := fun e => hn3030 (e ▸ hm2999)
  have hf3175 := (fr3035 q1891 hm2999 hn3000).trans hf2998
  have hm3173 := sb3036 _ hm2999
  have hn3177 : q2037 ≠ q3029 := fun e => hn3030 (e ▸ hm3002)
  have hf3178 := (fr3035 q2037 hm3002 hn3003).trans hf3001
  have hm3176 := sb3036 _ hm3002
  have hn3180 : q2232 ≠ q3029 := fun e => hn3030 (e ▸ hm3005)
  have hf3181 := (fr3035 q2232 hm3005 hn3006).trans hf3004
  have hm3179 := sb3036 _ hm3005
  have hn3183 : q2386 ≠ q3029 := fun e => hn3030 (e ▸ hm3008)
  have hf3184 := (fr3035 q2386 hm3008 hn3009).trans hf3007
  have hm3182 := sb3036 _ hm3008
  have hn3186 : q2387 ≠ q3029 := fun e => hn3030 (e ▸ hm3011)
  have hf3187 := (fr3035 q2387 hm3011 hn3012).trans hf3010
  have hm3185 := sb3036 _ hm3011
  have hn3189 : q2388 ≠ q3029 := fun e => hn3030 (e ▸ hm3014)
  have hf3190 := (fr3035 q2388 hm3014 hn3015).trans hf3013
  have hm3188 := sb3036 _ hm3014
  have hn3192 : q2389 ≠ q3029 := fun e => hn3030 (e ▸ hm3017)
  have hf3193 := (fr3035 q2389 hm3017 hn3018).trans hf3016
  have hm3191 := sb3036 _ hm3017
  have hn3195 : q2390 ≠ q3029 := fun e => hn3030 (e ▸ hm3020)
  have hf3196 := (fr3035 q2390 hm3020 hn3021).trans hf3019
  have hm3194 := sb3036 _ hm3020
  have hn3198 : q2391 ≠ q3029 := fun e => hn3030 (e ▸ hm3023)
  have hf3199 := (fr3035 q2391 hm3023 hn3024).trans hf3022
  have hm3197 := sb3036 _ hm3023
  have hn3201 : q2854 ≠ q3029 := fun e => hn3030 (e ▸ hm2859)
  have hm3200 := sb3036 _ hm2859
  refine pl_putF (ty := (.object "RulerWord$Tape")) (v := .ref q2854) (fs' := [.ref q1, .ref q45, .ref q90, .ref q141, .ref q198, .ref q277, .ref q385, .ref q478, .ref q577, .ref q865, .ref q1303, .ref q1891, .ref q2232, .ref q2854, .null, .int 0, .int 0, .long 0]) hx hb hts (fun w h => mT (inX10 w h)) tyX10 tyX10_ok nmX10 hown hG.1 hP hD hS hm3044 hf3046 rfl 13 (by decide) (hts _ (mT wg_488)) (fun _ h => h) rfl hnm rfl (by decide +kernel) (rfl) (rfl) (Nat.le_of_ble_eq_true rfl) rfl dX10_init_155 (fun H locs f3202 hf3204 ho3203 hP hD hS => ?_)
  have hR3205 : RINGP g L1892 L3026 f3202 20 aa2039 := RINGP.tr hR3040 (fun j hj k hk e => (hR3040.1 j hj k hk).2 (e ▸ hm1905)) (fun b hb => hb) (fun b _ hb => ho3203 b hb)
  have hfr3206 : ∀ b, b ∈ L → b ≠ x → f3202 b = f b := fun b hb z0 => (ho3203 b z0).trans (hfr3041 b hb z0)
  have hf3207 := (ho3203 q1 hn16.symm).trans hf3049
  have hf3208 := (ho3203 q21 hn35.symm).trans hf3052
  have hf3209 := (ho3203 q45 hn60.symm).trans hf3055
  have hf3210 := (ho3203 q90 hn105.symm).trans hf3058
  have hf3211 := (ho3203 q141 hn156.symm).trans hf3061
  have hf3212 := (ho3203 q198 hn213.symm).trans hf3064
  have hf3213 := (ho3203 q233 hn247.symm).trans hf3067
  have hf3214 := (ho3203 q277 hn292.symm).trans hf3070
  have hf3215 := (ho3203 q318 hn337.symm).trans hf3073
  have hf3216 := (ho3203 q319 hn338.symm).trans hf3076
  have hf3217 := (ho3203 q385 hn400.symm).trans hf3079
  have hf3218 := (ho3203 q478 hn493.symm).trans hf3082
  have hf3219 := (ho3203 q577 hn592.symm).trans hf3085
  have hf3220 := (ho3203 q633 hn687.symm).trans hf3088
  have hf3221 := (ho3203 q634 hn688.symm).trans hf3091
  have hf3222 := (ho3203 q635 hn689.symm).trans hf3094
  have hf3223 := (ho3203 q636 hn690.symm).trans hf3097
  have hf3224 := (ho3203 q637 hn691.symm).trans hf3100
  have hf3225 := (ho3203 q638 hn692.symm).trans hf3103
  have hf3226 := (ho3203 q639 hn693.symm).trans hf3106
  have hf3227 := (ho3203 q640 hn694.symm).trans hf3109
  have hf3228 := (ho3203 q641 hn695.symm).trans hf3112
  have hf3229 := (ho3203 q865 hn880.symm).trans hf3115
  have hf3230 := (ho3203 q951 hn1005.symm).trans hf3118
  have hf3231 := (ho3203 q952 hn1006.symm).trans hf3121
  have hf3232 := (ho3203 q953 hn1007.symm).trans hf3124
  have hf3233 := (ho3203 q954 hn1008.symm).trans hf3127
  have hf3234 := (ho3203 q955 hn1009.symm).trans hf3130
  have hf3235 := (ho3203 q956 hn1010.symm).trans hf3133
  have hf3236 := (ho3203 q957 hn1011.symm).trans hf3136
  have hf3237 := (ho3203 q958 hn1012.symm).trans hf3139
  have hf3238 := (ho3203 q959 hn1013.symm).trans hf3142
  have hf3239 := (ho3203 q1303 hn1318.symm).trans hf3145
  have hf3240 := (ho3203 q1419 hn1473.symm).trans hf3148
  have hf3241 := (ho3203 q1420 hn1474.symm).trans hf3151
  have hf3242 := (ho3203 q1421 hn1475.symm).trans hf3154
  have hf3243 := (ho3203 q1422 hn1476.symm).trans hf3157
  have hf3244 := (ho3203 q1423 hn1477.symm).trans hf3160
  have hf3245 := (ho3203 q1424 hn1478.symm).trans hf3163
  have hf3246 := (ho3203 q1425 hn1479.symm).trans hf3166
  have hf3247 := (ho3203 q1426 hn1480.symm).trans hf3169
  have hf3248 := (ho3203 q1427 hn1481.symm).trans hf3172
  have hf3249 := (ho3203 q1891 hn1906.symm).trans hf3175
  have hf3250 := (ho3203 q2037 hn2053.symm).trans hf3178
  have hf3251 := (ho3203 q2232 hn2249.symm).trans hf3181
  have hf3252 := (ho3203 q2386 hn2432.symm).trans hf3184
  have hf3253 := (ho3203 q2387 hn2433.symm).trans hf3187
  have hf3254 := (ho3203 q2388 hn2434.symm).trans hf3190
  have hf3255 := (ho3203 q2389 hn2435.symm).trans hf3193
  have hf3256 := (ho3203 q2390 hn2436.symm).trans hf3196
  have hf3257 := (ho3203 q2391 hn2437.symm).trans hf3199
  have hf3258 := (ho3203 q2854 hn2871.symm).trans hf3033
  have hf3259 := (ho3203 q3029 hn3045.symm).trans hf3032
  refine lv_aload_n hx hb dX10_init_158 rfl (lv_at hl 0 rfl) ?_
  refine lv_iconst (v := 5) hx hb dX10_init_159 (by decide) ?_
  refine pl_newa (atype := .int) (ty := .int) (N' := 5) (a0 := (5, .inl (fun _ => 0))) hx hb (hts _ (mT wg_217)) rfl hG.1 hP hD hS hA 0 rfl (fun _ h => h) (fun _ => rfl) (by decide) (by decide) (Nat.le_of_ble_eq_true rfl) (Nat.le_of_ble_eq_true rfl) (Nat.le_of_ble_eq_true rfl) dX10_init_160 (fun q3260 H L3261 f3262 hq3263 hs3264 hm3265 hf3266 ho3267 hP hD hS => ?_)
  have hN3268 : [q3260, q3029, q2854, q2386, q2387, q2388, q2389, q2390, q2391, q2232, q2037, q1891, q1419, q1420, q1421, q1422, q1423, q1424, q1425, q1426, q1427, q1303, q951, q952, q953, q954, q955, q956, q957, q958, q959, q865, q633, q634, q635, q636, q637, q638, q639, q640, q641, q577, q478, q385, q318, q319, q277, q233, q198, q141, q90, q45, q21, q1].Nodup := List.nodup_cons.mpr ⟨fun h => hq3263 (hNs3038 _ h), hN3037⟩
  have hNs3269 : ∀ b, b ∈ [q3260, q3029, q2854, q2386, q2387, q2388, q2389, q2390, q2391, q2232, q2037, q1891, q1419, q1420, q1421, q1422, q1423, q1424, q1425, q1426, q1427, q1303, q951, q952, q953, q954, q955, q956, q957, q958, q959, q865, q633, q634, q635, q636, q637, q638, q639, q640, q641, q577, q478, q385, q318, q319, q277, q233, q198, q141, q90, q45, q21, q1] → b ∈ L3261 := List.forall_mem_cons.mpr ⟨hm3265, fun b hb => hs3264 b (hNs3038 b hb)⟩
  have hRq3270 : ∀ j, j < 20 → ∀ k, k < 10 → aa2039 j k ≠ q3260 := fun j hj k hk e => hq3263 (e ▸ (hR3205.1 j hj k hk).1)
  have hR3271 : RINGP g L1892 L3261 f3262 20 aa2039 := RINGP.tr hR3205 hRq3270 hs3264 (fun b hb _ => ho3267 b hb)
  have hfr3272 : ∀ b, b ∈ L → b ≠ x → f3262 b = f b := fun b hb z0 => (ho3267 b (hsb3042 b hb)).trans (hfr3206 b hb z0)
  have hnq3274 : q3260 ∉ L := fun h => hq3263 (hsb3042 _ h)
  have hsb3273 : ∀ b, b ∈ L → b ∈ _ := fun b hb => hs3264 b (hsb3042 b hb)
  have hf3275 := (ho3267 x hm3044).trans hf3204
  have hn3277 : x ≠ q3260 := fun e => hq3263 (e ▸ hm3044)
  have hm3276 := hs3264 _ hm3044
  have hf3278 := (ho3267 q1 hm3047).trans hf3207
  have hn3280 : q1 ≠ q3260 := fun e => hq3263 (e ▸ hm3047)
  have hm3279 := hs3264 _ hm3047
  have hf3281 := (ho3267 q21 hm3050).trans hf3208
  have hn3283 : q21 ≠ q3260 := fun e => hq3263 (e ▸ hm3050)
  have hm3282 := hs3264 _ hm3050
  have hf3284 := (ho3267 q45 hm3053).trans hf3209
  have hn3286 : q45 ≠ q3260 := fun e => hq3263 (e ▸ hm3053)
  have hm3285 := hs3264 _ hm3053
  have hf3287 := (ho3267 q90 hm3056).trans hf3210
  have hn3289 : q90 ≠ q3260 := fun e => hq3263 (e ▸ hm3056)
  have hm3288 := hs3264 _ hm3056
  have hf3290 := (ho3267 q141 hm3059).trans hf3211
  have hn3292 : q141 ≠ q3260 := fun e => hq3263 (e ▸ hm3059)
  have hm3291 := hs3264 _ hm3059
  have hf3293 := (ho3267 q198 hm3062).trans hf3212
  have hn3295 : q198 ≠ q3260 := fun e => hq3263 (e ▸ hm3062)
  have hm3294 := hs3264 _ hm3062
  have hf3296 := (ho3267 q233 hm3065).trans hf3213
  have hn3298 : q233 ≠ q3260 := fun e => hq3263 (e ▸ hm3065)
  have hm3297 := hs3264 _ hm3065
  have hf3299 := (ho3267 q277 hm3068).trans hf3214
  have hn3301 : q277 ≠ q3260 := fun e => hq3263 (e ▸ hm3068)
  have hm3300 := hs3264 _ hm3068
  have hf3302 := (ho3267 q318 hm3071).trans hf3215
  have hn3304 : q318 ≠ q3260 := fun e => hq3263 (e ▸ hm3071)
  have hm3303 := hs3264 _ hm3071
  have hf3305 := (ho3267 q319 hm3074).trans hf3216
  have hn3307 : q319 ≠ q3260 := fun e => hq3263 (e ▸ hm3074)
  have hm3306 := hs3264 _ hm3074
  have hf3308 := (ho3267 q385 hm3077).trans hf3217
  have hn3310 : q385 ≠ q3260 := fun e => hq3263 (e ▸ hm3077)
  have hm3309 := hs3264 _ hm3077
  have hf3311 := (ho3267 q478 hm3080).trans hf3218
  have hn3313 : q478 ≠ q3260 := fun e => hq3263 (e ▸ hm3080)
  have hm3312 := hs3264 _ hm3080
  have hf3314 := (ho3267 q577 hm3083).trans hf3219
  have hn3316 : q577 ≠ q3260 := fun e => hq3263 (e ▸ hm3083)
  have hm3315 := hs3264 _ hm3083
  have hf3317 := (ho3267 q633 hm3086).trans hf3220
  have hn3319 : q633 ≠ q3260 := fun e => hq3263 (e ▸ hm3086)
  have hm3318 := hs3264 _ hm3086
  have hf3320 := (ho3267 q634 hm3089).trans hf3221
  have hn3322 : q634 ≠ q3260 := fun e => hq3263 (e ▸ hm3089)
  have hm3321 := hs3264 _ hm3089
  have hf3323 := (ho3267 q635 hm3092).trans hf3222
  have hn3325 : q635 ≠ q3260 := fun e => hq3263 (e ▸ hm3092)
  have hm3324 := hs3264 _ hm3092
  have hf3326 := (ho3267 q636 hm3095).trans hf3223
  have hn3328 : q636 ≠ q3260 := fun e => hq3263 (e ▸ hm3095)
  have hm3327 := hs3264 _ hm3095
  have hf3329 := (ho3267 q637 hm3098).trans hf3224
  have hn3331 : q637 ≠ q3260 := fun e => hq3263 (e ▸ hm3098)
  have hm3330 := hs3264 _ hm3098
  have hf3332 := (ho3267 q638 hm3101).trans hf3225
  have hn3334 : q638 ≠ q3260 := fun e => hq3263 (e ▸ hm3101)
  have hm3333 := hs3264 _ hm3101
  have hf3335 := (ho3267 q639 hm3104).trans hf3226
  have hn3337 : q639 ≠ q3260 := fun e => hq3263 (e ▸ hm3104)
  have hm3336 := hs3264 _ hm3104
  have hf3338 := (ho3267 q640 hm3107).trans hf3227
  have hn3340 : q640 ≠ q3260 := fun e => hq3263 (e ▸ hm3107)
  have hm3339 := hs3264 _ hm3107
  have hf3341 := (ho3267 q641 hm3110).trans hf3228
  have hn3343 : q641 ≠ q3260 := fun e => hq3263 (e ▸ hm3110)
  have hm3342 := hs3264 _ hm3110
  have hf3344 := (ho3267 q865 hm3113).trans hf3229
  have hn3346 : q865 ≠ q3260 := fun e => hq3263 (e ▸ hm3113)
  have hm3345 := hs3264 _ hm3113
  have hf3347 := (ho3267 q951 hm3116).trans hf3230
  have hn3349 : q951 ≠ q3260 := fun e => hq3263 (e ▸ hm3116)
  have hm3348 := hs3264 _ hm3116
  have hf3350 := (ho3267 q952 hm3119).trans hf3231
  have hn3352 : q952 ≠ q3260 := fun e => hq3263 (e ▸ hm3119)
  have hm3351 := hs3264 _ hm3119
  have hf3353 := (ho3267 q953 hm3122).trans hf3232
  have hn3355 : q953 ≠ q3260 := fun e => hq3263 (e ▸ hm3122)
  have hm3354 := hs3264 _ hm3122
  have hf3356 := (ho3267 q954 hm3125).trans hf3233
  have hn3358 : q954 ≠ q3260 := fun e => hq3263 (e ▸ hm3125)
  have hm3357 := hs3264 _ hm3125
  have hf3359 := (ho3267 q955 hm3128).trans hf3234
  have hn3361 : q955 ≠ q3260 := fun e => hq3263 (e ▸ hm3128)
  have hm3360 := hs3264 _ hm3128
  have hf3362 := (ho3267 q956 hm3131).trans hf3235
  have hn3364 : q956 ≠ q3260 := fun e => hq3263 (e ▸ hm3131)
  have hm3363 := hs3264 _ hm3131
  have hf3365 := (ho3267 q957 hm3134).trans hf3236
  have hn3367 : q957 ≠ q3260 := fun e => hq3263 (e ▸ hm3134)
  have hm3366 := hs3264 _ hm3134
  have hf3368 := (ho3267 q958 hm3137).trans hf3237
  have hn3370 : q958 ≠ q3260 := fun e => hq3263 (e ▸ hm3137)
  have hm3369 := hs3264 _ hm3137
  have hf3371 := (ho3267 q959 hm3140).trans hf3238
  have hn3373 : q959 ≠ q3260 := fun e => hq3263 (e ▸ hm3140)
  have hm3372 := hs3264 _ hm3140
  have hf3374 := (ho3267 q1303 hm3143).trans hf3239
  have hn3376 : q1303 ≠ q3260 := fun e => hq3263 (e ▸ hm3143)
  have hm3375 := hs3264 _ hm3143
  have hf3377 := (ho3267 q1419 hm3146).trans hf3240
  have hn3379 : q1419 ≠ q3260 := fun e => hq3263 (e ▸ hm3146)
  have hm3378 := hs3264 _ hm3146
  have hf3380 := (ho3267 q1420 hm3149).trans hf3241
  have hn3382 : q1420 ≠ q3260 := fun e => hq3263 (e ▸ hm3149)
  have hm3381 := hs3264 _ hm3149
  have hf3383 := (ho3267 q1421 hm3152).trans hf3242
  have hn3385 : q1421 ≠ q3260 := fun e => hq3263 (e ▸ hm3152)
  have hm3384 := hs3264 _ hm3152
  have hf3386 := (ho3267 q1422 hm3155).trans hf3243
  have hn3388 : q1422 ≠ q3260 := fun e => hq3263 (e ▸ hm3155)
  have hm3387 := hs3264 _ hm3155
  have hf3389 := (ho3267 q1423 hm3158).trans hf3244
  have hn3391 : q1423 ≠ q3260 := fun e => hq3263 (e ▸ hm3158)
  have hm3390 := hs3264 _ hm3158
  have hf3392 := (ho3267 q1424 hm3161).trans hf3245
  have hn3394 : q1424 ≠ q3260 := fun e => hq3263 (e ▸ hm3161)
  have hm3393 := hs3264 _ hm3161
  have hf3395 := (ho3267 q1425 hm3164).trans hf3246
  have hn3397 : q1425 ≠ q3260 := fun e => hq3263 (e ▸ hm3164)
  have hm3396 := hs3264 _ hm3164
  have hf3398 := (ho3267 q1426 hm3167).trans hf3247
  have hn3400 : q1426 ≠ q3260 := fun e => hq3263 (e ▸ hm3167)
  have hm3399 := hs3264 _ hm3167
  have hf3401 := (ho3267 q1427 hm3170).trans hf3248
  have hn3403 : q1427 ≠ q3260 := fun e => hq3263 (e ▸ hm3170)
  have hm3402 := hs3264 _ hm3170
  have hf3404 := (ho3267 q1891 hm3173).trans hf3249
  have hn3406 : q1891 ≠ q3260 := fun e => hq3263 (e ▸ hm3173)
  have hm3405 := hs3264 _ hm3173
  have hf3407 := (ho3267 q2037 hm3176).trans hf3250
  have hn3409 : q2037 ≠ q3260 := fun e => hq3263 (e ▸ hm3176)
  have hm3408 := hs3264 _ hm3176
  have hf3410 := (ho3267 q2232 hm3179).trans hf3251
  have hn3412 : q2232 ≠ q3260 := fun e => hq3263 (e ▸ hm3179)
  have hm3411 := hs3264 _ hm3179
  have hf3413 := (ho3267 q2386 hm3182).trans hf3252
  have hn3415 : q2386 ≠ q3260 := fun e => hq3263 (e ▸ hm3182)
  have hm3414 := hs3264 _ hm3182
  have hf3416 := (ho3267 q2387 hm3185).trans hf3253
  have hn3418 : q2387 ≠ q3260 := fun e => hq3263 (e ▸ hm3185)
  have hm3417 := hs3264 _ hm3185
  have hf3419 := (ho3267 q2388 hm3188).trans hf3254
  have hn3421 : q2388 ≠ q3260 := fun e => hq3263 (e ▸ hm3188)
  have hm3420 := hs3264 _ hm3188
  have hf3422 := (ho3267 q2389 hm3191).trans hf3255
  have hn3424 : q2389 ≠ q3260 := fun e => hq3263 (e ▸ hm3191)
  have hm3423 := hs3264 _ hm3191
  have hf3425 := (ho3267 q2390 hm3194).trans hf3256
  have hn3427 : q2390 ≠ q3260 := fun e => hq3263 (e ▸ hm3194)
  have hm3426 := hs3264 _ hm3194
  have hf3428 := (ho3267 q2391 hm3197).trans hf3257
  have hn3430 : q2391 ≠ q3260 := fun e => hq3263 (e ▸ hm3197)
  have hm3429 := hs3264 _ hm3197
  have hf3431 := (ho3267 q2854 hm3200).trans hf3258
  have hn3433 : q2854 ≠ q3260 := fun e => hq3263 (e ▸ hm3200)
  have hm3432 := hs3264 _ hm3200
  have hf3434 := (ho3267 q3029 hm3031).trans hf3259
  have hn3436 : q3029 ≠ q3260 := fun e => hq3263 (e ▸ hm3031)
  have hm3435 := hs3264 _ hm3031
  refine pl_putF (ty := (.array .int)) (v := .ref q3260) (fs' := [.ref q1, .ref q45, .ref q90, .ref q141, .ref q198, .ref q277, .ref q385, .ref q478, .ref q577, .ref q865, .ref q1303, .ref q1891, .ref q2232, .ref q2854, .ref q3260, .int 0, .int 0, .long 0]) hx hb hts (fun w h => mT (inX10 w h)) tyX10 tyX10_ok nmX10 hown hG.1 hP hD hS hm3276 hf3275 rfl 14 (by decide) (hts _ (mT wg_489)) (fun _ h => h) rfl hnm rfl (by decide +kernel) (rfl) (rfl) (Nat.le_of_ble_eq_true rfl) rfl dX10_init_162 (fun H locs f3437 hf3439 ho3438 hP hD hS => ?_)
  have hR3440 : RINGP g L1892 L3261 f3437 20 aa2039 := RINGP.tr hR3271 (fun j hj k hk e => (hR3271.1 j hj k hk).2 (e ▸ hm1905)) (fun b hb => hb) (fun b _ hb => ho3438 b hb)
  have hfr3441 : ∀ b, b ∈ L → b ≠ x → f3437 b = f b := fun b hb z0 => (ho3438 b z0).trans (hfr3272 b hb z0)
  have hf3442 := (ho3438 q1 hn16.symm).trans hf3278
  have hf3443 := (ho3438 q21 hn35.symm).trans hf3281
  have hf3444 := (ho3438 q45 hn60.symm).trans hf3284
  have hf3445 := (ho3438 q90 hn105.symm).trans hf3287
  have hf3446 := (ho3438 q141 hn156.symm).trans hf3290
  have hf3447 := (ho3438 q198 hn213.symm).trans hf3293
  have hf3448 := (ho3438 q233 hn247.symm).trans hf3296
  have hf3449 := (ho3438 q277 hn292.symm).trans hf3299
  have hf3450 := (ho3438 q318 hn337.symm).trans hf3302
  have hf3451 := (ho3438 q319 hn338.symm).trans hf3305
  have hf3452 := (ho3438 q385 hn400.symm).trans hf3308
  have hf3453 := (ho3438 q478 hn493.symm).trans hf3311
  have hf3454 := (ho3438 q577 hn592.symm).trans hf3314
  have hf3455 := (ho3438 q633 hn687.symm).trans hf3317
  have hf3456 := (ho3438 q634 hn688.symm).trans hf3320
  have hf3457 := (ho3438 q635 hn689.symm).trans hf3323
  have hf3458 := (ho3438 q636 hn690.symm).trans hf3326
  have hf3459 := (ho3438 q637 hn691.symm).trans hf3329
  have hf3460 := (ho3438 q638 hn692.symm).trans hf3332
  have hf3461 := (ho3438 q639 hn693.symm).trans hf3335
  have hf3462 := (ho3438 q640 hn694.symm).trans hf3338
  have hf3463 := (ho3438 q641 hn695.symm).trans hf3341
  have hf3464 := (ho3438 q865 hn880.symm).trans hf3344
  have hf3465 := (ho3438 q951 hn1005.symm).trans hf3347
  have hf3466 := (ho3438 q952 hn1006.symm).trans hf3350
  have hf3467 := (ho3438 q953 hn1007.symm).trans hf3353
  have hf3468 := (ho3438 q954 hn1008.symm).trans hf3356
  have hf3469 := (ho3438 q955 hn1009.symm).trans hf3359
  have hf3470 := (ho3438 q956 hn1010.symm).trans hf3362
  have hf3471 := (ho3438 q957 hn1011.symm).trans hf3365
  have hf3472 := (ho3438 q958 hn1012.symm).trans hf3368
  have hf3473 := (ho3438 q959 hn1013.symm).trans hf3371
  have hf3474 := (ho3438 q1303 hn1318.symm).trans hf3374
  have hf3475 := (ho3438 q1419 hn1473.symm).trans hf3377
  have hf3476 := (ho3438 q1420 hn1474.symm).trans hf3380
  have hf3477 := (ho3438 q1421 hn1475.symm).trans hf3383
  have hf3478 := (ho3438 q1422 hn1476.symm).trans hf3386
  have hf3479 := (ho3438 q1423 hn1477.symm).trans hf3389
  have hf3480 := (ho3438 q1424 hn1478.symm).trans hf3392
  have hf3481 := (ho3438 q1425 hn1479.symm).trans hf3395
  have hf3482 := (ho3438 q1426 hn1480.symm).trans hf3398
  have hf3483 := (ho3438 q1427 hn1481.symm).trans hf3401
  have hf3484 := (ho3438 q1891 hn1906.symm).trans hf3404
  have hf3485 := (ho3438 q2037 hn2053.symm).trans hf3407
  have hf3486 := (ho3438 q2232 hn2249.symm).trans hf3410
  have hf3487 := (ho3438 q2386 hn2432.symm).trans hf3413
  have hf3488 := (ho3438 q2387 hn2433.symm).trans hf3416
  have hf3489 := (ho3438 q2388 hn2434.symm).trans hf3419
  have hf3490 := (ho3438 q2389 hn2435.symm).trans hf3422
  have hf3491 := (ho3438 q2390 hn2436.symm).trans hf3425
  have hf3492 := (ho3438 q2391 hn2437.symm).trans hf3428
  have hf3493 := (ho3438 q2854 hn2871.symm).trans hf3431
  have hf3494 := (ho3438 q3029 hn3045.symm).trans hf3434
  have hf3495 := (ho3438 q3260 hn3277.symm).trans hf3266
  exact ret_v hx hb hr hlocks hP hD hS (Nat.le_of_ble_eq_true rfl) (Nat.le_of_ble_eq_true rfl) (⟨q3260, q3029, q2854, q2386, q2387, q2388, q2389, q2390, q2391, q2232, q2037, q1891, q1419, q1420, q1421, q1422, q1423, q1424, q1425, q1426, q1427, q1303, q951, q952, q953, q954, q955, q956, q957, q958, q959, q865, q633, q634, q635, q636, q637, q638, q639, q640, q641, q577, q478, q385, q318, q319, q277, q233, q198, q141, q90, q45, q21, q1, r2038, aa2039, hnq3274, hm3265, hf3495, hnq3043, hm3435, hf3494, hnq2868, hm3432, hf3493, hnq2425, hm3414, hf3487, hnq2426, hm3417, hf3488, hnq2427, hm3420, hf3489, hnq2428, hm3423, hf3490, hnq2429, hm3426, hf3491, hnq2430, hm3429, hf3492, hnq2246, hm3411, hf3486, hnq2051, hm3408, hf3485, hnq1903, hm3405, hf3484, hnq1463, hm3378, hf3475, hnq1464, hm3381, hf3476, hnq1465, hm3384, hf3477, hnq1466, hm3387, hf3478, hnq1467, hm3390, hf3479, hnq1468, hm3393, hf3480, hnq1469, hm3396, hf3481, hnq1470, hm3399, hf3482, hnq1471, hm3402, hf3483, hnq1315, hm3375, hf3474, hnq995, hm3348, hf3465, hnq996, hm3351, hf3466, hnq997, hm3354, hf3467, hnq998, hm3357, hf3468, hnq999, hm3360, hf3469, hnq1000, hm3363, hf3470, hnq1001, hm3366, hf3471, hnq1002, hm3369, hf3472, hnq1003, hm3372, hf3473, hnq877, hm3345, hf3464, hnq677, hm3318, hf3455, hnq678, hm3321, hf3456, hnq679, hm3324, hf3457, hnq680, hm3327, hf3458, hnq681, hm3330, hf3459, hnq682, hm3333, hf3460, hnq683, hm3336, hf3461, hnq684, hm3339, hf3462, hnq685, hm3342, hf3463, hnq589, hm3315, hf3454, hnq490, hm3312, hf3453, hnq397, hm3309, hf3452, hnq334, hm3303, hf3450, hnq335, hm3306, hf3451, hnq289, hm3300, hf3449, hnq245, hm3297, hf3448, hnq210, hm3294, hf3447, hnq153, hm3291, hf3446, hnq102, hm3288, hf3445, hnq57, hm3285, hf3444, hnq33, hm3282, hf3443, hnq13, hm3279, hf3442, hf3439, ⟨hN3268, RINGP.sub hR3440 hsb1902, fun j hj k hk => ⟨(hRq3270) j hj k hk, (hRq3039) j hj k hk, (hRq2864) j hj k hk, (hRq2416) j hj k hk, (hRq2417) j hj k hk, (hRq2418) j hj k hk, (hRq2419) j hj k hk, (hRq2420) j hj k hk, (hRq2421) j hj k hk, (hRq2242) j hj k hk, ((fun j hj k hk => (er2044ne j hj k hk))) j hj k hk, ((fun j hj k hk e => (hR3440.1 j hj k hk).2 (e ▸ hm1896))) j hj k hk, ((fun j hj k hk e => (hR3440.1 j hj k hk).2 (e ▸ hm2007))) j hj k hk, ((fun j hj k hk e => (hR3440.1 j hj k hk).2 (e ▸ hm2010))) j hj k hk, ((fun j hj k hk e => (hR3440.1 j hj k hk).2 (e ▸ hm2013))) j hj k hk, ((fun j hj k hk e => (hR3440.1 j hj k hk).2 (e ▸ hm2016))) j hj k hk, ((fun j hj k hk e => (hR3440.1 j hj k hk).2 (e ▸ hm2019))) j hj k hk, ((fun j hj k hk e => (hR3440.1 j hj k hk).2 (e ▸ hm2022))) j hj k hk, ((fun j hj k hk e => (hR3440.1 j hj k hk).2 (e ▸ hm2025))) j hj k hk, ((fun j hj k hk e => (hR3440.1 j hj k hk).2 (e ▸ hm2028))) j hj k hk, ((fun j hj k hk e => (hR3440.1 j hj k hk).2 (e ▸ hm2031))) j hj k hk, ((fun j hj k hk e => (hR3440.1 j hj k hk).2 (e ▸ hm2004))) j hj k hk, ((fun j hj k hk e => (hR3440.1 j hj k hk).2 (e ▸ hm1977))) j hj k hk, ((fun j hj k hk e => (hR3440.1 j hj k hk).2 (e ▸ hm1980))) j hj k hk, ((fun j hj k hk e => (hR3440.1 j hj k hk).2 (e ▸ hm1983))) j hj k hk, ((fun j hj k hk e => (hR3440.1 j hj k hk).2 (e ▸ hm1986))) j hj k hk, ((fun j hj k hk e => (hR3440.1 j hj k hk).2 (e ▸ hm1989))) j hj k hk, ((fun j hj k hk e => (hR3440.1 j hj k hk).2 (e ▸ hm1992))) j hj k hk, ((fun j hj k hk e => (hR3440.1 j hj k hk).2 (e ▸ hm1995))) j hj k hk, ((fun j hj k hk e => (hR3440.1 j hj k hk).2 (e ▸ hm1998))) j hj k hk, ((fun j hj k hk e => (hR3440.1 j hj k hk).2 (e ▸ hm2001))) j hj k hk, ((fun j hj k hk e => (hR3440.1 j hj k hk).2 (e ▸ hm1974))) j hj k hk, ((fun j hj k hk e => (hR3440.1 j hj k hk).2 (e ▸ hm1947))) j hj k hk, ((fun j hj k hk e => (hR3440.1 j hj k hk).2 (e ▸ hm1950))) j hj k hk, ((fun j hj k hk e => (hR3440.1 j hj k hk).2 (e ▸ hm1953))) j hj k hk, ((fun j hj k hk e => (hR3440.1 j hj k hk).2 (e ▸ hm1956))) j hj k hk, ((fun j hj k hk e => (hR3440.1 j hj k hk).2 (e ▸ hm1959))) j hj k hk, ((fun j hj k hk e => (hR3440.1 j hj k hk).2 (e ▸ hm1962))) j hj k hk, ((fun j hj k hk e => (hR3440.1 j hj k hk).2 (e ▸ hm1965))) j hj k hk, ((fun j hj k hk e => (hR3440.1 j hj k hk).2 (e ▸ hm1968))) j hj k hk, ((fun j hj k hk e => (hR3440.1 j hj k hk).2 (e ▸ hm1971))) j hj k hk, ((fun j hj k hk e => (hR3440.1 j hj k hk).2 (e ▸ hm1944))) j hj k hk, ((fun j hj k hk e => (hR3440.1 j hj k hk).2 (e ▸ hm1941))) j hj k hk, ((fun j hj k hk e => (hR3440.1 j hj k hk).2 (e ▸ hm1938))) j hj k hk, ((fun j hj k hk e => (hR3440.1 j hj k hk).2 (e ▸ hm1932))) j hj k hk, ((fun j hj k hk e => (hR3440.1 j hj k hk).2 (e ▸ hm1935))) j hj k hk, ((fun j hj k hk e => (hR3440.1 j hj k hk).2 (e ▸ hm1929))) j hj k hk, ((fun j hj k hk e => (hR3440.1 j hj k hk).2 (e ▸ hm1926))) j hj k hk, ((fun j hj k hk e => (hR3440.1 j hj k hk).2 (e ▸ hm1923))) j hj k hk, ((fun j hj k hk e => (hR3440.1 j hj k hk).2 (e ▸ hm1920))) j hj k hk, ((fun j hj k hk e => (hR3440.1 j hj k hk).2 (e ▸ hm1917))) j hj k hk, ((fun j hj k hk e => (hR3440.1 j hj k hk).2 (e ▸ hm1914))) j hj k hk, ((fun j hj k hk e => (hR3440.1 j hj k hk).2 (e ▸ hm1911))) j hj k hk, ((fun j hj k hk e => (hR3440.1 j hj k hk).2 (e ▸ hm1908))) j hj k hk⟩, er2044rr⟩, hfr3441, hsb3273⟩) dX10_init_165

set_option maxHeartbeats 4000000 in
set_option maxRecDepth 100000 in
theorem k_X11_init (l : Launch) (g : GG) (L : List Nat) (f : HP) (sz : Nat) (mo : Nat) (hm_mo : mo ∈ L) (hf_mo : f mo = .inr (10, [.int 0, .null, .int 0, .int 0, .int 0, .int 0, .int 0, .null, .int 0, .int 0, .null, .null, .int 0, .int 0, .int 0, .int 0, .int 0, .int 0, .int 0, .int 0, .int 0, .long 0, .long 0, .int 0, .null, .int 0, .null, .null, .null, .null, .null, .null, .null, .null, .null, .null, .int 0, .int 0, .int 0, .int 0, .int 0, .null, .null, .null, .null, .long 0, .long 0, .int 0, .int 0, .null, .int 0, .int 0, .null, .int 0, .null, .int 0])) : MtV l g yX11_init cX11_init 1 ({ frames := 1, cells := 22, slots := 48415, locals := 12 }) [.ref mo] L f sz (fun u => ∃ (c21 : Nat) (c20 : Nat) (c19 : Nat) (c18 : Nat) (c17 : Nat) (c16 : Nat) (c15 : Nat) (c14 : Nat) (c13 : Nat) (c12 : Nat) (c11 : Nat) (c10 : Nat) (c9 : Nat) (c8 : Nat) (c7 : Nat) (c6 : Nat) (c5 : Nat) (c4 : Nat) (c3 : Nat) (c2 : Nat) (c1 : Nat) (c0 : Nat), c21 ∉ L ∧ c21 ∈ u.1 ∧ u.2 c21 = .inl (g.2.1 0, 200, .inl (fun _ => 0)) ∧ c20 ∉ L ∧ c20 ∈ u.1 ∧ u.2 c20 = .inl (g.2.1 0, 400, .inl (fun _ => 0)) ∧ c19 ∉ L ∧ c19 ∈ u.1 ∧ u.2 c19 = .inl (g.2.1 0, 5, .inl (fun _ => 0)) ∧ c18 ∉ L ∧ c18 ∈ u.1 ∧ u.2 c18 = .inl (g.2.1 1, 20, .inr (.inl (fun _ => 0))) ∧ c17 ∉ L ∧ c17 ∈ u.1 ∧ u.2 c17 = .inl (g.2.1 0, 42520, .inl (fun _ => 0)) ∧ c16 ∉ L ∧ c16 ∈ u.1 ∧ u.2 c16 = .inl (g.2.1 0, 2126, .inl (fun _ => 0)) ∧ c15 ∉ L ∧ c15 ∈ u.1 ∧ u.2 c15 = .inl (g.2.1 0, 2126, .inl (fun _ => 0)) ∧ c14 ∉ L ∧ c14 ∈ u.1 ∧ u.2 c14 = .inl (g.2.1 3, 9, .inl (fun _ => 0)) ∧ c13 ∉ L ∧ c13 ∈ u.1 ∧ u.2 c13 = .inl (g.2.1 3, 9, .inl (fun _ => 0)) ∧ c12 ∉ L ∧ c12 ∈ u.1 ∧ u.2 c12 = .inl (g.2.1 0, 81, .inl (fun _ => 0)) ∧ c11 ∉ L ∧ c11 ∈ u.1 ∧ u.2 c11 = .inl (g.2.1 0, 9, .inl (fun _ => 0)) ∧ c10 ∉ L ∧ c10 ∈ u.1 ∧ u.2 c10 = .inl (g.2.1 0, 9, .inl (fun _ => 0)) ∧ c9 ∉ L ∧ c9 ∈ u.1 ∧ u.2 c9 = .inl (g.2.1 0, 9, .inl (fun _ => 0)) ∧ c8 ∉ L ∧ c8 ∈ u.1 ∧ u.2 c8 = .inl (g.2.1 0, 9, .inl (fun _ => 0)) ∧ c7 ∉ L ∧ c7 ∈ u.1 ∧ u.2 c7 = .inl (g.2.1 0, 9, .inl (fun _ => 0)) ∧ c6 ∉ L ∧ c6 ∈ u.1 ∧ u.2 c6 = .inl (g.2.1 0, 9, .inl (fun _ => 0)) ∧ c5 ∉ L ∧ c5 ∈ u.1 ∧ u.2 c5 = .inl (g.2.1 0, 9, .inl (fun _ => 0)) ∧ c4 ∉ L ∧ c4 ∈ u.1 ∧ u.2 c4 = .inl (g.2.1 0, 150, .inl (fun _ => 0)) ∧ c3 ∉ L ∧ c3 ∈ u.1 ∧ u.2 c3 = .inl (g.2.1 0, 100, .inl (fun _ => 0)) ∧ c2 ∉ L ∧ c2 ∈ u.1 ∧ u.2 c2 = .inl (g.2.1 0, 100, .inl (fun _ => 0)) ∧ c1 ∉ L ∧ c1 ∈ u.1 ∧ u.2 c1 = .inl (g.2.1 0, 6, .inl (fun _ => 0)) ∧ c0 ∉ L ∧ c0 ∈ u.1 ∧ u.2 c0 = .inl (g.2.1 2, 500, .inl (fun _ => 0)) ∧ u.2 mo = .inr (10, [.int 0, .ref c0, .int 0, .int 0, .int 0, .int 0, .int 0, .ref c1, .int 0, .int 0, .ref c2, .ref c3, .int 0, .int 0, .int 0, .int 0, .int 0, .int 0, .int 0, .int 0, .int 0, .long 0, .long 0, .int 0, .ref c4, .int 0, .ref c5, .ref c6, .ref c7, .ref c8, .ref c9, .ref c10, .ref c11, .ref c12, .ref c13, .ref c14, .int 0, .int 0, .int 0, .int 0, .int 0, .ref c15, .ref c16, .ref c17, .ref c18, .long 0, .long 0, .int 0, .int 0, .ref c19, .int 0, .int 0, .ref c20, .int 0, .ref c21, .int 0]) ∧ [c21, c20, c19, c18, c17, c16, c15, c14, c13, c12, c11, c10, c9, c8, c7, c6, c5, c4, c3, c2, c1, c0].Nodup ∧ (∀ b, b ∈ L → b ≠ mo → u.2 b = f b) ∧ (∀ b, b ∈ L → b ∈ u.1)) := by
  refine MtV.of (by decide +kernel) (Nat.le_of_ble_eq_true rfl) ?_
  intro p e s m below meth c A hEn hP hD hS ls hl
  obtain ⟨hx, hb, hr, hml, hown, hlocks, hts, hG, hA, hE, hnm⟩ := hEn
  have hown : s.vm.findClass "RulerWordModel" = some m.cls := hown
  have hl : lv_has ls 1 [(0, .ref mo)] := hl
  have hfr0 : ∀ b, b ∈ L → b ≠ mo → f b = f b := fun b hb z0 => rfl
  have hsb0 : ∀ b, b ∈ L → b ∈ L := fun b hb => hb
  refine lv_aload_n hx hb dX11_init_0 rfl (lv_at hl 0 rfl) ?_
  refine W.objInit hx hb hown (hts _ (mT wg_1334)) (hts _ (mT wg_187)) (hts _ (mT wg_objInit)) rfl (by rw [hml]; exact hl.1) rfl dX11_init_1 (Nat.le_of_ble_eq_true rfl) (Nat.le_of_ble_eq_true rfl) ?_
  refine W.eq (g2 := F0 m 4 ls []) rfl ?_
  refine lv_aload_n hx hb dX11_init_4 rfl (lv_at hl 0 rfl) ?_
  refine lv_sipush (v := 500) hx hb dX11_init_5 (by decide) ?_
  refine pl_newa (atype := .byte) (ty := .byte) (N' := 500) (a0 := (500, .inl (fun _ => 0))) hx hb (hts _ (mT wg_705)) rfl hG.1 hP hD hS hA 2 rfl (fun _ h => h) (fun _ => rfl) (by decide) (by decide) (Nat.le_of_ble_eq_true rfl) (Nat.le_of_ble_eq_true rfl) (Nat.le_of_ble_eq_true rfl) dX11_init_8 (fun q1 H L2 f3 hq4 hs5 hm6 hf7 ho8 hP hD hS => ?_)
  have hN9 : [q1].Nodup := List.nodup_cons.mpr ⟨fun h => hq4 ((fun _ h => absurd h List.not_mem_nil) _ h), List.nodup_nil⟩
  have hNs10 : ∀ b, b ∈ [q1] → b ∈ L2 := List.forall_mem_cons.mpr ⟨hm6, fun b hb => hs5 b ((fun _ h => absurd h List.not_mem_nil) b hb)⟩
  have hfr11 : ∀ b, b ∈ L → b ≠ mo → f3 b = f b := fun b hb z0 => (ho8 b (hsb0 b hb)).trans (hfr0 b hb z0)
  have hnq13 : q1 ∉ L := fun h => hq4 (hsb0 _ h)
  have hsb12 : ∀ b, b ∈ L → b ∈ _ := fun b hb => hs5 b (hsb0 b hb)
  have hf14 := (ho8 mo hm_mo).trans hf_mo
  have hn16 : mo ≠ q1 := fun e => hq4 (e ▸ hm_mo)
  have hm15 := hs5 _ hm_mo
  refine pl_putF (ty := (.array .byte)) (v := .ref q1) (fs' := [.int 0, .ref q1, .int 0, .int 0, .int 0, .int 0, .int 0, .null, .int 0, .int 0, .null, .null, .int 0, .int 0, .int 0, .int 0, .int 0, .int 0, .int 0, .int 0, .int 0, .long 0, .long 0, .int 0, .null, .int 0, .null, .null, .null, .null, .null, .null, .null, .null, .null, .null, .int 0, .int 0, .int 0, .int 0, .int 0, .null, .null, .null, .null, .long 0, .long 0, .int 0, .int 0, .null, .int 0, .int 0, .null, .int 0, .null, .int 0]) hx hb hts (fun w h => mT (inX11 w h)) tyX11 tyX11_ok nmX11 hown hG.1 hP hD hS hm15 hf14 rfl 1 (by decide) (hts _ (mT wg_1337)) (fun _ h => h) rfl hnm rfl (by decide +kernel) (rfl) (rfl) (Nat.le_of_ble_eq_true rfl) rfl dX11_init_10 (fun H locs f17 hf19 ho18 hP hD hS => ?_)
  have hfr20 : ∀ b, b ∈ L → b ≠ mo → f17 b = f b := fun b hb z0 => (ho18 b z0).trans (hfr11 b hb z0)
  have hf21 := (ho18 q1 hn16.symm).trans hf7
  refine lv_aload_n hx hb dX11_init_13 rfl (lv_at hl 0 rfl) ?_
  refine lv_bipush (v := 6) hx hb dX11_init_14 (by decide) ?_
  refine pl_newa (atype := .int) (ty := .int) (N' := 6) (a0 := (6, .inl (fun _ => 0))) hx hb (hts _ (mT wg_217)) rfl hG.1 hP hD hS hA 0 rfl (fun _ h => h) (fun _ => rfl) (by decide) (by decide) (Nat.le_of_ble_eq_true rfl) (Nat.le_of_ble_eq_true rfl) (Nat.le_of_ble_eq_true rfl) dX11_init_16 (fun q22 H L23 f24 hq25 hs26 hm27 hf28 ho29 hP hD hS => ?_)
  have hN30 : [q22, q1].Nodup := List.nodup_cons.mpr ⟨fun h => hq25 (hNs10 _ h), hN9⟩
  have hNs31 : ∀ b, b ∈ [q22, q1] → b ∈ L23 := List.forall_mem_cons.mpr ⟨hm27, fun b hb => hs26 b (hNs10 b hb)⟩
  have hfr32 : ∀ b, b ∈ L → b ≠ mo → f24 b = f b := fun b hb z0 => (ho29 b (hsb12 b hb)).trans (hfr20 b hb z0)
  have hnq34 : q22 ∉ L := fun h => hq25 (hsb12 _ h)
  have hsb33 : ∀ b, b ∈ L → b ∈ _ := fun b hb => hs26 b (hsb12 b hb)
  have hf35 := (ho29 mo hm15).trans hf19
  have hn37 : mo ≠ q22 := fun e => hq25 (e ▸ hm15)
  have hm36 := hs26 _ hm15
  have hf38 := (ho29 q1 hm6).trans hf21
  have hn40 : q1 ≠ q22 := fun e => hq25 (e ▸ hm6)
  have hm39 := hs26 _ hm6
  refine pl_putF (ty := (.array .int)) (v := .ref q22) (fs' := [.int 0, .ref q1, .int 0, .int 0, .int 0, .int 0, .int 0, .ref q22, .int 0, .int 0, .null, .null, .int 0, .int 0, .int 0, .int 0, .int 0, .int 0, .int 0, .int 0, .int 0, .long 0, .long 0, .int 0, .null, .int 0, .null, .null, .null, .null, .null, .null, .null, .null, .null, .null, .int 0, .int 0, .int 0, .int 0, .int 0, .null, .null, .null, .null, .long 0, .long 0, .int 0, .int 0, .null, .int 0, .int 0, .null, .int 0, .null, .int 0]) hx hb hts (fun w h => mT (inX11 w h)) tyX11 tyX11_ok nmX11 hown hG.1 hP hD hS hm36 hf35 rfl 7 (by decide) (hts _ (mT wg_1343)) (fun _ h => h) rfl hnm rfl (by decide +kernel) (rfl) (rfl) (Nat.le_of_ble_eq_true rfl) rfl dX11_init_18 (fun H locs f41 hf43 ho42 hP hD hS => ?_)
  have hfr44 : ∀ b, b ∈ L → b ≠ mo → f41 b = f b := fun b hb z0 => (ho42 b z0).trans (hfr32 b hb z0)
  have hf45 := (ho42 q1 hn16.symm).trans hf38
  have hf46 := (ho42 q22 hn37.symm).trans hf28
  refine lv_aload_n hx hb dX11_init_21 rfl (lv_at hl 0 rfl) ?_
  refine lv_bipush (v := 100) hx hb dX11_init_22 (by decide) ?_
  refine pl_newa (atype := .int) (ty := .int) (N' := 100) (a0 := (100, .inl (fun _ => 0))) hx hb (hts _ (mT wg_217)) rfl hG.1 hP hD hS hA 0 rfl (fun _ h => h) (fun _ => rfl) (by decide) (by decide) (Nat.le_of_ble_eq_true rfl) (Nat.le_of_ble_eq_true rfl) (Nat.le_of_ble_eq_true rfl) dX11_init_24 (fun q47 H L48 f49 hq50 hs51 hm52 hf53 ho54 hP hD hS => ?_)
  have hN55 : [q47, q22, q1].Nodup := List.nodup_cons.mpr ⟨fun h => hq50 (hNs31 _ h), hN30⟩
  have hNs56 : ∀ b, b ∈ [q47, q22, q1] → b ∈ L48 := List.forall_mem_cons.mpr ⟨hm52, fun b hb => hs51 b (hNs31 b hb)⟩
  have hfr57 : ∀ b, b ∈ L → b ≠ mo → f49 b = f b := fun b hb z0 => (ho54 b (hsb33 b hb)).trans (hfr44 b hb z0)
  have hnq59 : q47 ∉ L := fun h => hq50 (hsb33 _ h)
  have hsb58 : ∀ b, b ∈ L → b ∈ _ := fun b hb => hs51 b (hsb33 b hb)
  have hf60 := (ho54 mo hm36).trans hf43
  have hn62 : mo ≠ q47 := fun e => hq50 (e ▸ hm36)
  have hm61 := hs51 _ hm36
  have hf63 := (ho54 q1 hm39).trans hf45
  have hn65 : q1 ≠ q47 := fun e => hq50 (e ▸ hm39)
  have hm64 := hs51 _ hm39
  have hf66 := (ho54 q22 hm27).trans hf46
  have hn68 : q22 ≠ q47 := fun e => hq50 (e ▸ hm27)
  have hm67 := hs51 _ hm27
  refine pl_putF (ty := (.array .int)) (v := .ref q47) (fs' := [.int 0, .ref q1, .int 0, .int 0, .int 0, .int 0, .int 0, .ref q22, .int 0, .int 0, .ref q47, .null, .int 0, .int 0, .int 0, .int 0, .int 0, .int 0, .int 0, .int 0, .int 0, .long 0, .long 0, .int 0, .null, .int 0, .null, .null, .null, .null, .null, .null, .null, .null, .null, .null, .int 0, .int 0, .int 0, .int 0, .int 0, .null, .null, .null, .null, .long 0, .long 0, .int 0, .int 0, .null, .int 0, .int 0, .null, .int 0, .null, .int 0]) hx hb hts (fun w h => mT (inX11 w h)) tyX11 tyX11_ok nmX11 hown hG.1 hP hD hS hm61 hf60 rfl 10 (by decide) (hts _ (mT wg_1346)) (fun _ h => h) rfl hnm rfl (by decide +kernel) (rfl) (rfl) (Nat.le_of_ble_eq_true rfl) rfl dX11_init_26 (fun H locs f69 hf71 ho70 hP hD hS => ?_)
  have hfr72 : ∀ b, b ∈ L → b ≠ mo → f69 b = f b := fun b hb z0 => (ho70 b z0).trans (hfr57 b hb z0)
  have hf73 := (ho70 q1 hn16.symm).trans hf63
  have hf74 := (ho70 q22 hn37.symm).trans hf66
  have hf75 := (ho70 q47 hn62.symm).trans hf53
  refine lv_aload_n hx hb dX11_init_29 rfl (lv_at hl 0 rfl) ?_
  refine lv_bipush (v := 100) hx hb dX11_init_30 (by decide) ?_
  refine pl_newa (atype := .int) (ty := .int) (N' := 100) (a0 := (100, .inl (fun _ => 0))) hx hb (hts _ (mT wg_217)) rfl hG.1 hP hD hS hA 0 rfl (fun _ h => h) (fun _ => rfl) (by decide) (by decide) (Nat.le_of_ble_eq_true rfl) (Nat.le_of_ble_eq_true rfl) (Nat.le_of_ble_eq_true rfl) dX11_init_32 (fun q76 H L77 f78 hq79 hs80 hm81 hf82 ho83 hP hD hS => ?_)
  have hN84 : [q76, q47, q22, q1].Nodup := List.nodup_cons.mpr ⟨fun h => hq79 (hNs56 _ h), hN55⟩
  have hNs85 : ∀ b, b ∈ [q76, q47, q22, q1] → b ∈ L77 := List.forall_mem_cons.mpr ⟨hm81, fun b hb => hs80 b (hNs56 b hb)⟩
  have hfr86 : ∀ b, b ∈ L → b ≠ mo → f78 b = f b := fun b hb z0 => (ho83 b (hsb58 b hb)).trans (hfr72 b hb z0)
  have hnq88 : q76 ∉ L := fun h => hq79 (hsb58 _ h)
  have hsb87 : ∀ b, b ∈ L → b ∈ _ := fun b hb => hs80 b (hsb58 b hb)
  have hf89 := (ho83 mo hm61).trans hf71
  have hn91 : mo ≠ q76 := fun e => hq79 (e ▸ hm61)
  have hm90 := hs80 _ hm61
  have hf92 := (ho83 q1 hm64).trans hf73
  have hn94 : q1 ≠ q76 := fun e => hq79 (e ▸ hm64)
  have hm93 := hs80 _ hm64
  have hf95 := (ho83 q22 hm67).trans hf74
  have hn97 : q22 ≠ q76 := fun e => hq79 (e ▸ hm67)
  have hm96 := hs80 _ hm67
  have hf98 := (ho83 q47 hm52).trans hf75
  have hn100 : q47 ≠ q76 := fun e => hq79 (e ▸ hm52)
  have hm99 := hs80 _ hm52
  refine pl_putF (ty := (.array .int)) (v := .ref q76) (fs' := [.int 0, .ref q1, .int 0, .int 0, .int 0, .int 0, .int 0, .ref q22, .int 0, .int 0, .ref q47, .ref q76, .int 0, .int 0, .int 0, .int 0, .int 0, .int 0, .int 0, .int 0, .int 0, .long 0, .long 0, .int 0, .null, .int 0, .null, .null, .null, .null, .null, .null, .null, .null, .null, .null, .int 0, .int 0, .int 0, .int 0, .int 0, .null, .null, .null, .null, .long 0, .long 0, .int 0, .int 0, .null, .int 0, .int 0, .null, .int 0, .null, .int 0]) hx hb hts (fun w h => mT (inX11 w h)) tyX11 tyX11_ok nmX11 hown hG.1 hP hD hS hm90 hf89 rfl 11 (by decide) (hts _ (mT wg_1347)) (fun _ h => h) rfl hnm rfl (by decide +kernel) (rfl) (rfl) (Nat.le_of_ble_eq_true rfl) rfl dX11_init_34 (fun H locs f101 hf103 ho102 hP hD hS => ?_)
  have hfr104 : ∀ b, b ∈ L → b ≠ mo → f101 b = f b := fun b hb z0 => (ho102 b z0).trans (hfr86 b hb z0)
  have hf105 := (ho102 q1 hn16.symm).trans hf92
  have hf106 := (ho102 q22 hn37.symm).trans hf95
  have hf107 := (ho102 q47 hn62.symm).trans hf98
  have hf108 := (ho102 q76 hn91.symm).trans hf82
  refine lv_aload_n hx hb dX11_init_37 rfl (lv_at hl 0 rfl) ?_
  refine lv_sipush (v := 150) hx hb dX11_init_38 (by decide) ?_
  refine pl_newa (atype := .int) (ty := .int) (N' := 150) (a0 := (150, .inl (fun _ => 0))) hx hb (hts _ (mT wg_217)) rfl hG.1 hP hD hS hA 0 rfl (fun _ h => h) (fun _ => rfl) (by decide) (by decide) (Nat.le_of_ble_eq_true rfl) (Nat.le_of_ble_eq_true rfl) (Nat.le_of_ble_eq_true rfl) dX11_init_41 (fun q109 H L110 f111 hq112 hs113 hm114 hf115 ho116 hP hD hS => ?_)
  have hN117 : [q109, q76, q47, q22, q1].Nodup := List.nodup_cons.mpr ⟨fun h => hq112 (hNs85 _ h), hN84⟩
  have hNs118 : ∀ b, b ∈ [q109, q76, q47, q22, q1] → b ∈ L110 := List.forall_mem_cons.mpr ⟨hm114, fun b hb => hs113 b (hNs85 b hb)⟩
  have hfr119 : ∀ b, b ∈ L → b ≠ mo → f111 b = f b := fun b hb z0 => (ho116 b (hsb87 b hb)).trans (hfr104 b hb z0)
  have hnq121 : q109 ∉ L := fun h => hq112 (hsb87 _ h)
  have hsb120 : ∀ b, b ∈ L → b ∈ _ := fun b hb => hs113 b (hsb87 b hb)
  have hf122 := (ho116 mo hm90).trans hf103
  have hn124 : mo ≠ q109 := fun e => hq112 (e ▸ hm90)
  have hm123 := hs113 _ hm90
  have hf125 := (ho116 q1 hm93).trans hf105
  have hn127 : q1 ≠ q109 := fun e => hq112 (e ▸ hm93)
  have hm126 := hs113 _ hm93
  have hf128 := (ho116 q22 hm96).trans hf106
  have hn130 : q22 ≠ q109 := fun e => hq112 (e ▸ hm96)
  have hm129 := hs113 _ hm96
  have hf131 := (ho116 q47 hm99).trans hf107
  have hn133 : q47 ≠ q109 := fun e => hq112 (e ▸ hm99)
  have hm132 := hs113 _ hm99
  have hf134 := (ho116 q76 hm81).trans hf108
  have hn136 : q76 ≠ q109 := fun e => hq112 (e ▸ hm81)
  have hm135 := hs113 _ hm81
  refine pl_putF (ty := (.array .int)) (v := .ref q109) (fs' := [.int 0, .ref q1, .int 0, .int 0, .int 0, .int 0, .int 0, .ref q22, .int 0, .int 0, .ref q47, .ref q76, .int 0, .int 0, .int 0, .int 0, .int 0, .int 0, .int 0, .int 0, .int 0, .long 0, .long 0, .int 0, .ref q109, .int 0, .null, .null, .null, .null, .null, .null, .null, .null, .null, .null, .int 0, .int 0, .int 0, .int 0, .int 0, .null, .null, .null, .null, .long 0, .long 0, .int 0, .int 0, .null, .int 0, .int 0, .null, .int 0, .null, .int 0]) hx hb hts (fun w h => mT (inX11 w h)) tyX11 tyX11_ok nmX11 hown hG.1 hP hD hS hm123 hf122 rfl 24 (by decide) (hts _ (mT wg_1360)) (fun _ h => h) rfl hnm rfl (by decide +kernel) (rfl) (rfl) (Nat.le_of_ble_eq_true rfl) rfl dX11_init_43 (fun H locs f137 hf139 ho138 hP hD hS => ?_)
  have hfr140 : ∀ b, b ∈ L → b ≠ mo → f137 b = f b := fun b hb z0 => (ho138 b z0).trans (hfr119 b hb z0)
  have hf141 := (ho138 q1 hn16.symm).trans hf125
  have hf142 := (ho138 q22 hn37.symm).trans hf128
  have hf143 := (ho138 q47 hn62.symm).trans hf131
  have hf144 := (ho138 q76 hn91.symm).trans hf134
  have hf145 := (ho138 q109 hn124.symm).trans hf115
  refine lv_aload_n hx hb dX11_init_46 rfl (lv_at hl 0 rfl) ?_
  refine lv_bipush (v := 9) hx hb dX11_init_47 (by decide) ?_
  refine pl_newa (atype := .int) (ty := .int) (N' := 9) (a0 := (9, .inl (fun _ => 0))) hx hb (hts _ (mT wg_217)) rfl hG.1 hP hD hS hA 0 rfl (fun _ h => h) (fun _ => rfl) (by decide) (by decide) (Nat.le_of_ble_eq_true rfl) (Nat.le_of_ble_eq_true rfl) (Nat.le_of_ble_eq_true rfl) dX11_init_49 (fun q146 H L147 f148 hq149 hs150 hm151 hf152 ho153 hP hD hS => ?_)
  have hN154 : [q146, q109, q76, q47, q22, q1].Nodup := List.nodup_cons.mpr ⟨fun h => hq149 (hNs118 _ h), hN117⟩
  have hNs155 : ∀ b, b ∈ [q146, q109, q76, q47, q22, q1] → b ∈ L147 := List.forall_mem_cons.mpr ⟨hm151, fun b hb => hs150 b (hNs118 b hb)⟩
  have hfr156 : ∀ b, b ∈ L → b ≠ mo → f148 b = f b := fun b hb z0 => (ho153 b (hsb120 b hb)).trans (hfr140 b hb z0)
  have hnq158 : q146 ∉ L := fun h => hq149 (hsb120 _ h)
  have hsb157 : ∀ b, b ∈ L → b ∈ _ := fun b hb => hs150 b (hsb120 b hb)
  have hf159 := (ho153 mo hm123).trans hf139
  have hn161 : mo ≠ q146 := fun e => hq149 (e ▸ hm123)
  have hm160 := hs150 _ hm123
  have hf162 := (ho153 q1 hm126).trans hf141
  have hn164 : q1 ≠ q146 := fun e => hq149 (e ▸ hm126)
  have hm163 := hs150 _ hm126
  have hf165 := (ho153 q22 hm129).trans hf142
  have hn167 : q22 ≠ q146 := fun e => hq149 (e ▸ hm129)
  have hm166 := hs150 _ hm129
  have hf168 := (ho153 q47 hm132).trans hf143
  have hn170 : q47 ≠ q146 := fun e => hq149 (e ▸ hm132)
  have hm169 := hs150 _ hm132
  have hf171 := (ho153 q76 hm135).trans hf144
  have hn173 : q76 ≠ q146 := fun e => hq149 (e ▸ hm135)
  have hm172 := hs150 _ hm135
  have hf174 := (ho153 q109 hm114).trans hf145
  have hn176 : q109 ≠ q146 := fun e => hq149 (e ▸ hm114)
  have hm175 := hs150 _ hm114
  refine pl_putF (ty := (.array .int)) (v := .ref q146) (fs' := [.int 0, .ref q1, .int 0, .int 0, .int 0, .int 0, .int 0, .ref q22, .int 0, .int 0, .ref q47, .ref q76, .int 0, .int 0, .int 0, .int 0, .int 0, .int 0, .int 0, .int 0, .int 0, .long 0, .long 0, .int 0, .ref q109, .int 0, .ref q146, .null, .null, .null, .null, .null, .null, .null, .null, .null, .int 0, .int 0, .int 0, .int 0, .int 0, .null, .null, .null, .null, .long 0, .long 0, .int 0, .int 0, .null, .int 0, .int 0, .null, .int 0, .null, .int 0]) hx hb hts (fun w h => mT (inX11 w h)) tyX11 tyX11_ok nmX11 hown hG.1 hP hD hS hm160 hf159 rfl 26 (by decide) (hts _ (mT wg_1362)) (fun _ h => h) rfl hnm rfl (by decide +kernel) (rfl) (rfl) (Nat.le_of_ble_eq_true rfl) rfl dX11_init_51 (fun H locs f177 hf179 ho178 hP hD hS => ?_)
  have hfr180 : ∀ b, b ∈ L → b ≠ mo → f177 b = f b := fun b hb z0 => (ho178 b z0).trans (hfr156 b hb z0)
  have hf181 := (ho178 q1 hn16.symm).trans hf162
  have hf182 := (ho178 q22 hn37.symm).trans hf165
  have hf183 := (ho178 q47 hn62.symm).trans hf168
  have hf184 := (ho178 q76 hn91.symm).trans hf171
  have hf185 := (ho178 q109 hn124.symm).trans hf174
  have hf186 := (ho178 q146 hn161.symm).trans hf152
  refine lv_aload_n hx hb dX11_init_54 rfl (lv_at hl 0 rfl) ?_
  refine lv_bipush (v := 9) hx hb dX11_init_55 (by decide) ?_
  refine pl_newa (atype := .int) (ty := .int) (N' := 9) (a0 := (9, .inl (fun _ => 0))) hx hb (hts _ (mT wg_217)) rfl hG.1 hP hD hS hA 0 rfl (fun _ h => h) (fun _ => rfl) (by decide) (by decide) (Nat.le_of_ble_eq_true rfl) (Nat.le_of_ble_eq_true rfl) (Nat.le_of_ble_eq_true rfl) dX11_init_57 (fun q187 H L188 f189 hq190 hs191 hm192 hf193 ho194 hP hD hS => ?_)
  have hN195 : [q187, q146, q109, q76, q47, q22, q1].Nodup := List.nodup_cons.mpr ⟨fun h => hq190 (hNs155 _ h), hN154⟩
  have hNs196 : ∀ b, b ∈ [q187, q146, q109, q76, q47, q22, q1] → b ∈ L188 := List.forall_mem_cons.mpr ⟨hm192, fun b hb => hs191 b (hNs155 b hb)⟩
  have hfr197 : ∀ b, b ∈ L → b ≠ mo → f189 b = f b := fun b hb z0 => (ho194 b (hsb157 b hb)).trans (hfr180 b hb z0)
  have hnq199 : q187 ∉ L := fun h => hq190 (hsb157 _ h)
  have hsb198 : ∀ b, b ∈ L → b ∈ _ := fun b hb => hs191 b (hsb157 b hb)
  have hf200 := (ho194 mo hm160).trans hf179
  have hn202 : mo ≠ q187 := fun e => hq190 (e ▸ hm160)
  have hm201 := hs191 _ hm160
  have hf203 := (ho194 q1 hm163).trans hf181
  have hn205 : q1 ≠ q187 := fun e => hq190 (e ▸ hm163)
  have hm204 := hs191 _ hm163
  have hf206 := (ho194 q22 hm166).trans hf182
  have hn208 : q22 ≠ q187 := fun e => hq190 (e ▸ hm166)
  have hm207 := hs191 _ hm166
  have hf209 := (ho194 q47 hm169).trans hf183
  have hn211 : q47 ≠ q187 := fun e => hq190 (e ▸ hm169)
  have hm210 := hs191 _ hm169
  have hf212 := (ho194 q76 hm172).trans hf184
  have hn214 : q76 ≠ q187 := fun e => hq190 (e ▸ hm172)
  have hm213 := hs191 _ hm172
  have hf215 := (ho194 q109 hm175).trans hf185
  have hn217 : q109 ≠ q187 := fun e => hq190 (e ▸ hm175)
  have hm216 := hs191 _ hm175
  have hf218 := (ho194 q146 hm151).trans hf186
  have hn220 : q146 ≠ q187 := fun e => hq190 (e ▸ hm151)
  have hm219 := hs191 _ hm151
  refine pl_putF (ty := (.array .int)) (v := .ref q187) (fs' := [.int 0, .ref q1, .int 0, .int 0, .int 0, .int 0, .int 0, .ref q22, .int 0, .int 0, .ref q47, .ref q76, .int 0, .int 0, .int 0, .int 0, .int 0, .int 0, .int 0, .int 0, .int 0, .long 0, .long 0, .int 0, .ref q109, .int 0, .ref q146, .ref q187, .null, .null, .null, .null, .null, .null, .null, .null, .int 0, .int 0, .int 0, .int 0, .int 0, .null, .null, .null, .null, .long 0, .long 0, .int 0, .int 0, .null, .int 0, .int 0, .null, .int 0, .null, .int 0]) hx hb hts (fun w h => mT (inX11 w h)) tyX11 tyX11_ok nmX11 hown hG.1 hP hD hS hm201 hf200 rfl 27 (by decide) (hts _ (mT wg_1363)) (fun _ h => h) rfl hnm rfl (by decide +kernel) (rfl) (rfl) (Nat.le_of_ble_eq_true rfl) rfl dX11_init_59 (fun H locs f221 hf223 ho222 hP hD hS => ?_)
  have hfr224 : ∀ b, b ∈ L → b ≠ mo → f221 b = f b := fun b hb z0 => (ho222 b z0).trans (hfr197 b hb z0)
  have hf225 := (ho222 q1 hn16.symm).trans hf203
  have hf226 := (ho222 q22 hn37.symm).trans hf206
  have hf227 := (ho222 q47 hn62.symm).trans hf209
  have hf228 := (ho222 q76 hn91.symm).trans hf212
  have hf229 := (ho222 q109 hn124.symm).trans hf215
  have hf230 := (ho222 q146 hn161.symm).trans hf218
  have hf231 := (ho222 q187 hn202.symm).trans hf193
  refine lv_aload_n hx hb dX11_init_62 rfl (lv_at hl 0 rfl) ?_
  refine lv_bipush (v := 9) hx hb dX11_init_63 (by decide) ?_
  refine pl_newa (atype := .int) (ty := .int) (N' := 9) (a0 := (9, .inl (fun _ => 0))) hx hb (hts _ (mT wg_217)) rfl hG.1 hP hD hS hA 0 rfl (fun _ h => h) (fun _ => rfl) (by decide) (by decide) (Nat.le_of_ble_eq_true rfl) (Nat.le_of_ble_eq_true rfl) (Nat.le_of_ble_eq_true rfl) dX11_init_65 (fun q232 H L233 f234 hq235 hs236 hm237 hf238 ho239 hP hD hS => ?_)
  have hN240 : [q232, q187, q146, q109, q76, q47, q22, q1].Nodup := List.nodup_cons.mpr ⟨fun h => hq235 (hNs196 _ h), hN195⟩
  have hNs241 : ∀ b, b ∈ [q232, q187, q146, q109, q76, q47, q22, q1] → b ∈ L233 := List.forall_mem_cons.mpr ⟨hm237, fun b hb => hs236 b (hNs196 b hb)⟩
  have hfr242 : ∀ b, b ∈ L → b ≠ mo → f234 b = f b := fun b hb z0 => (ho239 b (hsb198 b hb)).trans (hfr224 b hb z0)
  have hnq244 : q232 ∉ L := fun h => hq235 (hsb198 _ h)
  have hsb243 : ∀ b, b ∈ L → b ∈ _ := fun b hb => hs236 b (hsb198 b hb)
  have hf245 := (ho239 mo hm201).trans hf223
  have hn247 : mo ≠ q232 := fun e => hq235 (e ▸ hm201)
  have hm246 := hs236 _ hm201
  have hf248 := (ho239 q1 hm204).trans hf225
  have hn250 : q1 ≠ q232 := fun e => hq235 (e ▸ hm204)
  have hm249 := hs236 _ hm204
  have hf251 := (ho239 q22 hm207).trans hf226
  have hn253 : q22 ≠ q232 := fun e => hq235 (e ▸ hm207)
  have hm252 := hs236 _ hm207
  have hf254 := (ho239 q47 hm210).trans hf227
  have hn256 : q47 ≠ q232 := fun e => hq235 (e ▸ hm210)
  have hm255 := hs236 _ hm210
  have hf257 := (ho239 q76 hm213).trans hf228
  have hn259 : q76 ≠ q232 := fun e => hq235 (e ▸ hm213)
  have hm258 := hs236 _ hm213
  have hf260 := (ho239 q109 hm216).trans hf229
  have hn262 : q109 ≠ q232 := fun e => hq235 (e ▸ hm216)
  have hm261 := hs236 _ hm216
  have hf263 := (ho239 q146 hm219).trans hf230
  have hn265 : q146 ≠ q232 := fun e => hq235 (e ▸ hm219)
  have hm264 := hs236 _ hm219
  have hf266 := (ho239 q187 hm192).trans hf231
  have hn268 : q187 ≠ q232 := fun e => hq235 (e ▸ hm192)
  have hm267 := hs236 _ hm192
  refine pl_putF (ty := (.array .int)) (v := .ref q232) (fs' := [.int 0, .ref q1, .int 0, .int 0, .int 0, .int 0, .int 0, .ref q22, .int 0, .int 0, .ref q47, .ref q76, .int 0, .int 0, .int 0, .int 0, .int 0, .int 0, .int 0, .int 0, .int 0, .long 0, .long 0, .int 0, .ref q109, .int 0, .ref q146, .ref q187, .ref q232, .null, .null, .null, .null, .null, .null, .null, .int 0, .int 0, .int 0, .int 0, .int 0, .null, .null, .null, .null, .long 0, .long 0, .int 0, .int 0, .null, .int 0, .int 0, .null, .int 0, .null, .int 0]) hx hb hts (fun w h => mT (inX11 w h)) tyX11 tyX11_ok nmX11 hown hG.1 hP hD hS hm246 hf245 rfl 28 (by decide) (hts _ (mT wg_1364)) (fun _ h => h) rfl hnm rfl (by decide +kernel) (rfl) (rfl) (Nat.le_of_ble_eq_true rfl) rfl dX11_init_67 (fun H locs f269 hf271 ho270 hP hD hS => ?_)
  have hfr272 : ∀ b, b ∈ L → b ≠ mo → f269 b = f b := fun b hb z0 => (ho270 b z0).trans (hfr242 b hb z0)
  have hf273 := (ho270 q1 hn16.symm).trans hf248
  have hf274 := (ho270 q22 hn37.symm).trans hf251
  have hf275 := (ho270 q47 hn62.symm).trans hf254
  have hf276 := (ho270 q76 hn91.symm).trans hf257
  have hf277 := (ho270 q109 hn124.symm).trans hf260
  have hf278 := (ho270 q146 hn161.symm).trans hf263
  have hf279 := (ho270 q187 hn202.symm).trans hf266
  have hf280 := (ho270 q232 hn247.symm).trans hf238
  refine lv_aload_n hx hb dX11_init_70 rfl (lv_at hl 0 rfl) ?_
  refine lv_bipush (v := 9) hx hb dX11_init_71 (by decide) ?_
  refine pl_newa (atype := .int) (ty := .int) (N' := 9) (a0 := (9, .inl (fun _ => 0))) hx hb (hts _ (mT wg_217)) rfl hG.1 hP hD hS hA 0 rfl (fun _ h => h) (fun _ => rfl) (by decide) (by decide) (Nat.le_of_ble_eq_true rfl) (Nat.le_of_ble_eq_true rfl) (Nat.le_of_ble_eq_true rfl) dX11_init_73 (fun q281 H L282 f283 hq284 hs285 hm286 hf287 ho288 hP hD hS => ?_)
  have hN289 : [q281, q232, q187, q146, q109, q76, q47, q22, q1].Nodup := List.nodup_cons.mpr ⟨fun h => hq284 (hNs241 _ h), hN240⟩
  have hNs290 : ∀ b, b ∈ [q281, q232, q187, q146, q109, q76, q47, q22, q1] → b ∈ L282 := List.forall_mem_cons.mpr ⟨hm286, fun b hb => hs285 b (hNs241 b hb)⟩
  have hfr291 : ∀ b, b ∈ L → b ≠ mo → f283 b = f b := fun b hb z0 => (ho288 b (hsb243 b hb)).trans (hfr272 b hb z0)
  have hnq293 : q281 ∉ L := fun h => hq284 (hsb243 _ h)
  have hsb292 : ∀ b, b ∈ L → b ∈ _ := fun b hb => hs285 b (hsb243 b hb)
  have hf294 := (ho288 mo hm246).trans hf271
  have hn296 : mo ≠ q281 := fun e => hq284 (e ▸ hm246)
  have hm295 := hs285 _ hm246
  have hf297 := (ho288 q1 hm249).trans hf273
  have hn299 : q1 ≠ q281 := fun e => hq284 (e ▸ hm249)
  have hm298 := hs285 _ hm249
  have hf300 := (ho288 q22 hm252).trans hf274
  have hn302 : q22 ≠ q281 := fun e => hq284 (e ▸ hm252)
  have hm301 := hs285 _ hm252
  have hf303 := (ho288 q47 hm255).trans hf275
  have hn305 : q47 ≠ q281 := fun e => hq284 (e ▸ hm255)
  have hm304 := hs285 _ hm255
  have hf306 := (ho288 q76 hm258).trans hf276
  have hn308 : q76 ≠ q281 := fun e => hq284 (e ▸ hm258)
  have hm307 := hs285 _ hm258
  have hf309 := (ho288 q109 hm261).trans hf277
  have hn311 : q109 ≠ q281 := fun e => hq284 (e ▸ hm261)
  have hm310 := hs285 _ hm261
  have hf312 := (ho288 q146 hm264).trans hf278
  have hn314 : q146 ≠ q281 := fun e => hq284 (e ▸ hm264)
  have hm313 := hs285 _ hm264
  have hf315 := (ho288 q187 hm267).trans hf279
  have hn317 : q187 ≠ q281 := fun e => hq284 (e ▸ hm267)
  have hm316 := hs285 _ hm267
  have hf318 := (ho288 q232 hm237).trans hf280
  have hn320 : q232 ≠ q281 := fun e => hq284 (e ▸ hm237)
  have hm319 := hs285 _ hm237
  refine pl_putF (ty := (.array .int)) (v := .ref q281) (fs' := [.int 0, .ref q1, .int 0, .int 0, .int 0, .int 0, .int 0, .ref q22, .int 0, .int 0, .ref q47, .ref q76, .int 0, .int 0, .int 0, .int 0, .int 0, .int 0, .int 0, .int 0, .int 0, .long 0, .long 0, .int 0, .ref q109, .int 0, .ref q146, .ref q187, .ref q232, .ref q281, .null, .null, .null, .null, .null, .null, .int 0, .int 0, .int 0, .int 0, .int 0, .null, .null, .null, .null, .long 0, .long 0, .int 0, .int 0, .null, .int 0, .int 0, .null, .int 0, .null, .int 0]) hx hb hts (fun w h => mT (inX11 w h)) tyX11 tyX11_ok nmX11 hown hG.1 hP hD hS hm295 hf294 rfl 29 (by decide) (hts _ (mT wg_1365)) (fun _ h => h) rfl hnm rfl (by decide +kernel) (rfl) (rfl) (Nat.le_of_ble_eq_true rfl) rfl dX11_init_75 (fun H locs f321 hf323 ho322 hP hD hS => ?_)
  have hfr324 : ∀ b, b ∈ L → b ≠ mo → f321 b = f b := fun b hb z0 => (ho322 b z0).trans (hfr291 b hb z0)
  have hf325 := (ho322 q1 hn16.symm).trans hf297
  have hf326 := (ho322 q22 hn37.symm).trans hf300
  have hf327 := (ho322 q47 hn62.symm).trans hf303
  have hf328 := (ho322 q76 hn91.symm).trans hf306
  have hf329 := (ho322 q109 hn124.symm).trans hf309
  have hf330 := (ho322 q146 hn161.symm).trans hf312
  have hf331 := (ho322 q187 hn202.symm).trans hf315
  have hf332 := (ho322 q232 hn247.symm).trans hf318
  have hf333 := (ho322 q281 hn296.symm).trans hf287
  refine lv_aload_n hx hb dX11_init_78 rfl (lv_at hl 0 rfl) ?_
  refine lv_bipush (v := 9) hx hb dX11_init_79 (by decide) ?_
  refine pl_newa (atype := .int) (ty := .int) (N' := 9) (a0 := (9, .inl (fun _ => 0))) hx hb (hts _ (mT wg_217)) rfl hG.1 hP hD hS hA 0 rfl (fun _ h => h) (fun _ => rfl) (by decide) (by decide) (Nat.le_of_ble_eq_true rfl) (Nat.le_of_ble_eq_true rfl) (Nat.le_of_ble_eq_true rfl) dX11_init_81 (fun q334 H L335 f336 hq337 hs338 hm339 hf340 ho341 hP hD hS => ?_)
  have hN342 : [q334, q281, q232, q187, q146, q109, q76, q47, q22, q1].Nodup := List.nodup_cons.mpr ⟨fun h => hq337 (hNs290 _ h), hN289⟩
  have hNs343 : ∀ b, b ∈ [q334, q281, q232, q187, q146, q109, q76, q47, q22, q1] → b ∈ L335 := List.forall_mem_cons.mpr ⟨hm339, fun b hb => hs338 b (hNs290 b hb)⟩
  have hfr344 : ∀ b, b ∈ L → b ≠ mo → f336 b = f b := fun b hb z0 => (ho341 b (hsb292 b hb)).trans (hfr324 b hb z0)
  have hnq346 : q334 ∉ L := fun h => hq337 (hsb292 _ h)
  have hsb345 : ∀ b, b ∈ L → b ∈ _ := fun b hb => hs338 b (hsb292 b hb)
  have hf347 := (ho341 mo hm295).trans hf323
  have hn349 : mo ≠ q334 := fun e => hq337 (e ▸ hm295)
  have hm348 := hs338 _ hm295
  have hf350 := (ho341 q1 hm298).trans hf325
  have hn352 : q1 ≠ q334 := fun e => hq337 (e ▸ hm298)
  have hm351 := hs338 _ hm298
  have hf353 := (ho341 q22 hm301).trans hf326
  have hn355 : q22 ≠ q334 := fun e => hq337 (e ▸ hm301)
  have hm354 := hs338 _ hm301
  have hf356 := (ho341 q47 hm304).trans hf327
  have hn358 : q47 ≠ q334 := fun e => hq337 (e ▸ hm304)
  have hm357 := hs338 _ hm304
  have hf359 := (ho341 q76 hm307).trans hf328
  have hn361 : q76 ≠ q334 := fun e => hq337 (e ▸ hm307)
  have hm360 := hs338 _ hm307
  have hf362 := (ho341 q109 hm310).trans hf329
  have hn364 : q109 ≠ q334 := fun e => hq337 (e ▸ hm310)
  have hm363 := hs338 _ hm310
  have hf365 := (ho341 q146 hm313).trans hf330
  have hn367 : q146 ≠ q334 := fun e => hq337 (e ▸ hm313)
  have hm366 := hs338 _ hm313
  have hf368 := (ho341 q187 hm316).trans hf331
  have hn370 : q187 ≠ q334 := fun e => hq337 (e ▸ hm316)
  have hm369 := hs338 _ hm316
  have hf371 := (ho341 q232 hm319).trans hf332
  have hn373 : q232 ≠ q334 := fun e => hq337 (e ▸ hm319)
  have hm372 := hs338 _ hm319
  have hf374 := (ho341 q281 hm286).trans hf333
  have hn376 : q281 ≠ q334 := fun e => hq337 (e ▸ hm286)
  have hm375 := hs338 _ hm286
  refine pl_putF (ty := (.array .int)) (v := .ref q334) (fs' := [.int 0, .ref q1, .int 0, .int 0, .int 0, .int 0, .int 0, .ref q22, .int 0, .int 0, .ref q47, .ref q76, .int 0, .int 0, .int 0, .int 0, .int 0, .int 0, .int 0, .int 0, .int 0, .long 0, .long 0, .int 0, .ref q109, .int 0, .ref q146, .ref q187, .ref q232, .ref q281, .ref q334, .null, .null, .null, .null, .null, .int 0, .int 0, .int 0, .int 0, .int 0, .null, .null, .null, .null, .long 0, .long 0, .int 0, .int 0, .null, .int 0, .int 0, .null, .int 0, .null, .int 0]) hx hb hts (fun w h => mT (inX11 w h)) tyX11 tyX11_ok nmX11 hown hG.1 hP hD hS hm348 hf347 rfl 30 (by decide) (hts _ (mT wg_1366)) (fun _ h => h) rfl hnm rfl (by decide +kernel) (rfl) (rfl) (Nat.le_of_ble_eq_true rfl) rfl dX11_init_83 (fun H locs f377 hf379 ho378 hP hD hS => ?_)
  have hfr380 : ∀ b, b ∈ L → b ≠ mo → f377 b = f b := fun b hb z0 => (ho378 b z0).trans (hfr344 b hb z0)
  have hf381 := (ho378 q1 hn16.symm).trans hf350
  have hf382 := (ho378 q22 hn37.symm).trans hf353
  have hf383 := (ho378 q47 hn62.symm).trans hf356
  have hf384 := (ho378 q76 hn91.symm).trans hf359
  have hf385 := (ho378 q109 hn124.symm).trans hf362
  have hf386 := (ho378 q146 hn161.symm).trans hf365
  have hf387 := (ho378 q187 hn202.symm).trans hf368
  have hf388 := (ho378 q232 hn247.symm).trans hf371
  have hf389 := (ho378 q281 hn296.symm).trans hf374
  have hf390 := (ho378 q334 hn349.symm).trans hf340
  refine lv_aload_n hx hb dX11_init_86 rfl (lv_at hl 0 rfl) ?_
  refine lv_bipush (v := 9) hx hb dX11_init_87 (by decide) ?_
  refine pl_newa (atype := .int) (ty := .int) (N' := 9) (a0 := (9, .inl (fun _ => 0))) hx hb (hts _ (mT wg_217)) rfl hG.1 hP hD hS hA 0 rfl (fun _ h => h) (fun _ => rfl) (by decide) (by decide) (Nat.le_of_ble_eq_true rfl) (Nat.le_of_ble_eq_true rfl) (Nat.le_of_ble_eq_true rfl) dX11_init_89 (fun q391 H L392 f393 hq394 hs395 hm396 hf397 ho398 hP hD hS => ?_)
  have hN399 : [q391, q334, q281, q232, q187, q146, q109, q76, q47, q22, q1].Nodup := List.nodup_cons.mpr ⟨fun h => hq394 (hNs343 _ h), hN342⟩
  have hNs400 : ∀ b, b ∈ [q391, q334, q281, q232, q187, q146, q109, q76, q47, q22, q1] → b ∈ L392 := List.forall_mem_cons.mpr ⟨hm396, fun b hb => hs395 b (hNs343 b hb)⟩
  have hfr401 : ∀ b, b ∈ L → b ≠ mo → f393 b = f b := fun b hb z0 => (ho398 b (hsb345 b hb)).trans (hfr380 b hb z0)
  have hnq403 : q391 ∉ L := fun h => hq394 (hsb345 _ h)
  have hsb402 : ∀ b, b ∈ L → b ∈ _ := fun b hb => hs395 b (hsb345 b hb)
  have hf404 := (ho398 mo hm348).trans hf379
  have hn406 : mo ≠ q391 := fun e => hq394 (e ▸ hm348)
  have hm405 := hs395 _ hm348
  have hf407 := (ho398 q1 hm351).trans hf381
  have hn409 : q1 ≠ q391 := fun e => hq394 (e ▸ hm351)
  have hm408 := hs395 _ hm351
  have hf410 := (ho398 q22 hm354).trans hf382
  have hn412 : q22 ≠ q391 := fun e => hq394 (e ▸ hm354)
  have hm411 := hs395 _ hm354
  have hf413 := (ho398 q47 hm357).trans hf383
  have hn415 : q47 ≠ q391 := fun e => hq394 (e ▸ hm357)
  have hm414 := hs395 _ hm357
  have hf416 := (ho398 q76 hm360).trans hf384
  have hn418 : q76 ≠ q391 := fun e => hq394 (e ▸ hm360)
  have hm417 := hs395 _ hm360
  have hf419 := (ho398 q109 hm363).trans hf385
  have hn421 : q109 ≠ q391 := fun e => hq394 (e ▸ hm363)
  have hm420 := hs395 _ hm363
  have hf422 := (ho398 q146 hm366).trans hf386
  have hn424 : q146 ≠ q391 := fun e => hq394 (e ▸ hm366)
  have hm423 := hs395 _ hm366
  have hf425 := (ho398 q187 hm369).trans hf387
  have hn427 : q187 ≠ q391 := fun e => hq394 (e ▸ hm369)
  have hm426 := hs395 _ hm369
  have hf428 := (ho398 q232 hm372).trans hf388
  have hn430 : q232 ≠ q391 := fun e => hq394 (e ▸ hm372)
  have hm429 := hs395 _ hm372
  have hf431 := (ho398 q281 hm375).trans hf389
  have hn433 : q281 ≠ q391 := fun e => hq394 (e ▸ hm375)
  have hm432 := hs395 _ hm375
  have hf434 := (ho398 q334 hm339).trans hf390
  have hn436 : q334 ≠ q391 := fun e => hq394 (e ▸ hm339)
  have hm435 := hs395 _ hm339
  refine pl_putF (ty := (.array .int)) (v := .ref q391) (fs' := [.int 0, .ref q1, .int 0, .int 0, .int 0, .int 0, .int 0, .ref q22, .int 0, .int 0, .ref q47, .ref q76, .int 0, .int 0, .int 0, .int 0, .int 0, .int 0, .int 0, .int 0, .int 0, .long 0, .long 0, .int 0, .ref q109, .int 0, .ref q146, .ref q187, .ref q232, .ref q281, .ref q334, .ref q391, .null, .null, .null, .null, .int 0, .int 0, .int 0, .int 0, .int 0, .null, .null, .null, .null, .long 0, .long 0, .int 0, .int 0, .null, .int 0, .int 0, .null, .int 0, .null, .int 0]) hx hb hts (fun w h => mT (inX11 w h)) tyX11 tyX11_ok nmX11 hown hG.1 hP hD hS hm405 hf404 rfl 31 (by decide) (hts _ (mT wg_1367)) (fun _ h => h) rfl hnm rfl (by decide +kernel) (rfl) (rfl) (Nat.le_of_ble_eq_true rfl) rfl dX11_init_91 (fun H locs f437 hf439 ho438 hP hD hS => ?_)
  have hfr440 : ∀ b, b ∈ L → b ≠ mo → f437 b = f b := fun b hb z0 => (ho438 b z0).trans (hfr401 b hb z0)
  have hf441 := (ho438 q1 hn16.symm).trans hf407
  have hf442 := (ho438 q22 hn37.symm).trans hf410
  have hf443 := (ho438 q47 hn62.symm).trans hf413
  have hf444 := (ho438 q76 hn91.symm).trans hf416
  have hf445 := (ho438 q109 hn124.symm).trans hf419
  have hf446 := (ho438 q146 hn161.symm).trans hf422
  have hf447 := (ho438 q187 hn202.symm).trans hf425
  have hf448 := (ho438 q232 hn247.symm).trans hf428
  have hf449 := (ho438 q281 hn296.symm).trans hf431
  have hf450 := (ho438 q334 hn349.symm).trans hf434
  have hf451 := (ho438 q391 hn406.symm).trans hf397
  refine lv_aload_n hx hb dX11_init_94 rfl (lv_at hl 0 rfl) ?_
  refine lv_bipush (v := 9) hx hb dX11_init_95 (by decide) ?_
  refine pl_newa (atype := .int) (ty := .int) (N' := 9) (a0 := (9, .inl (fun _ => 0))) hx hb (hts _ (mT wg_217)) rfl hG.1 hP hD hS hA 0 rfl (fun _ h => h) (fun _ => rfl) (by decide) (by decide) (Nat.le_of_ble_eq_true rfl) (Nat.le_of_ble_eq_true rfl) (Nat.le_of_ble_eq_true rfl) dX11_init_97 (fun q452 H L453 f454 hq455 hs456 hm457 hf458 ho459 hP hD hS => ?_)
  have hN460 : [q452, q391, q334, q281, q232, q187, q146, q109, q76, q47, q22, q1].Nodup := List.nodup_cons.mpr ⟨fun h => hq455 (hNs400 _ h), hN399⟩
  have hNs461 : ∀ b, b ∈ [q452, q391, q334, q281, q232, q187, q146, q109, q76, q47, q22, q1] → b ∈ L453 := List.forall_mem_cons.mpr ⟨hm457, fun b hb => hs456 b (hNs400 b hb)⟩
  have hfr462 : ∀ b, b ∈ L → b ≠ mo → f454 b = f b := fun b hb z0 => (ho459 b (hsb402 b hb)).trans (hfr440 b hb z0)
  have hnq464 : q452 ∉ L := fun h => hq455 (hsb402 _ h)
  have hsb463 : ∀ b, b ∈ L → b ∈ _ := fun b hb => hs456 b (hsb402 b hb)
  have hf465 := (ho459 mo hm405).trans hf439
  have hn467 : mo ≠ q452 := fun e => hq455 (e ▸ hm405)
  have hm466 := hs456 _ hm405
  have hf468 := (ho459 q1 hm408).trans hf441
  have hn470 : q1 ≠ q452 := fun e => hq455 (e ▸ hm408)
  have hm469 := hs456 _ hm408
  have hf471 := (ho459 q22 hm411).trans hf442
  have hn473 : q22 ≠ q452 := fun e => hq455 (e ▸ hm411)
  have hm472 := hs456 _ hm411
  have hf474 := (ho459 q47 hm414).trans hf443
  have hn476 : q47 ≠ q452 := fun e => hq455 (e ▸ hm414)
  have hm475 := hs456 _ hm414
  have hf477 := (ho459 q76 hm417).trans hf444
  have hn479 : q76 ≠ q452 := fun e => hq455 (e ▸ hm417)
  have hm478 := hs456 _ hm417
  have hf480 := (ho459 q109 hm420).trans hf445
  have hn482 : q109 ≠ q452 := fun e => hq455 (e ▸ hm420)
  have hm481 := hs456 _ hm420
  have hf483 := (ho459 q146 hm423).trans hf446
  have hn485 : q146 ≠ q452 := fun e => hq455 (e ▸ hm423)
  have hm484 := hs456 _ hm423
  have hf486 := (ho459 q187 hm426).trans hf447
  have hn488 : q187 ≠ q452 := fun e => hq455 (e ▸ hm426)
  have hm487 := hs456 _ hm426
  have hf489 := (ho459 q232 hm429).trans hf448
  have hn491 : q232 ≠ q452 := fun e => hq455 (e ▸ hm429)
  have hm490 := hs456 _ hm429
  have hf492 := (ho459 q281 hm432).trans hf449
  have hn494 : q281 ≠ q452 := fun e => hq455 (e ▸ hm432)
  have hm493 := hs456 _ hm432
  have hf495 := (ho459 q334 hm435).trans hf450
  have hn497 : q334 ≠ q452 := fun e => hq455 (e ▸ hm435)
  have hm496 := hs456 _ hm435
  have hf498 := (ho459 q391 hm396).trans hf451
  have hn500 : q391 ≠ q452 := fun e => hq455 (e ▸ hm396)
  have hm499 := hs456 _ hm396
  refine pl_putF (ty := (.array .int)) (v := .ref q452) (fs' := [.int 0, .ref q1, .int 0, .int 0, .int 0, .int 0, .int 0, .ref q22, .int 0, .int 0, .ref q47, .ref q76, .int 0, .int 0, .int 0, .int 0, .int 0, .int 0, .int 0, .int 0, .int 0, .long 0, .long 0, .int 0, .ref q109, .int 0, .ref q146, .ref q187, .ref q232, .ref q281, .ref q334, .ref q391, .ref q452, .null, .null, .null, .int 0, .int 0, .int 0, .int 0, .int 0, .null, .null, .null, .null, .long 0, .long 0, .int 0, .int 0, .null, .int 0, .int 0, .null, .int 0, .null, .int 0]) hx hb hts (fun w h => mT (inX11 w h)) tyX11 tyX11_ok nmX11 hown hG.1 hP hD hS hm466 hf465 rfl 32 (by decide) (hts _ (mT wg_1368)) (fun _ h => h) rfl hnm rfl (by decide +kernel) (rfl) (rfl) (Nat.le_of_ble_eq_true rfl) rfl dX11_init_99 (fun H locs f501 hf503 ho502 hP hD hS => ?_)
  have hfr504 : ∀ b, b ∈ L → b ≠ mo → f501 b = f b := fun b hb z0 => (ho502 b z0).trans (hfr462 b hb z0)
  have hf505 := (ho502 q1 hn16.symm).trans hf468
  have hf506 := (ho502 q22 hn37.symm).trans hf471
  have hf507 := (ho502 q47 hn62.symm).trans hf474
  have hf508 := (ho502 q76 hn91.symm).trans hf477
  have hf509 := (ho502 q109 hn124.symm).trans hf480
  have hf510 := (ho502 q146 hn161.symm).trans hf483
  have hf511 := (ho502 q187 hn202.symm).trans hf486
  have hf512 := (ho502 q232 hn247.symm).trans hf489
  have hf513 := (ho502 q281 hn296.symm).trans hf492
  have hf514 := (ho502 q334 hn349.symm).trans hf495
  have hf515 := (ho502 q391 hn406.symm).trans hf498
  have hf516 := (ho502 q452 hn467.symm).trans hf458
  refine lv_aload_n hx hb dX11_init_102 rfl (lv_at hl 0 rfl) ?_
  refine lv_bipush (v := 81) hx hb dX11_init_103 (by decide) ?_
  refine pl_newa (atype := .int) (ty := .int) (N' := 81) (a0 := (81, .inl (fun _ => 0))) hx hb (hts _ (mT wg_217)) rfl hG.1 hP hD hS hA 0 rfl (fun _ h => h) (fun _ => rfl) (by decide) (by decide) (Nat.le_of_ble_eq_true rfl) (Nat.le_of_ble_eq_true rfl) (Nat.le_of_ble_eq_true rfl) dX11_init_105 (fun q517 H L518 f519 hq520 hs521 hm522 hf523 ho524 hP hD hS => ?_)
  have hN525 : [q517, q452, q391, q334, q281, q232, q187, q146, q109, q76, q47, q22, q1].Nodup := List.nodup_cons.mpr ⟨fun h => hq520 (hNs461 _ h), hN460⟩
  have hNs526 : ∀ b, b ∈ [q517, q452, q391, q334, q281, q232, q187, q146, q109, q76, q47, q22, q1] → b ∈ L518 := List.forall_mem_cons.mpr ⟨hm522, fun b hb => hs521 b (hNs461 b hb)⟩
  have hfr527 : ∀ b, b ∈ L → b ≠ mo → f519 b = f b := fun b hb z0 => (ho524 b (hsb463 b hb)).trans (hfr504 b hb z0)
  have hnq529 : q517 ∉ L := fun h => hq520 (hsb463 _ h)
  have hsb528 : ∀ b, b ∈ L → b ∈ _ := fun b hb => hs521 b (hsb463 b hb)
  have hf530 := (ho524 mo hm466).trans hf503
  have hn532 : mo ≠ q517 := fun e => hq520 (e ▸ hm466)
  have hm531 := hs521 _ hm466
  have hf533 := (ho524 q1 hm469).trans hf505
  have hn535 : q1 ≠ q517 := fun e => hq520 (e ▸ hm469)
  have hm534 := hs521 _ hm469
  have hf536 := (ho524 q22 hm472).trans hf506
  have hn538 : q22 ≠ q517 := fun e => hq520 (e ▸ hm472)
  have hm537 := hs521 _ hm472
  have hf539 := (ho524 q47 hm475).trans hf507
  have hn541 : q47 ≠ q517 := fun e => hq520 (e ▸ hm475)
  have hm540 := hs521 _ hm475
  have hf542 := (ho524 q76 hm478).trans hf508
  have hn544 : q76 ≠ q517 := fun e => hq520 (e ▸ hm478)
  have hm543 := hs521 _ hm478
  have hf545 := (ho524 q109 hm481).trans hf509
  have hn547 : q109 ≠ q517 := fun e => hq520 (e ▸ hm481)
  have hm546 := hs521 _ hm481
  have hf548 := (ho524 q146 hm484).trans hf510
  have hn550 : q146 ≠ q517 := fun e => hq520 (e ▸ hm484)
  have hm549 := hs521 _ hm484
  have hf551 := (ho524 q187 hm487).trans hf511
  have hn553 : q187 ≠ q517 := fun e => hq520 (e ▸ hm487)
  have hm552 := hs521 _ hm487
  have hf554 := (ho524 q232 hm490).trans hf512
  have hn556 : q232 ≠ q517 := fun e => hq520 (e ▸ hm490)
  have hm555 := hs521 _ hm490
  have hf557 := (ho524 q281 hm493).trans hf513
  have hn559 : q281 ≠ q517 := fun e => hq520 (e ▸ hm493)
  have hm558 := hs521 _ hm493
  have hf560 := (ho524 q334 hm496).trans hf514
  have hn562 : q334 ≠ q517 := fun e => hq520 (e ▸ hm496)
  have hm561 := hs521 _ hm496
  have hf563 := (ho524 q391 hm499).trans hf515
  have hn565 : q391 ≠ q517 := fun e => hq520 (e ▸ hm499)
  have hm564 := hs521 _ hm499
  have hf566 := (ho524 q452 hm457).trans hf516
  have hn568 : q452 ≠ q517 := fun e => hq520 (e ▸ hm457)
  have hm567 := hs521 _ hm457
  refine pl_putF (ty := (.array .int)) (v := .ref q517) (fs' := [.int 0, .ref q1, .int 0, .int 0, .int 0, .int 0, .int 0, .ref q22, .int 0, .int 0, .ref q47, .ref q76, .int 0, .int 0, .int 0, .int 0, .int 0, .int 0, .int 0, .int 0, .int 0, .long 0, .long 0, .int 0, .ref q109, .int 0, .ref q146, .ref q187, .ref q232, .ref q281, .ref q334, .ref q391, .ref q452, .ref q517, .null, .null, .int 0, .int 0, .int 0, .int 0, .int 0, .null, .null, .null, .null, .long 0, .long 0, .int 0, .int 0, .null, .int 0, .int 0, .null, .int 0, .null, .int 0]) hx hb hts (fun w h => mT (inX11 w h)) tyX11 tyX11_ok nmX11 hown hG.1 hP hD hS hm531 hf530 rfl 33 (by decide) (hts _ (mT wg_1369)) (fun _ h => h) rfl hnm rfl (by decide +kernel) (rfl) (rfl) (Nat.le_of_ble_eq_true rfl) rfl dX11_init_107 (fun H locs f569 hf571 ho570 hP hD hS => ?_)
  have hfr572 : ∀ b, b ∈ L → b ≠ mo → f569 b = f b := fun b hb z0 => (ho570 b z0).trans (hfr527 b hb z0)
  have hf573 := (ho570 q1 hn16.symm).trans hf533
  have hf574 := (ho570 q22 hn37.symm).trans hf536
  have hf575 := (ho570 q47 hn62.symm).trans hf539
  have hf576 := (ho570 q76 hn91.symm).trans hf542
  have hf577 := (ho570 q109 hn124.symm).trans hf545
  have hf578 := (ho570 q146 hn161.symm).trans hf548
  have hf579 := (ho570 q187 hn202.symm).trans hf551
  have hf580 := (ho570 q232 hn247.symm).trans hf554
  have hf581 := (ho570 q281 hn296.symm).trans hf557
  have hf582 := (ho570 q334 hn349.symm).trans hf560
  have hf583 := (ho570 q391 hn406.symm).trans hf563
  have hf584 := (ho570 q452 hn467.symm).trans hf566
  have hf585 := (ho570 q517 hn532.symm).trans hf523
  refine lv_aload_n hx hb dX11_init_110 rfl (lv_at hl 0 rfl) ?_
  refine lv_bipush (v := 9) hx hb dX11_init_111 (by decide) ?_
  refine pl_newa (atype := .boolean) (ty := .boolean) (N' := 9) (a0 := (9, .inl (fun _ => 0))) hx hb (hts _ (mT wg_1505)) rfl hG.1 hP hD hS hA 3 rfl (fun _ h => h) (fun _ => rfl) (by decide) (by decide) (Nat.le_of_ble_eq_true rfl) (Nat.le_of_ble_eq_true rfl) (Nat.le_of_ble_eq_true rfl) dX11_init_113 (fun q586 H L587 f588 hq589 hs590 hm591 hf592 ho593 hP hD hS => ?_)
  have hN594 : [q586, q517, q452, q391, q334, q281, q232, q187, q146, q109, q76, q47, q22, q1].Nodup := List.nodup_cons.mpr ⟨fun h => hq589 (hNs526 _ h), hN525⟩
  have hNs595 : ∀ b, b ∈ [q586, q517, q452, q391, q334, q281, q232, q187, q146, q109, q76, q47, q22, q1] → b ∈ L587 := List.forall_mem_cons.mpr ⟨hm591, fun b hb => hs590 b (hNs526 b hb)⟩
  have hfr596 : ∀ b, b ∈ L → b ≠ mo → f588 b = f b := fun b hb z0 => (ho593 b (hsb528 b hb)).trans (hfr572 b hb z0)
  have hnq598 : q586 ∉ L := fun h => hq589 (hsb528 _ h)
  have hsb597 : ∀ b, b ∈ L → b ∈ _ := fun b hb => hs590 b (hsb528 b hb)
  have hf599 := (ho593 mo hm531).trans hf571
  have hn601 : mo ≠ q586 := fun e => hq589 (e ▸ hm531)
  have hm600 := hs590 _ hm531
  have hf602 := (ho593 q1 hm534).trans hf573
  have hn604 : q1 ≠ q586 := fun e => hq589 (e ▸ hm534)
  have hm603 := hs590 _ hm534
  have hf605 := (ho593 q22 hm537).trans hf574
  have hn607 : q22 ≠ q586 := fun e => hq589 (e ▸ hm537)
  have hm606 := hs590 _ hm537
  have hf608 := (ho593 q47 hm540).trans hf575
  have hn610 : q47 ≠ q586 := fun e => hq589 (e ▸ hm540)
  have hm609 := hs590 _ hm540
  have hf611 := (ho593 q76 hm543).trans hf576
  have hn613 : q76 ≠ q586 := fun e => hq589 (e ▸ hm543)
  have hm612 := hs590 _ hm543
  have hf614 := (ho593 q109 hm546).trans hf577
  have hn616 : q109 ≠ q586 := fun e => hq589 (e ▸ hm546)
  have hm615 := hs590 _ hm546
  have hf617 := (ho593 q146 hm549).trans hf578
  have hn619 : q146 ≠ q586 := fun e => hq589 (e ▸ hm549)
  have hm618 := hs590 _ hm549
  have hf620 := (ho593 q187 hm552).trans hf579
  have hn622 : q187 ≠ q586 := fun e => hq589 (e ▸ hm552)
  have hm621 := hs590 _ hm552
  have hf623 := (ho593 q232 hm555).trans hf580
  have hn625 : q232 ≠ q586 := fun e => hq589 (e ▸ hm555)
  have hm624 := hs590 _ hm555
  have hf626 := (ho593 q281 hm558).trans hf581
  have hn628 : q281 ≠ q586 := fun e => hq589 (e ▸ hm558)
  have hm627 := hs590 _ hm558
  have hf629 := (ho593 q334 hm561).trans hf582
  have hn631 : q334 ≠ q586 := fun e => hq589 (e ▸ hm561)
  have hm630 := hs590 _ hm561
  have hf632 := (ho593 q391 hm564).trans hf583
  have hn634 : q391 ≠ q586 := fun e => hq589 (e ▸ hm564)
  have hm633 := hs590 _ hm564
  have hf635 := (ho593 q452 hm567).trans hf584
  have hn637 : q452 ≠ q586 := fun e => hq589 (e ▸ hm567)
  have hm636 := hs590 _ hm567
  have hf638 := (ho593 q517 hm522).trans hf585
  have hn640 : q517 ≠ q586 := fun e => hq589 (e ▸ hm522)
  have hm639 := hs590 _ hm522
  refine pl_putF (ty := (.array .boolean)) (v := .ref q586) (fs' := [.int 0, .ref q1, .int 0, .int 0, .int 0, .int 0, .int 0, .ref q22, .int 0, .int 0, .ref q47, .ref q76, .int 0, .int 0, .int 0, .int 0, .int 0, .int 0, .int 0, .int 0, .int 0, .long 0, .long 0, .int 0, .ref q109, .int 0, .ref q146, .ref q187, .ref q232, .ref q281, .ref q334, .ref q391, .ref q452, .ref q517, .ref q586, .null, .int 0, .int 0, .int 0, .int 0, .int 0, .null, .null, .null, .null, .long 0, .long 0, .int 0, .int 0, .null, .int 0, .int 0, .null, .int 0, .null, .int 0]) hx hb hts (fun w h => mT (inX11 w h)) tyX11 tyX11_ok nmX11 hown hG.1 hP hD hS hm600 hf599 rfl 34 (by decide) (hts _ (mT wg_1370)) (fun _ h => h) rfl hnm rfl (by decide +kernel) (rfl) (rfl) (Nat.le_of_ble_eq_true rfl) rfl dX11_init_115 (fun H locs f641 hf643 ho642 hP hD hS => ?_)
  have hfr644 : ∀ b, b ∈ L → b ≠ mo → f641 b = f b := fun b hb z0 => (ho642 b z0).trans (hfr596 b hb z0)
  have hf645 := (ho642 q1 hn16.symm).trans hf602
  have hf646 := (ho642 q22 hn37.symm).trans hf605
  have hf647 := (ho642 q47 hn62.symm).trans hf608
  have hf648 := (ho642 q76 hn91.symm).trans hf611
  have hf649 := (ho642 q109 hn124.symm).trans hf614
  have hf650 := (ho642 q146 hn161.symm).trans hf617
  have hf651 := (ho642 q187 hn202.symm).trans hf620
  have hf652 := (ho642 q232 hn247.symm).trans hf623
  have hf653 := (ho642 q281 hn296.symm).trans hf626
  have hf654 := (ho642 q334 hn349.symm).trans hf629
  have hf655 := (ho642 q391 hn406.symm).trans hf632
  have hf656 := (ho642 q452 hn467.symm).trans hf635
  have hf657 := (ho642 q517 hn532.symm).trans hf638
  have hf658 := (ho642 q586 hn601.symm).trans hf592
  refine lv_aload_n hx hb dX11_init_118 rfl (lv_at hl 0 rfl) ?_
  refine lv_bipush (v := 9) hx hb dX11_init_119 (by decide) ?_
  refine pl_newa (atype := .boolean) (ty := .boolean) (N' := 9) (a0 := (9, .inl (fun _ => 0))) hx hb (hts _ (mT wg_1505)) rfl hG.1 hP hD hS hA 3 rfl (fun _ h => h) (fun _ => rfl) (by decide) (by decide) (Nat.le_of_ble_eq_true rfl) (Nat.le_of_ble_eq_true rfl) (Nat.le_of_ble_eq_true rfl) dX11_init_121 (fun q659 H L660 f661 hq662 hs663 hm664 hf665 ho666 hP hD hS => ?_)
  have hN667 : [q659, q586, q517, q452, q391, q334, q281, q232, q187, q146, q109, q76, q47, q22, q1].Nodup := List.nodup_cons.mpr ⟨fun h => hq662 (hNs595 _ h), hN594⟩
  have hNs668 : ∀ b, b ∈ [q659, q586, q517, q452, q391, q334, q281, q232, q187, q146, q109, q76, q47, q22, q1] → b ∈ L660 := List.forall_mem_cons.mpr ⟨hm664, fun b hb => hs663 b (hNs595 b hb)⟩
  have hfr669 : ∀ b, b ∈ L → b ≠ mo → f661 b = f b := fun b hb z0 => (ho666 b (hsb597 b hb)).trans (hfr644 b hb z0)
  have hnq671 : q659 ∉ L := fun h => hq662 (hsb597 _ h)
  have hsb670 : ∀ b, b ∈ L → b ∈ _ := fun b hb => hs663 b (hsb597 b hb)
  have hf672 := (ho666 mo hm600).trans hf643
  have hn674 : mo ≠ q659 := fun e => hq662 (e ▸ hm600)
  have hm673 := hs663 _ hm600
  have hf675 := (ho666 q1 hm603).trans hf645
  have hn677 : q1 ≠ q659 := fun e => hq662 (e ▸ hm603)
  have hm676 := hs663 _ hm603
  have hf678 := (ho666 q22 hm606).trans hf646
  have hn680 : q22 ≠ q659 := fun e => hq662 (e ▸ hm606)
  have hm679 := hs663 _ hm606
  have hf681 := (ho666 q47 hm609).trans hf647
  have hn683 : q47 ≠ q659 := fun e => hq662 (e ▸ hm609)
  have hm682 := hs663 _ hm609
  have hf684 := (ho666 q76 hm612).trans hf648
  have hn686 : q76 ≠ q659 := fun e => hq662 (e ▸ hm612)
  have hm685 := hs663 _ hm612
  have hf687 := (ho666 q109 hm615).trans hf649
  have hn689 : q109 ≠ q659 := fun e => hq662 (e ▸ hm615)
  have hm688 := hs663 _ hm615
  have hf690 := (ho666 q146 hm618).trans hf650
  have hn692 : q146 ≠ q659 := fun e => hq662 (e ▸ hm618)
  have hm691 := hs663 _ hm618
  have hf693 := (ho666 q187 hm621).trans hf651
  have hn695 : q187 ≠ q659 := fun e => hq662 (e ▸ hm621)
  have hm694 := hs663 _ hm621
  have hf696 := (ho666 q232 hm624).trans hf652
  have hn698 : q232 ≠ q659 := fun e => hq662 (e ▸ hm624)
  have hm697 := hs663 _ hm624
  have hf699 := (ho666 q281 hm627).trans hf653
  have hn701 : q281 ≠ q659 := fun e => hq662 (e ▸ hm627)
  have hm700 := hs663 _ hm627
  have hf702 := (ho666 q334 hm630).trans hf654
  have hn704 : q334 ≠ q659 := fun e => hq662 (e ▸ hm630)
  have hm703 := hs663 _ hm630
  have hf705 := (ho666 q391 hm633).trans hf655
  have hn707 : q391 ≠ q659 := fun e => hq662 (e ▸ hm633)
  have hm706 := hs663 _ hm633
  have hf708 := (ho666 q452 hm636).trans hf656
  have hn710 : q452 ≠ q659 := fun e => hq662 (e ▸ hm636)
  have hm709 := hs663 _ hm636
  have hf711 := (ho666 q517 hm639).trans hf657
  have hn713 : q517 ≠ q659 := fun e => hq662 (e ▸ hm639)
  have hm712 := hs663 _ hm639
  have hf714 := (ho666 q586 hm591).trans hf658
  have hn716 : q586 ≠ q659 := fun e => hq662 (e ▸ hm591)
  have hm715 := hs663 _ hm591
  refine pl_putF (ty := (.array .boolean)) (v := .ref q659) (fs' := [.int 0, .ref q1, .int 0, .int 0, .int 0, .int 0, .int 0, .ref q22, .int 0, .int 0, .ref q47, .ref q76, .int 0, .int 0, .int 0, .int 0, .int 0, .int 0, .int 0, .int 0, .int 0, .long 0, .long 0, .int 0, .ref q109, .int 0, .ref q146, .ref q187, .ref q232, .ref q281, .ref q334, .ref q391, .ref q452, .ref q517, .ref q586, .ref q659, .int 0, .int 0, .int 0, .int 0, .int 0, .null, .null, .null, .null, .long 0, .long 0, .int 0, .int 0, .null, .int 0, .int 0, .null, .int 0, .null, .int 0]) hx hb hts (fun w h => mT (inX11 w h)) tyX11 tyX11_ok nmX11 hown hG.1 hP hD hS hm673 hf672 rfl 35 (by decide) (hts _ (mT wg_1371)) (fun _ h => h) rfl hnm rfl (by decide +kernel) (rfl) (rfl) (Nat.le_of_ble_eq_true rfl) rfl dX11_init_123 (fun H locs f717 hf719 ho718 hP hD hS => ?_)
  have hfr720 : ∀ b, b ∈ L → b ≠ mo → f717 b = f b := fun b hb z0 => (ho718 b z0).trans (hfr669 b hb z0)
  have hf721 := (ho718 q1 hn16.symm).trans hf675
  have hf722 := (ho718 q22 hn37.symm).trans hf678
  have hf723 := (ho718 q47 hn62.symm).trans hf681
  have hf724 := (ho718 q76 hn91.symm).trans hf684
  have hf725 := (ho718 q109 hn124.symm).trans hf687
  have hf726 := (ho718 q146 hn161.symm).trans hf690
  have hf727 := (ho718 q187 hn202.symm).trans hf693
  have hf728 := (ho718 q232 hn247.symm).trans hf696
  have hf729 := (ho718 q281 hn296.symm).trans hf699
  have hf730 := (ho718 q334 hn349.symm).trans hf702
  have hf731 := (ho718 q391 hn406.symm).trans hf705
  have hf732 := (ho718 q452 hn467.symm).trans hf708
  have hf733 := (ho718 q517 hn532.symm).trans hf711
  have hf734 := (ho718 q586 hn601.symm).trans hf714
  have hf735 := (ho718 q659 hn674.symm).trans hf665
  refine lv_aload_n hx hb dX11_init_126 rfl (lv_at hl 0 rfl) ?_
  refine lv_sipush (v := 2126) hx hb dX11_init_127 (by decide) ?_
  refine pl_newa (atype := .int) (ty := .int) (N' := 2126) (a0 := (2126, .inl (fun _ => 0))) hx hb (hts _ (mT wg_217)) rfl hG.1 hP hD hS hA 0 rfl (fun _ h => h) (fun _ => rfl) (by decide) (by decide) (Nat.le_of_ble_eq_true rfl) (Nat.le_of_ble_eq_true rfl) (Nat.le_of_ble_eq_true rfl) dX11_init_130 (fun q736 H L737 f738 hq739 hs740 hm741 hf742 ho743 hP hD hS => ?_)
  have hN744 : [q736, q659, q586, q517, q452, q391, q334, q281, q232, q187, q146, q109, q76, q47, q22, q1].Nodup := List.nodup_cons.mpr ⟨fun h => hq739 (hNs668 _ h), hN667⟩
  have hNs745 : ∀ b, b ∈ [q736, q659, q586, q517, q452, q391, q334, q281, q232, q187, q146, q109, q76, q47, q22, q1] → b ∈ L737 := List.forall_mem_cons.mpr ⟨hm741, fun b hb => hs740 b (hNs668 b hb)⟩
  have hfr746 : ∀ b, b ∈ L → b ≠ mo → f738 b = f b := fun b hb z0 => (ho743 b (hsb670 b hb)).trans (hfr720 b hb z0)
  have hnq748 : q736 ∉ L := fun h => hq739 (hsb670 _ h)
  have hsb747 : ∀ b, b ∈ L → b ∈ _ := fun b hb => hs740 b (hsb670 b hb)
  have hf749 := (ho743 mo hm673).trans hf719
  have hn751 : mo ≠ q736 := fun e => hq739 (e ▸ hm673)
  have hm750 := hs740 _ hm673
  have hf752 := (ho743 q1 hm676).trans hf721
  have hn754 : q1 ≠ q736 := fun e => hq739 (e ▸ hm676)
  have hm753 := hs740 _ hm676
  have hf755 := (ho743 q22 hm679).trans hf722
  have hn757 : q22 ≠ q736 := fun e => hq739 (e ▸ hm679)
  have hm756 := hs740 _ hm679
  have hf758 := (ho743 q47 hm682).trans hf723
  have hn760 : q47 ≠ q736 := fun e => hq739 (e ▸ hm682)
  have hm759 := hs740 _ hm682
  have hf761 := (ho743 q76 hm685).trans hf724
  have hn763 : q76 ≠ q736 := fun e => hq739 (e ▸ hm685)
  have hm762 := hs740 _ hm685
  have hf764 := (ho743 q109 hm688).trans hf725
  have hn766 : q109 ≠ q736 := fun e => hq739 (e ▸ hm688)
  have hm765 := hs740 _ hm688
  have hf767 := (ho743 q146 hm691).trans hf726
  have hn769 : q146 ≠ q736 := fun e => hq739 (e ▸ hm691)
  have hm768 := hs740 _ hm691
  have hf770 := (ho743 q187 hm694).trans hf727
  have hn772 : q187 ≠ q736 := fun e => hq739 (e ▸ hm694)
  have hm771 := hs740 _ hm694
  have hf773 := (ho743 q232 hm697).trans hf728
  have hn775 : q232 ≠ q736 := fun e => hq739 (e ▸ hm697)
  have hm774 := hs740 _ hm697
  have hf776 := (ho743 q281 hm700).trans hf729
  have hn778 : q281 ≠ q736 := fun e => hq739 (e ▸ hm700)
  have hm777 := hs740 _ hm700
  have hf779 := (ho743 q334 hm703).trans hf730
  have hn781 : q334 ≠ q736 := fun e => hq739 (e ▸ hm703)
  have hm780 := hs740 _ hm703
  have hf782 := (ho743 q391 hm706).trans hf731
  have hn784 : q391 ≠ q736 := fun e => hq739 (e ▸ hm706)
  have hm783 := hs740 _ hm706
  have hf785 := (ho743 q452 hm709).trans hf732
  have hn787 : q452 ≠ q736 := fun e => hq739 (e ▸ hm709)
  have hm786 := hs740 _ hm709
  have hf788 := (ho743 q517 hm712).trans hf733
  have hn790 : q517 ≠ q736 := fun e => hq739 (e ▸ hm712)
  have hm789 := hs740 _ hm712
  have hf791 := (ho743 q586 hm715).trans hf734
  have hn793 : q586 ≠ q736 := fun e => hq739 (e ▸ hm715)
  have hm792 := hs740 _ hm715
  have hf794 := (ho743 q659 hm664).trans hf735
  have hn796 : q659 ≠ q736 := fun e => hq739 (e ▸ hm664)
  have hm795 := hs740 _ hm664
  refine pl_putF (ty := (.array .int)) (v := .ref q736) (fs' := [.int 0, .ref q1, .int 0, .int 0, .int 0, .int 0, .int 0, .ref q22, .int 0, .int 0, .ref q47, .ref q76, .int 0, .int 0, .int 0, .int 0, .int 0, .int 0, .int 0, .int 0, .int 0, .long 0, .long 0, .int 0, .ref q109, .int 0, .ref q146, .ref q187, .ref q232, .ref q281, .ref q334, .ref q391, .ref q452, .ref q517, .ref q586, .ref q659, .int 0, .int 0, .int 0, .int 0, .int 0, .ref q736, .null, .null, .null, .long 0, .long 0, .int 0, .int 0, .null, .int 0, .int 0, .null, .int 0, .null, .int 0]) hx hb hts (fun w h => mT (inX11 w h)) tyX11 tyX11_ok nmX11 hown hG.1 hP hD hS hm750 hf749 rfl 41 (by decide) (hts _ (mT wg_1377)) (fun _ h => h) rfl hnm rfl (by decide +kernel) (rfl) (rfl) (Nat.le_of_ble_eq_true rfl) rfl dX11_init_132 (fun H locs f797 hf799 ho798 hP hD hS => ?_)
  have hfr800 : ∀ b, b ∈ L → b ≠ mo → f797 b = f b := fun b hb z0 => (ho798 b z0).trans (hfr746 b hb z0)
  have hf801 := (ho798 q1 hn16.symm).trans hf752
  have hf802 := (ho798 q22 hn37.symm).trans hf755
  have hf803 := (ho798 q47 hn62.symm).trans hf758
  have hf804 := (ho798 q76 hn91.symm).trans hf761
  have hf805 := (ho798 q109 hn124.symm).trans hf764
  have hf806 := (ho798 q146 hn161.symm).trans hf767
  have hf807 := (ho798 q187 hn202.symm).trans hf770
  have hf808 := (ho798 q232 hn247.symm).trans hf773
  have hf809 := (ho798 q281 hn296.symm).trans hf776
  have hf810 := (ho798 q334 hn349.symm).trans hf779
  have hf811 := (ho798 q391 hn406.symm).trans hf782
  have hf812 := (ho798 q452 hn467.symm).trans hf785
  have hf813 := (ho798 q517 hn532.symm).trans hf788
  have hf814 := (ho798 q586 hn601.symm).trans hf791
  have hf815 := (ho798 q659 hn674.symm).trans hf794
  have hf816 := (ho798 q736 hn751.symm).trans hf742
  refine lv_aload_n hx hb dX11_init_135 rfl (lv_at hl 0 rfl) ?_
  refine lv_sipush (v := 2126) hx hb dX11_init_136 (by decide) ?_
  refine pl_newa (atype := .int) (ty := .int) (N' := 2126) (a0 := (2126, .inl (fun _ => 0))) hx hb (hts _ (mT wg_217)) rfl hG.1 hP hD hS hA 0 rfl (fun _ h => h) (fun _ => rfl) (by decide) (by decide) (Nat.le_of_ble_eq_true rfl) (Nat.le_of_ble_eq_true rfl) (Nat.le_of_ble_eq_true rfl) dX11_init_139 (fun q817 H L818 f819 hq820 hs821 hm822 hf823 ho824 hP hD hS => ?_)
  have hN825 : [q817, q736, q659, q586, q517, q452, q391, q334, q281, q232, q187, q146, q109, q76, q47, q22, q1].Nodup := List.nodup_cons.mpr ⟨fun h => hq820 (hNs745 _ h), hN744⟩
  have hNs826 : ∀ b, b ∈ [q817, q736, q659, q586, q517, q452, q391, q334, q281, q232, q187, q146, q109, q76, q47, q22, q1] → b ∈ L818 := List.forall_mem_cons.mpr ⟨hm822, fun b hb => hs821 b (hNs745 b hb)⟩
  have hfr827 : ∀ b, b ∈ L → b ≠ mo → f819 b = f b := fun b hb z0 => (ho824 b (hsb747 b hb)).trans (hfr800 b hb z0)
  have hnq829 : q817 ∉ L := fun h => hq820 (hsb747 _ h)
  have hsb828 : ∀ b, b ∈ L → b ∈ _ := fun b hb => hs821 b (hsb747 b hb)
  have hf830 := (ho824 mo hm750).trans hf799
  have hn832 : mo ≠ q817 := fun e => hq820 (e ▸ hm750)
  have hm831 := hs821 _ hm750
  have hf833 := (ho824 q1 hm753).trans hf801
  have hn835 : q1 ≠ q817 := fun e => hq820 (e ▸ hm753)
  have hm834 := hs821 _ hm753
  have hf836 := (ho824 q22 hm756).trans hf802
  have hn838 : q22 ≠ q817 := fun e => hq820 (e ▸ hm756)
  have hm837 := hs821 _ hm756
  have hf839 := (ho824 q47 hm759).trans hf803
  have hn841 : q47 ≠ q817 := fun e => hq820 (e ▸ hm759)
  have hm840 := hs821 _ hm759
  have hf842 := (ho824 q76 hm762).trans hf804
  have hn844 : q76 ≠ q817 := fun e => hq820 (e ▸ hm762)
  have hm843 := hs821 _ hm762
  have hf845 := (ho824 q109 hm765).trans hf805
  have hn847 : q109 ≠ q817 := fun e => hq820 (e ▸ hm765)
  have hm846 := hs821 _ hm765
  have hf848 := (ho824 q146 hm768).trans hf806
  have hn850 : q146 ≠ q817 := fun e => hq820 (e ▸ hm768)
  have hm849 := hs821 _ hm768
  have hf851 := (ho824 q187 hm771).trans hf807
  have hn853 : q187 ≠ q817 := fun e => hq820 (e ▸ hm771)
  have hm852 := hs821 _ hm771
  have hf854 := (ho824 q232 hm774).trans hf808
  have hn856 : q232 ≠ q817 := fun e => hq820 (e ▸ hm774)
  have hm855 := hs821 _ hm774
  have hf857 := (ho824 q281 hm777).trans hf809
  have hn859 : q281 ≠ q817 := fun e => hq820 (e ▸ hm777)
  have hm858 := hs821 _ hm777
  have hf860 := (ho824 q334 hm780).trans hf810
  have hn862 : q334 ≠ q817 := fun e => hq820 (e ▸ hm780)
  have hm861 := hs821 _ hm780
  have hf863 := (ho824 q391 hm783).trans hf811
  have hn865 : q391 ≠ q817 := fun e => hq820 (e ▸ hm783)
  have hm864 := hs821 _ hm783
  have hf866 := (ho824 q452 hm786).trans hf812
  have hn868 : q452 ≠ q817 := fun e => hq820 (e ▸ hm786)
  have hm867 := hs821 _ hm786
  have hf869 := (ho824 q517 hm789).trans hf813
  have hn871 : q517 ≠ q817 := fun e => hq820 (e ▸ hm789)
  have hm870 := hs821 _ hm789
  have hf872 := (ho824 q586 hm792).trans hf814
  have hn874 : q586 ≠ q817 := fun e => hq820 (e ▸ hm792)
  have hm873 := hs821 _ hm792
  have hf875 := (ho824 q659 hm795).trans hf815
  have hn877 : q659 ≠ q817 := fun e => hq820 (e ▸ hm795)
  have hm876 := hs821 _ hm795
  have hf878 := (ho824 q736 hm741).trans hf816
  have hn880 : q736 ≠ q817 := fun e => hq820 (e ▸ hm741)
  have hm879 := hs821 _ hm741
  refine pl_putF (ty := (.array .int)) (v := .ref q817) (fs' := [.int 0, .ref q1, .int 0, .int 0, .int 0, .int 0, .int 0, .ref q22, .int 0, .int 0, .ref q47, .ref q76, .int 0, .int 0, .int 0, .int 0, .int 0, .int 0, .int 0, .int 0, .int 0, .long 0, .long 0, .int 0, .ref q109, .int 0, .ref q146, .ref q187, .ref q232, .ref q281, .ref q334, .ref q391, .ref q452, .ref q517, .ref q586, .ref q659, .int 0, .int 0, .int 0, .int 0, .int 0, .ref q736, .ref q817, .null, .null, .long 0, .long 0, .int 0, .int 0, .null, .int 0, .int 0, .null, .int 0, .null, .int 0]) hx hb hts (fun w h => mT (inX11 w h)) tyX11 tyX11_ok nmX11 hown hG.1 hP hD hS hm831 hf830 rfl 42 (by decide) (hts _ (mT wg_1378)) (fun _ h => h) rfl hnm rfl (by decide +kernel) (rfl) (rfl) (Nat.le_of_ble_eq_true rfl) rfl dX11_init_141 (fun H locs f881 hf883 ho882 hP hD hS => ?_)
  have hfr884 : ∀ b, b ∈ L → b ≠ mo → f881 b = f b := fun b hb z0 => (ho882 b z0).trans (hfr827 b hb z0)
  have hf885 := (ho882 q1 hn16.symm).trans hf833
  have hf886 := (ho882 q22 hn37.symm).trans hf836
  have hf887 := (ho882 q47 hn62.symm).trans hf839
  have hf888 := (ho882 q76 hn91.symm).trans hf842
  have hf889 := (ho882 q109 hn124.symm).trans hf845
  have hf890 := (ho882 q146 hn161.symm).trans hf848
  have hf891 := (ho882 q187 hn202.symm).trans hf851
  have hf892 := (ho882 q232 hn247.symm).trans hf854
  have hf893 := (ho882 q281 hn296.symm).trans hf857
  have hf894 := (ho882 q334 hn349.symm).trans hf860
  have hf895 := (ho882 q391 hn406.symm).trans hf863
  have hf896 := (ho882 q452 hn467.symm).trans hf866
  have hf897 := (ho882 q517 hn532.symm).trans hf869
  have hf898 := (ho882 q586 hn601.symm).trans hf872
  have hf899 := (ho882 q659 hn674.symm).trans hf875
  have hf900 := (ho882 q736 hn751.symm).trans hf878
  have hf901 := (ho882 q817 hn832.symm).trans hf823
  refine lv_aload_n hx hb dX11_init_144 rfl (lv_at hl 0 rfl) ?_
  refine lv_ldc hx hb hown (hts _ (mT wg_1335)) dX11_init_145 ?_
  refine pl_newa (atype := .int) (ty := .int) (N' := 42520) (a0 := (42520, .inl (fun _ => 0))) hx hb (hts _ (mT wg_217)) rfl hG.1 hP hD hS hA 0 rfl (fun _ h => h) (fun _ => rfl) (by decide) (by decide) (Nat.le_of_ble_eq_true rfl) (Nat.le_of_ble_eq_true rfl) (Nat.le_of_ble_eq_true rfl) dX11_init_147 (fun q902 H L903 f904 hq905 hs906 hm907 hf908 ho909 hP hD hS => ?_)
  have hN910 : [q902, q817, q736, q659, q586, q517, q452, q391, q334, q281, q232, q187, q146, q109, q76, q47, q22, q1].Nodup := List.nodup_cons.mpr ⟨fun h => hq905 (hNs826 _ h), hN825⟩
  have hNs911 : ∀ b, b ∈ [q902, q817, q736, q659, q586, q517, q452, q391, q334, q281, q232, q187, q146, q109, q76, q47, q22, q1] → b ∈ L903 := List.forall_mem_cons.mpr ⟨hm907, fun b hb => hs906 b (hNs826 b hb)⟩
  have hfr912 : ∀ b, b ∈ L → b ≠ mo → f904 b = f b := fun b hb z0 => (ho909 b (hsb828 b hb)).trans (hfr884 b hb z0)
  have hnq914 : q902 ∉ L := fun h => hq905 (hsb828 _ h)
  have hsb913 : ∀ b, b ∈ L → b ∈ _ := fun b hb => hs906 b (hsb828 b hb)
  have hf915 := (ho909 mo hm831).trans hf883
  have hn917 : mo ≠ q902 := fun e => hq905 (e ▸ hm831)
  have hm916 := hs906 _ hm831
  have hf918 := (ho909 q1 hm834).trans hf885
  have hn920 : q1 ≠ q902 := fun e => hq905 (e ▸ hm834)
  have hm919 := hs906 _ hm834
  have hf921 := (ho909 q22 hm837).trans hf886
  have hn923 : q22 ≠ q902 := fun e => hq905 (e ▸ hm837)
  have hm922 := hs906 _ hm837
  have hf924 := (ho909 q47 hm840).trans hf887
  have hn926 : q47 ≠ q902 := fun e => hq905 (e ▸ hm840)
  have hm925 := hs906 _ hm840
  have hf927 := (ho909 q76 hm843).trans hf888
  have hn929 : q76 ≠ q902 := fun e => hq905 (e ▸ hm843)
  have hm928 := hs906 _ hm843
  have hf930 := (ho909 q109 hm846).trans hf889
  have hn932 : q109 ≠ q902 := fun e => hq905 (e ▸ hm846)
  have hm931 := hs906 _ hm846
  have hf933 := (ho909 q146 hm849).trans hf890
  have hn935 : q146 ≠ q902 := fun e => hq905 (e ▸ hm849)
  have hm934 := hs906 _ hm849
  have hf936 := (ho909 q187 hm852).trans hf891
  have hn938 : q187 ≠ q902 := fun e => hq905 (e ▸ hm852)
  have hm937 := hs906 _ hm852
  have hf939 := (ho909 q232 hm855).trans hf892
  have hn941 : q232 ≠ q902 := fun e => hq905 (e ▸ hm855)
  have hm940 := hs906 _ hm855
  have hf942 := (ho909 q281 hm858).trans hf893
  have hn944 : q281 ≠ q902 := fun e => hq905 (e ▸ hm858)
  have hm943 := hs906 _ hm858
  have hf945 := (ho909 q334 hm861).trans hf894
  have hn947 : q334 ≠ q902 := fun e => hq905 (e ▸ hm861)
  have hm946 := hs906 _ hm861
  have hf948 := (ho909 q391 hm864).trans hf895
  have hn950 : q391 ≠ q902 := fun e => hq905 (e ▸ hm864)
  have hm949 := hs906 _ hm864
  have hf951 := (ho909 q452 hm867).trans hf896
  have hn953 : q452 ≠ q902 := fun e => hq905 (e ▸ hm867)
  have hm952 := hs906 _ hm867
  have hf954 := (ho909 q517 hm870).trans hf897
  have hn956 : q517 ≠ q902 := fun e => hq905 (e ▸ hm870)
  have hm955 := hs906 _ hm870
  have hf957 := (ho909 q586 hm873).trans hf898
  have hn959 : q586 ≠ q902 := fun e => hq905 (e ▸ hm873)
  have hm958 := hs906 _ hm873
  have hf960 := (ho909 q659 hm876).trans hf899
  have hn962 : q659 ≠ q902 := fun e => hq905 (e ▸ hm876)
  have hm961 := hs906 _ hm876
  have hf963 := (ho909 q736 hm879).trans hf900
  have hn965 : q736 ≠ q902 := fun e => hq905 (e ▸ hm879)
  have hm964 := hs906 _ hm879
  have hf966 := (ho909 q817 hm822).trans hf901
  have hn968 : q817 ≠ q902 := fun e => hq905 (e ▸ hm822)
  have hm967 := hs906 _ hm822
  refine pl_putF (ty := (.array .int)) (v := .ref q902) (fs' := [.int 0, .ref q1, .int 0, .int 0, .int 0, .int 0, .int 0, .ref q22, .int 0, .int 0, .ref q47, .ref q76, .int 0, .int 0, .int 0, .int 0, .int 0, .int 0, .int 0, .int 0, .int 0, .long 0, .long 0, .int 0, .ref q109, .int 0, .ref q146, .ref q187, .ref q232, .ref q281, .ref q334, .ref q391, .ref q452, .ref q517, .ref q586, .ref q659, .int 0, .int 0, .int 0, .int 0, .int 0, .ref q736, .ref q817, .ref q902, .null, .long 0, .long 0, .int 0, .int 0, .null, .int 0, .int 0, .null, .int 0, .null, .int 0]) hx hb hts (fun w h => mT (inX11 w h)) tyX11 tyX11_ok nmX11 hown hG.1 hP hD hS hm916 hf915 rfl 43 (by decide) (hts _ (mT wg_1379)) (fun _ h => h) rfl hnm rfl (by decide +kernel) (rfl) (rfl) (Nat.le_of_ble_eq_true rfl) rfl dX11_init_149 (fun H locs f969 hf971 ho970 hP hD hS => ?_)
  have hfr972 : ∀ b, b ∈ L → b ≠ mo → f969 b = f b := fun b hb z0 => (ho970 b z0).trans (hfr912 b hb z0)
  have hf973 := (ho970 q1 hn16.symm).trans hf918
  have hf974 := (ho970 q22 hn37.symm).trans hf921
  have hf975 := (ho970 q47 hn62.symm).trans hf924
  have hf976 := (ho970 q76 hn91.symm).trans hf927
  have hf977 := (ho970 q109 hn124.symm).trans hf930
  have hf978 := (ho970 q146 hn161.symm).trans hf933
  have hf979 := (ho970 q187 hn202.symm).trans hf936
  have hf980 := (ho970 q232 hn247.symm).trans hf939
  have hf981 := (ho970 q281 hn296.symm).trans hf942
  have hf982 := (ho970 q334 hn349.symm).trans hf945
  have hf983 := (ho970 q391 hn406.symm).trans hf948
  have hf984 := (ho970 q452 hn467.symm).trans hf951
  have hf985 := (ho970 q517 hn532.symm).trans hf954
  have hf986 := (ho970 q586 hn601.symm).trans hf957
  have hf987 := (ho970 q659 hn674.symm).trans hf960
  have hf988 := (ho970 q736 hn751.symm).trans hf963
  have hf989 := (ho970 q817 hn832.symm).trans hf966
  have hf990 := (ho970 q902 hn917.symm).trans hf908
  refine lv_aload_n hx hb dX11_init_152 rfl (lv_at hl 0 rfl) ?_
  refine lv_bipush (v := 20) hx hb dX11_init_153 (by decide) ?_
  refine pl_newa (atype := .long) (ty := .long) (N' := 20) (a0 := (20, .inr (.inl (fun _ => 0)))) hx hb (hts _ (mT wg_403)) rfl hG.1 hP hD hS hA 1 rfl (fun _ h => h) (fun _ => rfl) (by decide) (by decide) (Nat.le_of_ble_eq_true rfl) (Nat.le_of_ble_eq_true rfl) (Nat.le_of_ble_eq_true rfl) dX11_init_155 (fun q991 H L992 f993 hq994 hs995 hm996 hf997 ho998 hP hD hS => ?_)
  have hN999 : [q991, q902, q817, q736, q659, q586, q517, q452, q391, q334, q281, q232, q187, q146, q109, q76, q47, q22, q1].Nodup := List.nodup_cons.mpr ⟨fun h => hq994 (hNs911 _ h), hN910⟩
  have hNs1000 : ∀ b, b ∈ [q991, q902, q817, q736, q659, q586, q517, q452, q391, q334, q281, q232, q187, q146, q109, q76, q47, q22, q1] → b ∈ L992 := List.forall_mem_cons.mpr ⟨hm996, fun b hb => hs995 b (hNs911 b hb)⟩
  have hfr1001 : ∀ b, b ∈ L → b ≠ mo → f993 b = f b := fun b hb z0 => (ho998 b (hsb913 b hb)).trans (hfr972 b hb z0)
  have hnq1003 : q991 ∉ L := fun h => hq994 (hsb913 _ h)
  have hsb1002 : ∀ b, b ∈ L → b ∈ _ := fun b hb => hs995 b (hsb913 b hb)
  have hf1004 := (ho998 mo hm916).trans hf971
  have hn1006 : mo ≠ q991 := fun e => hq994 (e ▸ hm916)
  have hm1005 := hs995 _ hm916
  have hf1007 := (ho998 q1 hm919).trans hf973
  have hn1009 : q1 ≠ q991 := fun e => hq994 (e ▸ hm919)
  have hm1008 := hs995 _ hm919
  have hf1010 := (ho998 q22 hm922).trans hf974
  have hn1012 : q22 ≠ q991 := fun e => hq994 (e ▸ hm922)
  have hm1011 := hs995 _ hm922
  have hf1013 := (ho998 q47 hm925).trans hf975
  have hn1015 : q47 ≠ q991 := fun e => hq994 (e ▸ hm925)
  have hm1014 := hs995 _ hm925
  have hf1016 := (ho998 q76 hm928).trans hf976
  have hn1018 : q76 ≠ q991 := fun e => hq994 (e ▸ hm928)
  have hm1017 := hs995 _ hm928
  have hf1019 := (ho998 q109 hm931).trans hf977
  have hn1021 : q109 ≠ q991 := fun e => hq994 (e ▸ hm931)
  have hm1020 := hs995 _ hm931
  have hf1022 := (ho998 q146 hm934).trans hf978
  have hn1024 : q146 ≠ q991 := fun e => hq994 (e ▸ hm934)
  have hm1023 := hs995 _ hm934
  have hf1025 := (ho998 q187 hm937).trans hf979
  have hn1027 : q187 ≠ q991 := fun e => hq994 (e ▸ hm937)
  have hm1026 := hs995 _ hm937
  have hf1028 := (ho998 q232 hm940).trans hf980
  have hn1030 : q232 ≠ q991 := fun e => hq994 (e ▸ hm940)
  have hm1029 := hs995 _ hm940
  have hf1031 := (ho998 q281 hm943).trans hf981
  have hn1033 : q281 ≠ q991 := fun e => hq994 (e ▸ hm943)
  have hm1032 := hs995 _ hm943
  have hf1034 := (ho998 q334 hm946).trans hf982
  have hn1036 : q334 ≠ q991 := fun e => hq994 (e ▸ hm946)
  have hm1035 := hs995 _ hm946
  have hf1037 := (ho998 q391 hm949).trans hf983
  have hn1039 : q391 ≠ q991 := fun e => hq994 (e ▸ hm949)
  have hm1038 := hs995 _ hm949
  have hf1040 := (ho998 q452 hm952).trans hf984
  have hn1042 : q452 ≠ q991 := fun e => hq994 (e ▸ hm952)
  have hm1041 := hs995 _ hm952
  have hf1043 := (ho998 q517 hm955).trans hf985
  have hn1045 : q517 ≠ q991 := fun e => hq994 (e ▸ hm955)
  have hm1044 := hs995 _ hm955
  have hf1046 := (ho998 q586 hm958).trans hf986
  have hn1048 : q586 ≠ q991 := fun e => hq994 (e ▸ hm958)
  have hm1047 := hs995 _ hm958
  have hf1049 := (ho998 q659 hm961).trans hf987
  have hn1051 : q659 ≠ q991 := fun e => hq994 (e ▸ hm961)
  have hm1050 := hs995 _ hm961
  have hf1052 := (ho998 q736 hm964).trans hf988
  have hn1054 : q736 ≠ q991 := fun e => hq994 (e ▸ hm964)
  have hm1053 := hs995 _ hm964
  have hf1055 := (ho998 q817 hm967).trans hf989
  have hn1057 : q817 ≠ q991 := fun e => hq994 (e ▸ hm967)
  have hm1056 := hs995 _ hm967
  have hf1058 := (ho998 q902 hm907).trans hf990
  have hn1060 : q902 ≠ q991 := fun e => hq994 (e ▸ hm907)
  have hm1059 := hs995 _ hm907
  refine pl_putF (ty := (.array .long)) (v := .ref q991) (fs' := [.int 0, .ref q1, .int 0, .int 0, .int 0, .int 0, .int 0, .ref q22, .int 0, .int 0, .ref q47, .ref q76, .int 0, .int 0, .int 0, .int 0, .int 0, .int 0, .int 0, .int 0, .int 0, .long 0, .long 0, .int 0, .ref q109, .int 0, .ref q146, .ref q187, .ref q232, .ref q281, .ref q334, .ref q391, .ref q452, .ref q517, .ref q586, .ref q659, .int 0, .int 0, .int 0, .int 0, .int 0, .ref q736, .ref q817, .ref q902, .ref q991, .long 0, .long 0, .int 0, .int 0, .null, .int 0, .int 0, .null, .int 0, .null, .int 0]) hx hb hts (fun w h => mT (inX11 w h)) tyX11 tyX11_ok nmX11 hown hG.1 hP hD hS hm1005 hf1004 rfl 44 (by decide) (hts _ (mT wg_1380)) (fun _ h => h) rfl hnm rfl (by decide +kernel) (rfl) (rfl) (Nat.le_of_ble_eq_true rfl) rfl dX11_init_157 (fun H locs f1061 hf1063 ho1062 hP hD hS => ?_)
  have hfr1064 : ∀ b, b ∈ L → b ≠ mo → f1061 b = f b := fun b hb z0 => (ho1062 b z0).trans (hfr1001 b hb z0)
  have hf1065 := (ho1062 q1 hn16.symm).trans hf1007
  have hf1066 := (ho1062 q22 hn37.symm).trans hf1010
  have hf1067 := (ho1062 q47 hn62.symm).trans hf1013
  have hf1068 := (ho1062 q76 hn91.symm).trans hf1016
  have hf1069 := (ho1062 q109 hn124.symm).trans hf1019
  have hf1070 := (ho1062 q146 hn161.symm).trans hf1022
  have hf1071 := (ho1062 q187 hn202.symm).trans hf1025
  have hf1072 := (ho1062 q232 hn247.symm).trans hf1028
  have hf1073 := (ho1062 q281 hn296.symm).trans hf1031
  have hf1074 := (ho1062 q334 hn349.symm).trans hf1034
  have hf1075 := (ho1062 q391 hn406.symm).trans hf1037
  have hf1076 := (ho1062 q452 hn467.symm).trans hf1040
  have hf1077 := (ho1062 q517 hn532.symm).trans hf1043
  have hf1078 := (ho1062 q586 hn601.symm).trans hf1046
  have hf1079 := (ho1062 q659 hn674.symm).trans hf1049
  have hf1080 := (ho1062 q736 hn751.symm).trans hf1052
  have hf1081 := (ho1062 q817 hn832.symm).trans hf1055
  have hf1082 := (ho1062 q902 hn917.symm).trans hf1058
  have hf1083 := (ho1062 q991 hn1006.symm).trans hf997
  refine lv_aload_n hx hb dX11_init_160 rfl (lv_at hl 0 rfl) ?_
  refine lv_iconst (v := 5) hx hb dX11_init_161 (by decide) ?_
  refine pl_newa (atype := .int) (ty := .int) (N' := 5) (a0 := (5, .inl (fun _ => 0))) hx hb (hts _ (mT wg_217)) rfl hG.1 hP hD hS hA 0 rfl (fun _ h => h) (fun _ => rfl) (by decide) (by decide) (Nat.le_of_ble_eq_true rfl) (Nat.le_of_ble_eq_true rfl) (Nat.le_of_ble_eq_true rfl) dX11_init_162 (fun q1084 H L1085 f1086 hq1087 hs1088 hm1089 hf1090 ho1091 hP hD hS => ?_)
  have hN1092 : [q1084, q991, q902, q817, q736, q659, q586, q517, q452, q391, q334, q281, q232, q187, q146, q109, q76, q47, q22, q1].Nodup := List.nodup_cons.mpr ⟨fun h => hq1087 (hNs1000 _ h), hN999⟩
  have hNs1093 : ∀ b, b ∈ [q1084, q991, q902, q817, q736, q659, q586, q517, q452, q391, q334, q281, q232, q187, q146, q109, q76, q47, q22, q1] → b ∈ L1085 := List.forall_mem_cons.mpr ⟨hm1089, fun b hb => hs1088 b (hNs1000 b hb)⟩
  have hfr1094 : ∀ b, b ∈ L → b ≠ mo → f1086 b = f b := fun b hb z0 => (ho1091 b (hsb1002 b hb)).trans (hfr1064 b hb z0)
  have hnq1096 : q1084 ∉ L := fun h => hq1087 (hsb1002 _ h)
  have hsb1095 : ∀ b, b ∈ L → b ∈ _ := fun b hb => hs1088 b (hsb1002 b hb)
  have hf1097 := (ho1091 mo hm1005).trans hf1063
  have hn1099 : mo ≠ q1084 := fun e => hq1087 (e ▸ hm1005)
  have hm1098 := hs1088 _ hm1005
  have hf1100 := (ho1091 q1 hm1008).trans hf1065
  have hn1102 : q1 ≠ q1084 := fun e => hq1087 (e ▸ hm1008)
  have hm1101 := hs1088 _ hm1008
  have hf1103 := (ho1091 q22 hm1011).trans hf1066
  have hn1105 : q22 ≠ q1084 := fun e => hq1087 (e ▸ hm1011)
  have hm1104 := hs1088 _ hm1011
  have hf1106 := (ho1091 q47 hm1014).trans hf1067
  have hn1108 : q47 ≠ q1084 := fun e => hq1087 (e ▸ hm1014)
  have hm1107 := hs1088 _ hm1014
  have hf1109 := (ho1091 q76 hm1017).trans hf1068
  have hn1111 : q76 ≠ q1084 := fun e => hq1087 (e ▸ hm1017)
  have hm1110 := hs1088 _ hm1017
  have hf1112 := (ho1091 q109 hm1020).trans hf1069
  have hn1114 : q109 ≠ q1084 := fun e => hq1087 (e ▸ hm1020)
  have hm1113 := hs1088 _ hm1020
  have hf1115 := (ho1091 q146 hm1023).trans hf1070
  have hn1117 : q146 ≠ q1084 := fun e => hq1087 (e ▸ hm1023)
  have hm1116 := hs1088 _ hm1023
  have hf1118 := (ho1091 q187 hm1026).trans hf1071
  have hn1120 : q187 ≠ q1084 := fun e => hq1087 (e ▸ hm1026)
  have hm1119 := hs1088 _ hm1026
  have hf1121 := (ho1091 q232 hm1029).trans hf1072
  have hn1123 : q232 ≠ q1084 := fun e => hq1087 (e ▸ hm1029)
  have hm1122 := hs1088 _ hm1029
  have hf1124 := (ho1091 q281 hm1032).trans hf1073
  have hn1126 : q281 ≠ q1084 := fun e => hq1087 (e ▸ hm1032)
  have hm1125 := hs1088 _ hm1032
  have hf1127 := (ho1091 q334 hm1035).trans hf1074
  have hn1129 : q334 ≠ q1084 := fun e => hq1087 (e ▸ hm1035)
  have hm1128 := hs1088 _ hm1035
  have hf1130 := (ho1091 q391 hm1038).trans hf1075
  have hn1132 : q391 ≠ q1084 := fun e => hq1087 (e ▸ hm1038)
  have hm1131 := hs1088 _ hm1038
  have hf1133 := (ho1091 q452 hm1041).trans hf1076
  have hn1135 : q452 ≠ q1084 := fun e => hq1087 (e ▸ hm1041)
  have hm1134 := hs1088 _ hm1041
  have hf1136 := (ho1091 q517 hm1044).trans hf1077
  have hn1138 : q517 ≠ q1084 := fun e => hq1087 (e ▸ hm1044)
  have hm1137 := hs1088 _ hm1044
  have hf1139 := (ho1091 q586 hm1047).trans hf1078
  have hn1141 : q586 ≠ q1084 := fun e => hq1087 (e ▸ hm1047)
  have hm1140 := hs1088 _ hm1047
  have hf1142 := (ho1091 q659 hm1050).trans hf1079
  have hn1144 : q659 ≠ q1084 := fun e => hq1087 (e ▸ hm1050)
  have hm1143 := hs1088 _ hm1050
  have hf1145 := (ho1091 q736 hm1053).trans hf1080
  have hn1147 : q736 ≠ q1084 := fun e => hq1087 (e ▸ hm1053)
  have hm1146 := hs1088 _ hm1053
  have hf1148 := (ho1091 q817 hm1056).trans hf1081
  have hn1150 : q817 ≠ q1084 := fun e => hq1087 (e ▸ hm1056)
  have hm1149 := hs1088 _ hm1056
  have hf1151 := (ho1091 q902 hm1059).trans hf1082
  have hn1153 : q902 ≠ q1084 := fun e => hq1087 (e ▸ hm1059)
  have hm1152 := hs1088 _ hm1059
  have hf1154 := (ho1091 q991 hm996).trans hf1083
  have hn1156 : q991 ≠ q1084 := fun e => hq1087 (e ▸ hm996)
  have hm1155 := hs1088 _ hm996
  refine pl_putF (ty := (.array .int)) (v := .ref q1084) (fs' := [.int 0, .ref q1, .int 0, .int 0, .int 0, .int 0, .int 0, .ref q22, .int 0, .int 0, .ref q47, .ref q76, .int 0, .int 0, .int 0, .int 0, .int 0, .int 0, .int 0, .int 0, .int 0, .long 0, .long 0, .int 0, .ref q109, .int 0, .ref q146, .ref q187, .ref q232, .ref q281, .ref q334, .ref q391, .ref q452, .ref q517, .ref q586, .ref q659, .int 0, .int 0, .int 0, .int 0, .int 0, .ref q736, .ref q817, .ref q902, .ref q991, .long 0, .long 0, .int 0, .int 0, .ref q1084, .int 0, .int 0, .null, .int 0, .null, .int 0]) hx hb hts (fun w h => mT (inX11 w h)) tyX11 tyX11_ok nmX11 hown hG.1 hP hD hS hm1098 hf1097 rfl 49 (by decide) (hts _ (mT wg_1385)) (fun _ h => h) rfl hnm rfl (by decide +kernel) (rfl) (rfl) (Nat.le_of_ble_eq_true rfl) rfl dX11_init_164 (fun H locs f1157 hf1159 ho1158 hP hD hS => ?_)
  have hfr1160 : ∀ b, b ∈ L → b ≠ mo → f1157 b = f b := fun b hb z0 => (ho1158 b z0).trans (hfr1094 b hb z0)
  have hf1161 := (ho1158 q1 hn16.symm).trans hf1100
  have hf1162 := (ho1158 q22 hn37.symm).trans hf1103
  have hf1163 := (ho1158 q47 hn62.symm).trans hf1106
  have hf1164 := (ho1158 q76 hn91.symm).trans hf1109
  have hf1165 := (ho1158 q109 hn124.symm).trans hf1112
  have hf1166 := (ho1158 q146 hn161.symm).trans hf1115
  have hf1167 := (ho1158 q187 hn202.symm).trans hf1118
  have hf1168 := (ho1158 q232 hn247.symm).trans hf1121
  have hf1169 := (ho1158 q281 hn296.symm).trans hf1124
  have hf1170 := (ho1158 q334 hn349.symm).trans hf1127
  have hf1171 := (ho1158 q391 hn406.symm).trans hf1130
  have hf1172 := (ho1158 q452 hn467.symm).trans hf1133
  have hf1173 := (ho1158 q517 hn532.symm).trans hf1136
  have hf1174 := (ho1158 q586 hn601.symm).trans hf1139
  have hf1175 := (ho1158 q659 hn674.symm).trans hf1142
  have hf1176 := (ho1158 q736 hn751.symm).trans hf1145
  have hf1177 := (ho1158 q817 hn832.symm).trans hf1148
  have hf1178 := (ho1158 q902 hn917.symm).trans hf1151
  have hf1179 := (ho1158 q991 hn1006.symm).trans hf1154
  have hf1180 := (ho1158 q1084 hn1099.symm).trans hf1090
  refine lv_aload_n hx hb dX11_init_167 rfl (lv_at hl 0 rfl) ?_
  refine lv_sipush (v := 400) hx hb dX11_init_168 (by decide) ?_
  refine pl_newa (atype := .int) (ty := .int) (N' := 400) (a0 := (400, .inl (fun _ => 0))) hx hb (hts _ (mT wg_217)) rfl hG.1 hP hD hS hA 0 rfl (fun _ h => h) (fun _ => rfl) (by decide) (by decide) (Nat.le_of_ble_eq_true rfl) (Nat.le_of_ble_eq_true rfl) (Nat.le_of_ble_eq_true rfl) dX11_init_171 (fun q1181 H L1182 f1183 hq1184 hs1185 hm1186 hf1187 ho1188 hP hD hS => ?_)
  have hN1189 : [q1181, q1084, q991, q902, q817, q736, q659, q586, q517, q452, q391, q334, q281, q232, q187, q146, q109, q76, q47, q22, q1].Nodup := List.nodup_cons.mpr ⟨fun h => hq1184 (hNs1093 _ h), hN1092⟩
  have hNs1190 : ∀ b, b ∈ [q1181, q1084, q991, q902, q817, q736, q659, q586, q517, q452, q391, q334, q281, q232, q187, q146, q109, q76, q47, q22, q1] → b ∈ L1182 := List.forall_mem_cons.mpr ⟨hm1186, fun b hb => hs1185 b (hNs1093 b hb)⟩
  have hfr1191 : ∀ b, b ∈ L → b ≠ mo → f1183 b = f b := fun b hb z0 => (ho1188 b (hsb1095 b hb)).trans (hfr1160 b hb z0)
  have hnq1193 : q1181 ∉ L := fun h => hq1184 (hsb1095 _ h)
  have hsb1192 : ∀ b, b ∈ L → b ∈ _ := fun b hb => hs1185 b (hsb1095 b hb)
  have hf1194 := (ho1188 mo hm1098).trans hf1159
  have hn1196 : mo ≠ q1181 := fun e => hq1184 (e ▸ hm1098)
  have hm1195 := hs1185 _ hm1098
  have hf1197 := (ho1188 q1 hm1101).trans hf1161
  have hn1199 : q1 ≠ q1181 := fun e => hq1184 (e ▸ hm1101)
  have hm1198 := hs1185 _ hm1101
  have hf1200 := (ho1188 q22 hm1104).trans hf1162
  have hn1202 : q22 ≠ q1181 := fun e => hq1184 (e ▸ hm1104)
  have hm1201 := hs1185 _ hm1104
  have hf1203 := (ho1188 q47 hm1107).trans hf1163
  have hn1205 : q47 ≠ q1181 := fun e => hq1184 (e ▸ hm1107)
  have hm1204 := hs1185 _ hm1107
  have hf1206 := (ho1188 q76 hm1110).trans hf1164
  have hn1208 : q76 ≠ q1181 := fun e => hq1184 (e ▸ hm1110)
  have hm1207 := hs1185 _ hm1110
  have hf1209 := (ho1188 q109 hm1113).trans hf1165
  have hn1211 : q109 ≠ q1181 := fun e => hq1184 (e ▸ hm1113)
  have hm1210 := hs1185 _ hm1113
  have hf1212 := (ho1188 q146 hm1116).trans hf1166
  have hn1214 : q146 ≠ q1181 := fun e => hq1184 (e ▸ hm1116)
  have hm1213 := hs1185 _ hm1116
  have hf1215 := (ho1188 q187 hm1119).trans hf1167
  have hn1217 : q187 ≠ q1181 := fun e => hq1184 (e ▸ hm1119)
  have hm1216 := hs1185 _ hm1119
  have hf1218 := (ho1188 q232 hm1122).trans hf1168
  have hn1220 : q232 ≠ q1181 := fun e => hq1184 (e ▸ hm1122)
  have hm1219 := hs1185 _ hm1122
  have hf1221 := (ho1188 q281 hm1125).trans hf1169
  have hn1223 : q281 ≠ q1181 := fun e => hq1184 (e ▸ hm1125)
  have hm1222 := hs1185 _ hm1125
  have hf1224 := (ho1188 q334 hm1128).trans hf1170
  have hn1226 : q334 ≠ q1181 := fun e => hq1184 (e ▸ hm1128)
  have hm1225 := hs1185 _ hm1128
  have hf1227 := (ho1188 q391 hm1131).trans hf1171
  have hn1229 : q391 ≠ q1181 := fun e => hq1184 (e ▸ hm1131)
  have hm1228 := hs1185 _ hm1131
  have hf1230 := (ho1188 q452 hm1134).trans hf1172
  have hn1232 : q452 ≠ q1181 := fun e => hq1184 (e ▸ hm1134)
  have hm1231 := hs1185 _ hm1134
  have hf1233 := (ho1188 q517 hm1137).trans hf1173
  have hn1235 : q517 ≠ q1181 := fun e => hq1184 (e ▸ hm1137)
  have hm1234 := hs1185 _ hm1137
  have hf1236 := (ho1188 q586 hm1140).trans hf1174
  have hn1238 : q586 ≠ q1181 := fun e => hq1184 (e ▸ hm1140)
  have hm1237 := hs1185 _ hm1140
  have hf1239 := (ho1188 q659 hm1143).trans hf1175
  have hn1241 : q659 ≠ q1181 := fun e => hq1184 (e ▸ hm1143)
  have hm1240 := hs1185 _ hm1143
  have hf1242 := (ho1188 q736 hm1146).trans hf1176
  have hn1244 : q736 ≠ q1181 := fun e => hq1184 (e ▸ hm1146)
  have hm1243 := hs1185 _ hm1146
  have hf1245 := (ho1188 q817 hm1149).trans hf1177
  have hn1247 : q817 ≠ q1181 := fun e => hq1184 (e ▸ hm1149)
  have hm1246 := hs1185 _ hm1149
  have hf1248 := (ho1188 q902 hm1152).trans hf1178
  have hn1250 : q902 ≠ q1181 := fun e => hq1184 (e ▸ hm1152)
  have hm1249 := hs1185 _ hm1152
  have hf1251 := (ho1188 q991 hm1155).trans hf1179
  have hn1253 : q991 ≠ q1181 := fun e => hq1184 (e ▸ hm1155)
  have hm1252 := hs1185 _ hm1155
  have hf1254 := (ho1188 q1084 hm1089).trans hf1180
  have hn1256 : q1084 ≠ q1181 := fun e => hq1184 (e ▸ hm1089)
  have hm1255 := hs1185 _ hm1089
  refine pl_putF (ty := (.array .int)) (v := .ref q1181) (fs' := [.int 0, .ref q1, .int 0, .int 0, .int 0, .int 0, .int 0, .ref q22, .int 0, .int 0, .ref q47, .ref q76, .int 0, .int 0, .int 0, .int 0, .int 0, .int 0, .int 0, .int 0, .int 0, .long 0, .long 0, .int 0, .ref q109, .int 0, .ref q146, .ref q187, .ref q232, .ref q281, .ref q334, .ref q391, .ref q452, .ref q517, .ref q586, .ref q659, .int 0, .int 0, .int 0, .int 0, .int 0, .ref q736, .ref q817, .ref q902, .ref q991, .long 0, .long 0, .int 0, .int 0, .ref q1084, .int 0, .int 0, .ref q1181, .int 0, .null, .int 0]) hx hb hts (fun w h => mT (inX11 w h)) tyX11 tyX11_ok nmX11 hown hG.1 hP hD hS hm1195 hf1194 rfl 52 (by decide) (hts _ (mT wg_1388)) (fun _ h => h) rfl hnm rfl (by decide +kernel) (rfl) (rfl) (Nat.le_of_ble_eq_true rfl) rfl dX11_init_173 (fun H locs f1257 hf1259 ho1258 hP hD hS => ?_)
  have hfr1260 : ∀ b, b ∈ L → b ≠ mo → f1257 b = f b := fun b hb z0 => (ho1258 b z0).trans (hfr1191 b hb z0)
  have hf1261 := (ho1258 q1 hn16.symm).trans hf1197
  have hf1262 := (ho1258 q22 hn37.symm).trans hf1200
  have hf1263 := (ho1258 q47 hn62.symm).trans hf1203
  have hf1264 := (ho1258 q76 hn91.symm).trans hf1206
  have hf1265 := (ho1258 q109 hn124.symm).trans hf1209
  have hf1266 := (ho1258 q146 hn161.symm).trans hf1212
  have hf1267 := (ho1258 q187 hn202.symm).trans hf1215
  have hf1268 := (ho1258 q232 hn247.symm).trans hf1218
  have hf1269 := (ho1258 q281 hn296.symm).trans hf1221
  have hf1270 := (ho1258 q334 hn349.symm).trans hf1224
  have hf1271 := (ho1258 q391 hn406.symm).trans hf1227
  have hf1272 := (ho1258 q452 hn467.symm).trans hf1230
  have hf1273 := (ho1258 q517 hn532.symm).trans hf1233
  have hf1274 := (ho1258 q586 hn601.symm).trans hf1236
  have hf1275 := (ho1258 q659 hn674.symm).trans hf1239
  have hf1276 := (ho1258 q736 hn751.symm).trans hf1242
  have hf1277 := (ho1258 q817 hn832.symm).trans hf1245
  have hf1278 := (ho1258 q902 hn917.symm).trans hf1248
  have hf1279 := (ho1258 q991 hn1006.symm).trans hf1251
  have hf1280 := (ho1258 q1084 hn1099.symm).trans hf1254
  have hf1281 := (ho1258 q1181 hn1196.symm).trans hf1187
  refine lv_aload_n hx hb dX11_init_176 rfl (lv_at hl 0 rfl) ?_
  refine lv_sipush (v := 200) hx hb dX11_init_177 (by decide) ?_
  refine pl_newa (atype := .int) (ty := .int) (N' := 200) (a0 := (200, .inl (fun _ => 0))) hx hb (hts _ (mT wg_217)) rfl hG.1 hP hD hS hA 0 rfl (fun _ h => h) (fun _ => rfl) (by decide) (by decide) (Nat.le_of_ble_eq_true rfl) (Nat.le_of_ble_eq_true rfl) (Nat.le_of_ble_eq_true rfl) dX11_init_180 (fun q1282 H L1283 f1284 hq1285 hs1286 hm1287 hf1288 ho1289 hP hD hS => ?_)
  have hN1290 : [q1282, q1181, q1084, q991, q902, q817, q736, q659, q586, q517, q452, q391, q334, q281, q232, q187, q146, q109, q76, q47, q22, q1].Nodup := List.nodup_cons.mpr ⟨fun h => hq1285 (hNs1190 _ h), hN1189⟩
  have hNs1291 : ∀ b, b ∈ [q1282, q1181, q1084, q991, q902, q817, q736, q659, q586, q517, q452, q391, q334, q281, q232, q187, q146, q109, q76, q47, q22, q1] → b ∈ L1283 := List.forall_mem_cons.mpr ⟨hm1287, fun b hb => hs1286 b (hNs1190 b hb)⟩
  have hfr1292 : ∀ b, b ∈ L → b ≠ mo → f1284 b = f b := fun b hb z0 => (ho1289 b (hsb1192 b hb)).trans (hfr1260 b hb z0)
  have hnq1294 : q1282 ∉ L := fun h => hq1285 (hsb1192 _ h)
  have hsb1293 : ∀ b, b ∈ L → b ∈ _ := fun b hb => hs1286 b (hsb1192 b hb)
  have hf1295 := (ho1289 mo hm1195).trans hf1259
  have hn1297 : mo ≠ q1282 := fun e => hq1285 (e ▸ hm1195)
  have hm1296 := hs1286 _ hm1195
  have hf1298 := (ho1289 q1 hm1198).trans hf1261
  have hn1300 : q1 ≠ q1282 := fun e => hq1285 (e ▸ hm1198)
  have hm1299 := hs1286 _ hm1198
  have hf1301 := (ho1289 q22 hm1201).trans hf1262
  have hn1303 : q22 ≠ q1282 := fun e => hq1285 (e ▸ hm1201)
  have hm1302 := hs1286 _ hm1201
  have hf1304 := (ho1289 q47 hm1204).trans hf1263
  have hn1306 : q47 ≠ q1282 := fun e => hq1285 (e ▸ hm1204)
  have hm1305 := hs1286 _ hm1204
  have hf1307 := (ho1289 q76 hm1207).trans hf1264
  have hn1309 : q76 ≠ q1282 := fun e => hq1285 (e ▸ hm1207)
  have hm1308 := hs1286 _ hm1207
  have hf1310 := (ho1289 q109 hm1210).trans hf1265
  have hn1312 : q109 ≠ q1282 := fun e => hq1285 (e ▸ hm1210)
  have hm1311 := hs1286 _ hm1210
  have hf1313 := (ho1289 q146 hm1213).trans hf1266
  have hn1315 : q146 ≠ q1282 := fun e => hq1285 (e ▸ hm1213)
  have hm1314 := hs1286 _ hm1213
  have hf1316 := (ho1289 q187 hm1216).trans hf1267
  have hn1318 : q187 ≠ q1282 := fun e => hq1285 (e ▸ hm1216)
  have hm1317 := hs1286 _ hm1216
  have hf1319 := (ho1289 q232 hm1219).trans hf1268
  have hn1321 : q232 ≠ q1282 := fun e => hq1285 (e ▸ hm1219)
  have hm1320 := hs1286 _ hm1219
  have hf1322 := (ho1289 q281 hm1222).trans hf1269
  have hn1324 : q281 ≠ q1282 := fun e => hq1285 (e ▸ hm1222)
  have hm1323 := hs1286 _ hm1222
  have hf1325 := (ho1289 q334 hm1225).trans hf1270
  have hn1327 : q334 ≠ q1282 := fun e => hq1285 (e ▸ hm1225)
  have hm1326 := hs1286 _ hm1225
  have hf1328 := (ho1289 q391 hm1228).trans hf1271
  have hn1330 : q391 ≠ q1282 := fun e => hq1285 (e ▸ hm1228)
  have hm1329 := hs1286 _ hm1228
  have hf1331 := (ho1289 q452 hm1231).trans hf1272
  have hn1333 : q452 ≠ q1282 := fun e => hq1285 (e ▸ hm1231)
  have hm1332 := hs1286 _ hm1231
  have hf1334 := (ho1289 q517 hm1234).trans hf1273
  have hn1336 : q517 ≠ q1282 := fun e => hq1285 (e ▸ hm1234)
  have hm1335 := hs1286 _ hm1234
  have hf1337 := (ho1289 q586 hm1237).trans hf1274
  have hn1339 : q586 ≠ q1282 := fun e => hq1285 (e ▸ hm1237)
  have hm1338 := hs1286 _ hm1237
  have hf1340 := (ho1289 q659 hm1240).trans hf1275
  have hn1342 : q659 ≠ q1282 := fun e => hq1285 (e ▸ hm1240)
  have hm1341 := hs1286 _ hm1240
  have hf1343 := (ho1289 q736 hm1243).trans hf1276
  have hn1345 : q736 ≠ q1282 := fun e => hq1285 (e ▸ hm1243)
  have hm1344 := hs1286 _ hm1243
  have hf1346 := (ho1289 q817 hm1246).trans hf1277
  have hn1348 : q817 ≠ q1282 := fun e => hq1285 (e ▸ hm1246)
  have hm1347 := hs1286 _ hm1246
  have hf1349 := (ho1289 q902 hm1249).trans hf1278
  have hn1351 : q902 ≠ q1282 := fun e => hq1285 (e ▸ hm1249)
  have hm1350 := hs1286 _ hm1249
  have hf1352 := (ho1289 q991 hm1252).trans hf1279
  have hn1354 : q991 ≠ q1282 := fun e => hq1285 (e ▸ hm1252)
  have hm1353 := hs1286 _ hm1252
  have hf1355 := (ho1289 q1084 hm1255).trans hf1280
  have hn1357 : q1084 ≠ q1282 := fun e => hq1285 (e ▸ hm1255)
  have hm1356 := hs1286 _ hm1255
  have hf1358 := (ho1289 q1181 hm1186).trans hf1281
  have hn1360 : q1181 ≠ q1282 := fun e => hq1285 (e ▸ hm1186)
  have hm1359 := hs1286 _ hm1186
  refine pl_putF (ty := (.array .int)) (v := .ref q1282) (fs' := [.int 0, .ref q1, .int 0, .int 0, .int 0, .int 0, .int 0, .ref q22, .int 0, .int 0, .ref q47, .ref q76, .int 0, .int 0, .int 0, .int 0, .int 0, .int 0, .int 0, .int 0, .int 0, .long 0, .long 0, .int 0, .ref q109, .int 0, .ref q146, .ref q187, .ref q232, .ref q281, .ref q334, .ref q391, .ref q452, .ref q517, .ref q586, .ref q659, .int 0, .int 0, .int 0, .int 0, .int 0, .ref q736, .ref q817, .ref q902, .ref q991, .long 0, .long 0, .int 0, .int 0, .ref q1084, .int 0, .int 0, .ref q1181, .int 0, .ref q1282, .int 0]) hx hb hts (fun w h => mT (inX11 w h)) tyX11 tyX11_ok nmX11 hown hG.1 hP hD hS hm1296 hf1295 rfl 54 (by decide) (hts _ (mT wg_1390)) (fun _ h => h) rfl hnm rfl (by decide +kernel) (rfl) (rfl) (Nat.le_of_ble_eq_true rfl) rfl dX11_init_182 (fun H locs f1361 hf1363 ho1362 hP hD hS => ?_)
  have hfr1364 : ∀ b, b ∈ L → b ≠ mo → f1361 b = f b := fun b hb z0 => (ho1362 b z0).trans (hfr1292 b hb z0)
  have hf1365 := (ho1362 q1 hn16.symm).trans hf1298
  have hf1366 := (ho1362 q22 hn37.symm).trans hf1301
  have hf1367 := (ho1362 q47 hn62.symm).trans hf1304
  have hf1368 := (ho1362 q76 hn91.symm).trans hf1307
  have hf1369 := (ho1362 q109 hn124.symm).trans hf1310
  have hf1370 := (ho1362 q146 hn161.symm).trans hf1313
  have hf1371 := (ho1362 q187 hn202.symm).trans hf1316
  have hf1372 := (ho1362 q232 hn247.symm).trans hf1319
  have hf1373 := (ho1362 q281 hn296.symm).trans hf1322
  have hf1374 := (ho1362 q334 hn349.symm).trans hf1325
  have hf1375 := (ho1362 q391 hn406.symm).trans hf1328
  have hf1376 := (ho1362 q452 hn467.symm).trans hf1331
  have hf1377 := (ho1362 q517 hn532.symm).trans hf1334
  have hf1378 := (ho1362 q586 hn601.symm).trans hf1337
  have hf1379 := (ho1362 q659 hn674.symm).trans hf1340
  have hf1380 := (ho1362 q736 hn751.symm).trans hf1343
  have hf1381 := (ho1362 q817 hn832.symm).trans hf1346
  have hf1382 := (ho1362 q902 hn917.symm).trans hf1349
  have hf1383 := (ho1362 q991 hn1006.symm).trans hf1352
  have hf1384 := (ho1362 q1084 hn1099.symm).trans hf1355
  have hf1385 := (ho1362 q1181 hn1196.symm).trans hf1358
  have hf1386 := (ho1362 q1282 hn1297.symm).trans hf1288
  exact ret_v hx hb hr hlocks hP hD hS (Nat.le_of_ble_eq_true rfl) (Nat.le_of_ble_eq_true rfl) (⟨q1282, q1181, q1084, q991, q902, q817, q736, q659, q586, q517, q452, q391, q334, q281, q232, q187, q146, q109, q76, q47, q22, q1, hnq1294, hm1287, hf1386, hnq1193, hm1359, hf1385, hnq1096, hm1356, hf1384, hnq1003, hm1353, hf1383, hnq914, hm1350, hf1382, hnq829, hm1347, hf1381, hnq748, hm1344, hf1380, hnq671, hm1341, hf1379, hnq598, hm1338, hf1378, hnq529, hm1335, hf1377, hnq464, hm1332, hf1376, hnq403, hm1329, hf1375, hnq346, hm1326, hf1374, hnq293, hm1323, hf1373, hnq244, hm1320, hf1372, hnq199, hm1317, hf1371, hnq158, hm1314, hf1370, hnq121, hm1311, hf1369, hnq88, hm1308, hf1368, hnq59, hm1305, hf1367, hnq34, hm1302, hf1366, hnq13, hm1299, hf1365, hf1363, hN1290, hfr1364, hsb1293⟩) dX11_init_185
