set_option maxHeartbeats 4000000 in
set_option maxRecDepth 100000 in
theorem k_X8_nextPart (l : Launch) (g : GG) (L : List Nat) (f : HP) (sz : Nat) (t tb : Nat) (z2 : Int32) (z4 : Int32) (hm_t : t ∈ L) (hf_t : f t = .inr (8, [.ref tb, .int 0, .int z2, .int 0, .int z4])) : MtV l g yX8_nextPart cX8_nextPart 3 ({ frames := 0, cells := 0, slots := 0, locals := 0 }) [.ref t] L f sz (fun u => u.2 t = .inr (8, [.ref tb, .int 0, .int 0, .int 0, .int 0]) ∧ (∀ b, b ∈ L → b ≠ t → u.2 b = f b) ∧ (∀ b, b ∈ L → b ∈ u.1)) := by
  refine MtV.of (by decide +kernel) (Nat.le_of_ble_eq_true rfl) ?_
  intro p e s m below meth c A hEn hP hD hS ls hl
  obtain ⟨hx, hb, hr, hml, hown, hlocks, hts, hG, hA, hE, hnm⟩ := hEn
  have hown : s.vm.findClass "RulerWord$Tape" = some m.cls := hown
  have hl : lv_has ls 3 [(0, .ref t)] := hl
  have hfr0 : ∀ b, b ∈ L → b ≠ t → f b = f b := fun b hb z0 => rfl
  have hsb0 : ∀ b, b ∈ L → b ∈ L := fun b hb => hb
  refine lv_aload_n hx hb dX8_nextPart_0 rfl (lv_at hl 0 rfl) ?_
  refine pl_get (v := .int 0) hx hb hts (fun w h => mT (inX8 w h)) hown hG.1 hP hm_t hf_t rfl 3 (by decide) (hts _ (mT wg_202)) (fun _ h => h) rfl dX8_nextPart_1 ?_
  refine lv_istore_n (lv' := [(1, .int 0), (0, .ref t)]) hx hb dX8_nextPart_4 rfl hl (by decide) rfl (fun ls hl => ?_)
  refine lv_iload_n hx hb dX8_nextPart_5 rfl (lv_at hl 0 rfl) ?_
  refine lv_aload_n hx hb dX8_nextPart_6 rfl (lv_at hl 1 rfl) ?_
  refine pl_get (v := .int 0) hx hb hts (fun w h => mT (inX8 w h)) hown hG.1 hP hm_t hf_t rfl 1 (by decide) (hts _ (mT wg_198)) (fun _ h => h) rfl dX8_nextPart_7 ?_
  refine lv_icmp_ge (tgt := 30) hx hb dX8_nextPart_10 (by decide) (fun c1 => ?_) (fun c1 => absurd (by decide) c1)
  refine lv_aload_n hx hb dX8_nextPart_30 rfl (lv_at hl 1 rfl) ?_
  refine lv_iload_n hx hb dX8_nextPart_31 rfl (lv_at hl 0 rfl) ?_
  refine pl_put (ty := .int) (v := .int 0) (fs' := [.ref tb, .int 0, .int 0, .int 0, .int z4]) hx hb hts (fun w h => mT (inX8 w h)) tyX8 tyX8_ok nmX8 hown hG.1 hP hD hS hm_t hf_t rfl 2 (by decide) (hts _ (mT wg_201)) (fun _ h => h) rfl (by decide +kernel) (rfl) (rfl) (Nat.le_of_ble_eq_true rfl) rfl dX8_nextPart_32 (fun H locs f2 hf4 ho3 hP hD hS => ?_)
  have hfr5 : ∀ b, b ∈ L → b ≠ t → f2 b = f b := fun b hb z0 => (ho3 b z0).trans (hfr0 b hb z0)
  refine lv_aload_n hx hb dX8_nextPart_35 rfl (lv_at hl 1 rfl) ?_
  refine lv_iconst (v := 0) hx hb dX8_nextPart_36 (by decide) ?_
  refine pl_put (ty := .int) (v := .int 0) (fs' := [.ref tb, .int 0, .int 0, .int 0, .int 0]) hx hb hts (fun w h => mT (inX8 w h)) tyX8 tyX8_ok nmX8 hown hG.1 hP hD hS hm_t hf4 rfl 4 (by decide) (hts _ (mT wg_205)) (fun _ h => h) rfl (by decide +kernel) (rfl) (rfl) (Nat.le_of_ble_eq_true rfl) rfl dX8_nextPart_37 (fun H locs f6 hf8 ho7 hP hD hS => ?_)
  have hfr9 : ∀ b, b ∈ L → b ≠ t → f6 b = f b := fun b hb z0 => (ho7 b z0).trans (hfr5 b hb z0)
  refine lv_iload_n hx hb dX8_nextPart_40 rfl (lv_at hl 0 rfl) ?_
  refine lv_aload_n hx hb dX8_nextPart_41 rfl (lv_at hl 1 rfl) ?_
  refine pl_get (v := .int 0) hx hb hts (fun w h => mT (inX8 w h)) hown hG.1 hP hm_t hf8 rfl 1 (by decide) (hts _ (mT wg_198)) (fun _ h => h) rfl dX8_nextPart_42 ?_
  refine lv_icmp_ge (tgt := 64) hx hb dX8_nextPart_45 (by decide) (fun c10 => ?_) (fun c10 => absurd (by decide) c10)
  refine lv_aload_n hx hb dX8_nextPart_64 rfl (lv_at hl 1 rfl) ?_
  refine pl_get (v := .int 0) hx hb hts (fun w h => mT (inX8 w h)) hown hG.1 hP hm_t hf8 rfl 4 (by decide) (hts _ (mT wg_205)) (fun _ h => h) rfl dX8_nextPart_65 ?_
  refine lv_iconst (v := 2) hx hb dX8_nextPart_68 (by decide) ?_
  refine lv_icmp_eq (tgt := 80) hx hb dX8_nextPart_69 (by decide) (fun c11 => absurd c11 (by decide)) (fun c11 => ?_)
  refine lv_aload_n hx hb dX8_nextPart_72 rfl (lv_at hl 1 rfl) ?_
  refine pl_get (v := .int 0) hx hb hts (fun w h => mT (inX8 w h)) hown hG.1 hP hm_t hf8 rfl 4 (by decide) (hts _ (mT wg_205)) (fun _ h => h) rfl dX8_nextPart_73 ?_
  refine lv_iconst (v := 3) hx hb dX8_nextPart_76 (by decide) ?_
  refine lv_icmp_ne (tgt := 84) hx hb dX8_nextPart_77 (by decide) (fun c12 => ?_) (fun c12 => absurd c12 (by decide))
  refine lv_iconst (v := 0) hx hb dX8_nextPart_84 (by decide) ?_
  refine lv_istore_n (lv' := [(2, .int 0), (1, .int 0), (0, .ref t)]) hx hb dX8_nextPart_85 rfl hl (by decide) rfl (fun ls hl => ?_)
  refine lv_iload_n hx hb dX8_nextPart_86 rfl (lv_at hl 0 rfl) ?_
  refine lv_if_eq (tgt := 120) hx hb dX8_nextPart_87 (by decide) (fun c13 => ?_) (fun c13 => absurd (by decide) c13)
  refine lv_aload_n hx hb dX8_nextPart_120 rfl (lv_at hl 2 rfl) ?_
  refine lv_iload_n hx hb dX8_nextPart_121 rfl (lv_at hl 1 rfl) ?_
  refine pl_put (ty := .int) (v := .int 0) (fs' := [.ref tb, .int 0, .int 0, .int 0, .int 0]) hx hb hts (fun w h => mT (inX8 w h)) tyX8 tyX8_ok nmX8 hown hG.1 hP hD hS hm_t hf8 rfl 3 (by decide) (hts _ (mT wg_202)) (fun _ h => h) rfl (by decide +kernel) (rfl) (rfl) (Nat.le_of_ble_eq_true rfl) rfl dX8_nextPart_122 (fun H locs f14 hf16 ho15 hP hD hS => ?_)
  have hfr17 : ∀ b, b ∈ L → b ≠ t → f14 b = f b := fun b hb z0 => (ho15 b z0).trans (hfr9 b hb z0)
  exact ret_v hx hb hr hlocks hP hD hS (Nat.le_of_ble_eq_true rfl) (Nat.le_of_ble_eq_true rfl) (⟨hf16, hfr17, hsb0⟩) dX8_nextPart_125

set_option maxHeartbeats 4000000 in
set_option maxRecDepth 100000 in
theorem k_X8_firstPart (l : Launch) (g : GG) (L : List Nat) (f : HP) (sz : Nat) (t tb : Nat) (z2 : Int32) (z3 : Int32) (z4 : Int32) (hm_t : t ∈ L) (hf_t : f t = .inr (8, [.ref tb, .int 0, .int z2, .int z3, .int z4])) : MtV l g yX8_firstPart cX8_firstPart 1 ({ frames := 1, cells := 0, slots := 0, locals := 22 }) [.ref t] L f sz (fun u => u.2 t = .inr (8, [.ref tb, .int 0, .int 0, .int 0, .int 0]) ∧ (∀ b, b ∈ L → b ≠ t → u.2 b = f b) ∧ (∀ b, b ∈ L → b ∈ u.1)) := by
  refine MtV.of (by decide +kernel) (Nat.le_of_ble_eq_true rfl) ?_
  intro p e s m below meth c A hEn hP hD hS ls hl
  obtain ⟨hx, hb, hr, hml, hown, hlocks, hts, hG, hA, hE, hnm⟩ := hEn
  have hown : s.vm.findClass "RulerWord$Tape" = some m.cls := hown
  have hl : lv_has ls 1 [(0, .ref t)] := hl
  have hfr0 : ∀ b, b ∈ L → b ≠ t → f b = f b := fun b hb z0 => rfl
  have hsb0 : ∀ b, b ∈ L → b ∈ L := fun b hb => hb
  refine lv_aload_n hx hb dX8_firstPart_0 rfl (lv_at hl 0 rfl) ?_
  refine lv_iconst (v := 0) hx hb dX8_firstPart_1 (by decide) ?_
  refine pl_put (ty := .int) (v := .int 0) (fs' := [.ref tb, .int 0, .int z2, .int 0, .int z4]) hx hb hts (fun w h => mT (inX8 w h)) tyX8 tyX8_ok nmX8 hown hG.1 hP hD hS hm_t hf_t rfl 3 (by decide) (hts _ (mT wg_202)) (fun _ h => h) rfl (by decide +kernel) (rfl) (rfl) (Nat.le_of_ble_eq_true rfl) rfl dX8_firstPart_2 (fun H locs f1 hf3 ho2 hP hD hS => ?_)
  have hfr4 : ∀ b, b ∈ L → b ≠ t → f1 b = f b := fun b hb z0 => (ho2 b z0).trans (hfr0 b hb z0)
  refine lv_aload_n hx hb dX8_firstPart_5 rfl (lv_at hl 0 rfl) ?_
  refine call_v (run_V (rm := { frames := 0, cells := 0, slots := 0, locals := 0 }) hx hb hml hown hts (k_X8_nextPart l g _ _ _ t tb z2 z4 hm_t hf3) cV_X8_nextPart wg_562 ⟨Nat.le_of_ble_eq_true rfl, Nat.le_of_ble_eq_true rfl⟩ hG hE hA hP hD hS hm_t hf3 rfl rfl hl.1 (As := []) (rest := []) rfl (Nat.le_of_ble_eq_true rfl) dX8_firstPart_6 ⟨Nat.le_of_ble_eq_true rfl, Nat.le_of_ble_eq_true rfl⟩) hA hD hS (fun L6 f7 H locs hp8 hP hD hS => ?_)
  obtain ⟨hf9, fr10, sb11⟩ := hp8
  have hfr12 : ∀ b, b ∈ L → b ≠ t → f7 b = f b := fun b hb z0 => (fr10 b (hsb0 b hb) z0).trans (hfr4 b hb z0)
  have hsb13 : ∀ b, b ∈ L → b ∈ L6 := fun b hb => sb11 b (hsb0 b hb)
  have hm14 := sb11 _ hm_t
  exact ret_v hx hb hr hlocks hP hD hS (Nat.le_of_ble_eq_true rfl) (Nat.le_of_ble_eq_true rfl) (⟨hf9, hfr12, hsb13⟩) dX8_firstPart_9

set_option maxHeartbeats 4000000 in
set_option maxRecDepth 100000 in
theorem k_X8_isWord (l : Launch) (g : GG) (L : List Nat) (f : HP) (sz : Nat) (t sa tb : Nat) (hm_t : t ∈ L) (hf_t : f t = .inr (8, [.ref tb, .int 0, .int 0, .int 0, .int 0])) : MtI l g yX8_isWord cX8_isWord 3 (some .boolean) ({ frames := 0, cells := 0, slots := 0, locals := 0 }) [.ref t, .ref sa] L f sz (fun r u => r = 0 ∧ (∀ b, b ∈ L → u.2 b = f b) ∧ (∀ b, b ∈ L → b ∈ u.1)) := by
  refine MtI.of (by decide +kernel) (Nat.le_of_ble_eq_true rfl) ?_
  intro p e s m below meth c A hEn hP hD hS ls hl
  obtain ⟨hx, hb, hr, hml, hown, hlocks, hts, hG, hA, hE, hnm⟩ := hEn
  have hown : s.vm.findClass "RulerWord$Tape" = some m.cls := hown
  have hl : lv_has ls 3 [(0, .ref t), (1, .ref sa)] := hl
  have hfr0 : ∀ b, b ∈ L → f b = f b := fun b hb  => rfl
  have hsb0 : ∀ b, b ∈ L → b ∈ L := fun b hb => hb
  refine lv_aload_n hx hb dX8_isWord_0 rfl (lv_at hl 0 rfl) ?_
  refine pl_get (v := .int 0) hx hb hts (fun w h => mT (inX8 w h)) hown hG.1 hP hm_t hf_t rfl 4 (by decide) (hts _ (mT wg_205)) (fun _ h => h) rfl dX8_isWord_1 ?_
  refine lv_iconst (v := 2) hx hb dX8_isWord_4 (by decide) ?_
  refine lv_icmp_ne (tgt := 24) hx hb dX8_isWord_5 (by decide) (fun c1 => ?_) (fun c1 => absurd c1 (by decide))
  refine lv_iconst (v := 0) hx hb dX8_isWord_24 (by decide) ?_
  exact ret_i (ty := .boolean) hx hb hr hlocks (rfl) hP hD hS (Nat.le_of_ble_eq_true rfl) (Nat.le_of_ble_eq_true rfl) (⟨rfl, hfr0, hsb0⟩) dX8_isWord_25

set_option maxHeartbeats 4000000 in
set_option maxRecDepth 100000 in
theorem k_X8_digits (l : Launch) (g : GG) (L : List Nat) (f : HP) (sz : Nat) (t tb : Nat) (hm_t : t ∈ L) (hf_t : f t = .inr (8, [.ref tb, .int 0, .int 0, .int 0, .int 0])) : MtI l g yX8_digits cX8_digits 1 (some .int) ({ frames := 0, cells := 0, slots := 0, locals := 0 }) [.ref t] L f sz (fun r u => r = 0 ∧ (∀ b, b ∈ L → u.2 b = f b) ∧ (∀ b, b ∈ L → b ∈ u.1)) := by
  refine MtI.of (by decide +kernel) (Nat.le_of_ble_eq_true rfl) ?_
  intro p e s m below meth c A hEn hP hD hS ls hl
  obtain ⟨hx, hb, hr, hml, hown, hlocks, hts, hG, hA, hE, hnm⟩ := hEn
  have hown : s.vm.findClass "RulerWord$Tape" = some m.cls := hown
  have hl : lv_has ls 1 [(0, .ref t)] := hl
  have hfr0 : ∀ b, b ∈ L → f b = f b := fun b hb  => rfl
  have hsb0 : ∀ b, b ∈ L → b ∈ L := fun b hb => hb
  refine lv_aload_n hx hb dX8_digits_0 rfl (lv_at hl 0 rfl) ?_
  refine pl_get (v := .int 0) hx hb hts (fun w h => mT (inX8 w h)) hown hG.1 hP hm_t hf_t rfl 4 (by decide) (hts _ (mT wg_205)) (fun _ h => h) rfl dX8_digits_1 ?_
  refine lv_iconst (v := 3) hx hb dX8_digits_4 (by decide) ?_
  refine lv_icmp_ne (tgt := 20) hx hb dX8_digits_5 (by decide) (fun c1 => ?_) (fun c1 => absurd c1 (by decide))
  refine lv_iconst (v := 0) hx hb dX8_digits_20 (by decide) ?_
  exact ret_i (ty := .int) hx hb hr hlocks (rfl) hP hD hS (Nat.le_of_ble_eq_true rfl) (Nat.le_of_ble_eq_true rfl) (⟨rfl, hfr0, hsb0⟩) dX8_digits_21

set_option maxHeartbeats 4000000 in
set_option maxRecDepth 100000 in
theorem k_X8_number (l : Launch) (g : GG) (L : List Nat) (f : HP) (sz : Nat) (t tb : Nat) (hm_t : t ∈ L) (hf_t : f t = .inr (8, [.ref tb, .int 0, .int 0, .int 0, .int 0])) : MtI l g yX8_number cX8_number 4 (some .int) ({ frames := 1, cells := 0, slots := 0, locals := 20 }) [.ref t, .int 0, .int 2] L f sz (fun r u => r = (-1) ∧ (∀ b, b ∈ L → u.2 b = f b) ∧ (∀ b, b ∈ L → b ∈ u.1)) := by
  refine MtI.of (by decide +kernel) (Nat.le_of_ble_eq_true rfl) ?_
  intro p e s m below meth c A hEn hP hD hS ls hl
  obtain ⟨hx, hb, hr, hml, hown, hlocks, hts, hG, hA, hE, hnm⟩ := hEn
  have hown : s.vm.findClass "RulerWord$Tape" = some m.cls := hown
  have hl : lv_has ls 4 [(0, .ref t), (1, .int 0), (2, .int 2)] := hl
  have hfr0 : ∀ b, b ∈ L → f b = f b := fun b hb  => rfl
  have hsb0 : ∀ b, b ∈ L → b ∈ L := fun b hb => hb
  refine lv_aload_n hx hb dX8_number_0 rfl (lv_at hl 0 rfl) ?_
  refine call_i (run_V (rm := { frames := 0, cells := 0, slots := 0, locals := 0 }) hx hb hml hown hts (k_X8_digits l g _ _ _ t tb hm_t hf_t) cV_X8_digits wg_651 ⟨Nat.le_of_ble_eq_true rfl, Nat.le_of_ble_eq_true rfl⟩ hG hE hA hP hD hS hm_t hf_t rfl rfl hl.1 (As := []) (rest := []) rfl (Nat.le_of_ble_eq_true rfl) dX8_number_1 ⟨Nat.le_of_ble_eq_true rfl, Nat.le_of_ble_eq_true rfl⟩) hA hD hS (fun r1 L2 f3 H locs hp4 hP hD hS => ?_)
  obtain ⟨er5, fr6, sb7⟩ := hp4
  have hfr8 : ∀ b, b ∈ L → f3 b = f b := fun b hb  => (fr6 b (hsb0 b hb) ).trans (hfr0 b hb )
  have hsb9 : ∀ b, b ∈ L → b ∈ L2 := fun b hb => sb7 b (hsb0 b hb)
  have hf11 := (fr6 t hm_t ).trans hf_t
  have hm10 := sb7 _ hm_t
  subst er5
  refine lv_iconst (v := 1) hx hb dX8_number_4 (by decide) ?_
  refine lv_icmp_ne (tgt := 16) hx hb dX8_number_5 (by decide) (fun c12 => ?_) (fun c12 => absurd c12 (by decide))
  refine lv_iconst (v := (-1)) hx hb dX8_number_16 (by decide) ?_
  refine lv_istore_n (lv' := [(3, .int (-1)), (0, .ref t), (1, .int 0), (2, .int 2)]) hx hb dX8_number_17 rfl hl (by decide) rfl (fun ls hl => ?_)
  refine lv_iload_n hx hb dX8_number_18 rfl (lv_at hl 0 rfl) ?_
  refine lv_iload_n hx hb dX8_number_19 rfl (lv_at hl 2 rfl) ?_
  refine lv_icmp_lt (tgt := 28) hx hb dX8_number_20 (by decide) (fun c13 => ?_) (fun c13 => absurd (by decide) c13)
  refine lv_iconst (v := (-1)) hx hb dX8_number_28 (by decide) ?_
  refine lv_goto (tgt := 33) hx hb dX8_number_29 (by decide) ?_
  exact ret_i (ty := .int) hx hb hr hlocks (rfl) hP hD hS (Nat.le_of_ble_eq_true rfl) (Nat.le_of_ble_eq_true rfl) (⟨rfl, hfr8, hsb9⟩) dX8_number_33

set_option maxHeartbeats 4000000 in
set_option maxRecDepth 100000 in
theorem k_X2_clear (l : Launch) (g : GG) (L : List Nat) (f : HP) (sz : Nat) (dr : Nat) (z0 : Int32) (z1 : Int32) (z2 : Int32) (z3 : Int32) (z4 : Int32) (z5 : Int32) (z7 : Int32) (hm_dr : dr ∈ L) (hf_dr : f dr = .inr (2, [.int z0, .int z1, .int z2, .int z3, .int z4, .int z5, .int 0, .int z7])) : MtV l g yX2_clear cX2_clear 1 ({ frames := 0, cells := 0, slots := 0, locals := 0 }) [.ref dr] L f sz (fun u => u.2 dr = .inr (2, [.int z0, .int 0, .int z2, .int z3, .int 0, .int 0, .int 0, .int 0]) ∧ (∀ b, b ∈ L → b ≠ dr → u.2 b = f b) ∧ (∀ b, b ∈ L → b ∈ u.1)) := by
  refine MtV.of (by decide +kernel) (Nat.le_of_ble_eq_true rfl) ?_
  intro p e s m below meth c A hEn hP hD hS ls hl
  obtain ⟨hx, hb, hr, hml, hown, hlocks, hts, hG, hA, hE, hnm⟩ := hEn
  have hown : s.vm.findClass "RulerWord$Council" = some m.cls := hown
  have hl : lv_has ls 1 [(0, .ref dr)] := hl
  have hfr0 : ∀ b, b ∈ L → b ≠ dr → f b = f b := fun b hb z0 => rfl
  have hsb0 : ∀ b, b ∈ L → b ∈ L := fun b hb => hb
  refine lv_aload_n hx hb dX2_clear_0 rfl (lv_at hl 0 rfl) ?_
  refine lv_iconst (v := 0) hx hb dX2_clear_1 (by decide) ?_
  refine pl_put (ty := .int) (v := .int 0) (fs' := [.int z0, .int z1, .int z2, .int z3, .int z4, .int z5, .int 0, .int 0]) hx hb hts (fun w h => mT (inX2 w h)) tyX2 tyX2_ok nmX2 hown hG.1 hP hD hS hm_dr hf_dr rfl 7 (by decide) (hts _ (mT wg_245)) (fun _ h => h) rfl (by decide +kernel) (rfl) (rfl) (Nat.le_of_ble_eq_true rfl) rfl dX2_clear_2 (fun H locs f1 hf3 ho2 hP hD hS => ?_)
  have hfr4 : ∀ b, b ∈ L → b ≠ dr → f1 b = f b := fun b hb z0 => (ho2 b z0).trans (hfr0 b hb z0)
  refine lv_aload_n hx hb dX2_clear_5 rfl (lv_at hl 0 rfl) ?_
  refine lv_iconst (v := 0) hx hb dX2_clear_6 (by decide) ?_
  refine pl_put (ty := .int) (v := .int 0) (fs' := [.int z0, .int 0, .int z2, .int z3, .int z4, .int z5, .int 0, .int 0]) hx hb hts (fun w h => mT (inX2 w h)) tyX2 tyX2_ok nmX2 hown hG.1 hP hD hS hm_dr hf3 rfl 1 (by decide) (hts _ (mT wg_228)) (fun _ h => h) rfl (by decide +kernel) (rfl) (rfl) (Nat.le_of_ble_eq_true rfl) rfl dX2_clear_7 (fun H locs f5 hf7 ho6 hP hD hS => ?_)
  have hfr8 : ∀ b, b ∈ L → b ≠ dr → f5 b = f b := fun b hb z0 => (ho6 b z0).trans (hfr4 b hb z0)
  refine lv_aload_n hx hb dX2_clear_10 rfl (lv_at hl 0 rfl) ?_
  refine lv_iconst (v := 0) hx hb dX2_clear_11 (by decide) ?_
  refine pl_put (ty := .int) (v := .int 0) (fs' := [.int z0, .int 0, .int z2, .int z3, .int 0, .int z5, .int 0, .int 0]) hx hb hts (fun w h => mT (inX2 w h)) tyX2 tyX2_ok nmX2 hown hG.1 hP hD hS hm_dr hf7 rfl 4 (by decide) (hts _ (mT wg_237)) (fun _ h => h) rfl (by decide +kernel) (rfl) (rfl) (Nat.le_of_ble_eq_true rfl) rfl dX2_clear_12 (fun H locs f9 hf11 ho10 hP hD hS => ?_)
  have hfr12 : ∀ b, b ∈ L → b ≠ dr → f9 b = f b := fun b hb z0 => (ho10 b z0).trans (hfr8 b hb z0)
  refine lv_aload_n hx hb dX2_clear_15 rfl (lv_at hl 0 rfl) ?_
  refine lv_iconst (v := 0) hx hb dX2_clear_16 (by decide) ?_
  refine pl_put (ty := .int) (v := .int 0) (fs' := [.int z0, .int 0, .int z2, .int z3, .int 0, .int 0, .int 0, .int 0]) hx hb hts (fun w h => mT (inX2 w h)) tyX2 tyX2_ok nmX2 hown hG.1 hP hD hS hm_dr hf11 rfl 5 (by decide) (hts _ (mT wg_239)) (fun _ h => h) rfl (by decide +kernel) (rfl) (rfl) (Nat.le_of_ble_eq_true rfl) rfl dX2_clear_17 (fun H locs f13 hf15 ho14 hP hD hS => ?_)
  have hfr16 : ∀ b, b ∈ L → b ≠ dr → f13 b = f b := fun b hb z0 => (ho14 b z0).trans (hfr12 b hb z0)
  refine lv_aload_n hx hb dX2_clear_20 rfl (lv_at hl 0 rfl) ?_
  refine lv_iconst (v := 0) hx hb dX2_clear_21 (by decide) ?_
  refine pl_put (ty := .boolean) (v := .int 0) (fs' := [.int z0, .int 0, .int z2, .int z3, .int 0, .int 0, .int 0, .int 0]) hx hb hts (fun w h => mT (inX2 w h)) tyX2 tyX2_ok nmX2 hown hG.1 hP hD hS hm_dr hf15 rfl 6 (by decide) (hts _ (mT wg_241)) (fun _ h => h) rfl (by decide +kernel) (rfl) (rfl) (Nat.le_of_ble_eq_true rfl) rfl dX2_clear_22 (fun H locs f17 hf19 ho18 hP hD hS => ?_)
  have hfr20 : ∀ b, b ∈ L → b ≠ dr → f17 b = f b := fun b hb z0 => (ho18 b z0).trans (hfr16 b hb z0)
  exact ret_v hx hb hr hlocks hP hD hS (Nat.le_of_ble_eq_true rfl) (Nat.le_of_ble_eq_true rfl) (⟨hf19, hfr20, hsb0⟩) dX2_clear_25

set_option maxHeartbeats 4000000 in
set_option maxRecDepth 100000 in
theorem k_X2_readFrom (l : Launch) (g : GG) (L : List Nat) (f : HP) (sz : Nat) (dr t tb : Nat) (hm_dr : dr ∈ L) (hf_dr : f dr = .inr (2, [.int 0, .int 0, .int 0, .int 0, .int 0, .int 0, .int 0, .int 0])) (hm_t : t ∈ L) (hf_t : f t = .inr (8, [.ref tb, .int 0, .int 0, .int 0, .int 0])) : MtI l g yX2_readFrom cX2_readFrom 3 (some .int) ({ frames := 2, cells := 0, slots := 0, locals := 42 }) [.ref dr, .ref t] L f sz (fun r u => u.2 dr = .inr (2, [.int 1, .int 0, .int 0, .int 0, .int 0, .int 0, .int 0, .int 0]) ∧ u.2 t = .inr (8, [.ref tb, .int 0, .int 0, .int 0, .int 0]) ∧ r = 0 ∧ (∀ b, b ∈ L → b ≠ dr → b ≠ t → u.2 b = f b) ∧ (∀ b, b ∈ L → b ∈ u.1)) := by
  refine MtI.of (by decide +kernel) (Nat.le_of_ble_eq_true rfl) ?_
  intro p e s m below meth c A hEn hP hD hS ls hl
  obtain ⟨hx, hb, hr, hml, hown, hlocks, hts, hG, hA, hE, hnm⟩ := hEn
  have hown : s.vm.findClass "RulerWord$Council" = some m.cls := hown
  have hl : lv_has ls 3 [(0, .ref dr), (1, .ref t)] := hl
  have hfr0 : ∀ b, b ∈ L → b ≠ dr → b ≠ t → f b = f b := fun b hb z0 z1 => rfl
  have hsb0 : ∀ b, b ∈ L → b ∈ L := fun b hb => hb
  refine lv_aload_n hx hb dX2_readFrom_0 rfl (lv_at hl 0 rfl) ?_
  refine call_v (run_V (rm := { frames := 0, cells := 0, slots := 0, locals := 0 }) hx hb hml hown hts (k_X2_clear l g _ _ _ dr 0 0 0 0 0 0 0 hm_dr hf_dr) cV_X2_clear wg_554 ⟨Nat.le_of_ble_eq_true rfl, Nat.le_of_ble_eq_true rfl⟩ hG hE hA hP hD hS hm_dr hf_dr rfl rfl hl.1 (As := []) (rest := []) rfl (Nat.le_of_ble_eq_true rfl) dX2_readFrom_1 ⟨Nat.le_of_ble_eq_true rfl, Nat.le_of_ble_eq_true rfl⟩) hA hD hS (fun L2 f3 H locs hp4 hP hD hS => ?_)
  obtain ⟨hf5, fr6, sb7⟩ := hp4
  have hfr8 : ∀ b, b ∈ L → b ≠ dr → b ≠ t → f3 b = f b := fun b hb z0 z1 => (fr6 b (hsb0 b hb) z0).trans (hfr0 b hb z0 z1)
  have hsb9 : ∀ b, b ∈ L → b ∈ L2 := fun b hb => sb7 b (hsb0 b hb)
  have hm10 := sb7 _ hm_dr
  have hf12 := (fr6 t hm_t (kne hf_t hf_dr (by decide))).trans hf_t
  have hm11 := sb7 _ hm_t
  refine lv_aload_n hx hb dX2_readFrom_4 rfl (lv_at hl 1 rfl) ?_
  refine call_v (run_VN (rm := { frames := 1, cells := 0, slots := 0, locals := 22 }) hx hb hml hown hts (k_X8_firstPart l g _ _ _ t tb 0 0 0 hm11 hf12) cV_X8_firstPart wn_558 ⟨Nat.le_of_ble_eq_true rfl, Nat.le_of_ble_eq_true rfl⟩ hG hE hA hP hD hS hm11 hf12 rfl rfl hl.1 (As := []) (rest := []) rfl (Nat.le_of_ble_eq_true rfl) dX2_readFrom_5 ⟨Nat.le_of_ble_eq_true rfl, Nat.le_of_ble_eq_true rfl⟩) hA hD hS (fun L14 f15 H locs hp16 hP hD hS => ?_)
  obtain ⟨hf17, fr18, sb19⟩ := hp16
  have hfr20 : ∀ b, b ∈ L → b ≠ dr → b ≠ t → f15 b = f b := fun b hb z0 z1 => (fr18 b (hsb9 b hb) z1).trans (hfr8 b hb z0 z1)
  have hsb21 : ∀ b, b ∈ L → b ∈ L14 := fun b hb => sb19 b (hsb9 b hb)
  have hf23 := (fr18 dr hm10 (kne hf5 hf12 (by decide))).trans hf5
  have hm22 := sb19 _ hm10
  have hm24 := sb19 _ hm11
  refine lv_aload_n hx hb dX2_readFrom_8 rfl (lv_at hl 0 rfl) ?_
  refine lv_aload_n hx hb dX2_readFrom_9 rfl (lv_at hl 1 rfl) ?_
  refine va_ldcS hx hb hown (hG.2.2.1 ("RulerWord$Council", 42, "king", 0) (by decide +kernel)) dX2_readFrom_10 ?_
  refine call_i (run_VN (rm := { frames := 0, cells := 0, slots := 0, locals := 0 }) hx hb hml hown hts (k_X8_isWord l g _ _ _ t (g.2.2.1 0) tb hm24 hf17) cV_X8_isWord wn_570 ⟨Nat.le_of_ble_eq_true rfl, Nat.le_of_ble_eq_true rfl⟩ hG hE hA hP hD hS hm24 hf17 rfl rfl hl.1 (As := [.ref (g.2.2.1 0)]) (rest := [.ref dr]) rfl (Nat.le_of_ble_eq_true rfl) dX2_readFrom_12 ⟨Nat.le_of_ble_eq_true rfl, Nat.le_of_ble_eq_true rfl⟩) hA hD hS (fun r25 L26 f27 H locs hp28 hP hD hS => ?_)
  obtain ⟨er29, fr30, sb31⟩ := hp28
  have hfr32 : ∀ b, b ∈ L → b ≠ dr → b ≠ t → f27 b = f b := fun b hb z0 z1 => (fr30 b (hsb21 b hb) ).trans (hfr20 b hb z0 z1)
  have hsb33 : ∀ b, b ∈ L → b ∈ L26 := fun b hb => sb31 b (hsb21 b hb)
  have hf35 := (fr30 dr hm22 ).trans hf23
  have hm34 := sb31 _ hm22
  have hf37 := (fr30 t hm24 ).trans hf17
  have hm36 := sb31 _ hm24
  subst er29
  refine lv_if_eq (tgt := 22) hx hb dX2_readFrom_15 (by decide) (fun c38 => ?_) (fun c38 => absurd (by decide) c38)
  refine lv_iconst (v := 1) hx hb dX2_readFrom_22 (by decide) ?_
  refine pl_put (ty := .int) (v := .int 1) (fs' := [.int 1, .int 0, .int 0, .int 0, .int 0, .int 0, .int 0, .int 0]) hx hb hts (fun w h => mT (inX2 w h)) tyX2 tyX2_ok nmX2 hown hG.1 hP hD hS hm34 hf35 rfl 0 (by decide) (hts _ (mT wg_224)) (fun _ h => h) rfl (by decide +kernel) (rfl) (rfl) (Nat.le_of_ble_eq_true rfl) rfl dX2_readFrom_23 (fun H locs f39 hf41 ho40 hP hD hS => ?_)
  have hfr42 : ∀ b, b ∈ L → b ≠ dr → b ≠ t → f39 b = f b := fun b hb z0 z1 => (ho40 b z0).trans (hfr32 b hb z0 z1)
  have hf43 := (ho40 t (kne hf37 hf35 (by decide))).trans hf37
  refine lv_aload_n hx hb dX2_readFrom_26 rfl (lv_at hl 0 rfl) ?_
  refine pl_get (v := .int 1) hx hb hts (fun w h => mT (inX2 w h)) hown hG.1 hP hm34 hf41 rfl 0 (by decide) (hts _ (mT wg_224)) (fun _ h => h) rfl dX2_readFrom_27 ?_
  refine lv_iconst (v := 1) hx hb dX2_readFrom_30 (by decide) ?_
  refine lv_icmp_ne (tgt := 48) hx hb dX2_readFrom_31 (by decide) (fun c44 => absurd rfl c44) (fun c44 => ?_)
  refine lv_aload_n hx hb dX2_readFrom_34 rfl (lv_at hl 1 rfl) ?_
  refine va_ldcS hx hb hown (hG.2.2.1 ("RulerWord$Council", 48, "queen", 1) (by decide +kernel)) dX2_readFrom_35 ?_
  refine call_i (run_VN (rm := { frames := 0, cells := 0, slots := 0, locals := 0 }) hx hb hml hown hts (k_X8_isWord l g _ _ _ t (g.2.2.1 1) tb hm36 hf43) cV_X8_isWord wn_570 ⟨Nat.le_of_ble_eq_true rfl, Nat.le_of_ble_eq_true rfl⟩ hG hE hA hP hD hS hm36 hf43 rfl rfl hl.1 (As := [.ref (g.2.2.1 1)]) (rest := []) rfl (Nat.le_of_ble_eq_true rfl) dX2_readFrom_37 ⟨Nat.le_of_ble_eq_true rfl, Nat.le_of_ble_eq_true rfl⟩) hA hD hS (fun r45 L46 f47 H locs hp48 hP hD hS => ?_)
  obtain ⟨er49, fr50, sb51⟩ := hp48
  have hfr52 : ∀ b, b ∈ L → b ≠ dr → b ≠ t → f47 b = f b := fun b hb z0 z1 => (fr50 b (hsb33 b hb) ).trans (hfr42 b hb z0 z1)
  have hsb53 : ∀ b, b ∈ L → b ∈ L46 := fun b hb => sb51 b (hsb33 b hb)
  have hf55 := (fr50 dr hm34 ).trans hf41
  have hm54 := sb51 _ hm34
  have hf57 := (fr50 t hm36 ).trans hf43
  have hm56 := sb51 _ hm36
  subst er49
  refine lv_if_ne (tgt := 48) hx hb dX2_readFrom_40 (by decide) (fun c58 => absurd rfl c58) (fun c58 => ?_)
  refine lv_aload_n hx hb dX2_readFrom_43 rfl (lv_at hl 1 rfl) ?_
  refine pl_getN (v := .int 0) hx hb hts (fun w h => mT (inX8 w h)) hown hG.1 hP hm56 hf57 rfl 2 (by decide) (hG.2.1 _ wn_199) (fun _ h => h) rfl dX2_readFrom_44 ?_
  exact ret_i (ty := .int) hx hb hr hlocks (rfl) hP hD hS (Nat.le_of_ble_eq_true rfl) (Nat.le_of_ble_eq_true rfl) (⟨hf55, hf57, rfl, hfr52, hsb53⟩) dX2_readFrom_47

set_option maxHeartbeats 4000000 in
set_option maxRecDepth 100000 in
theorem k_X5_wordOf_0 (l : Launch) (g : GG) (L : List Nat) (f : HP) (sz : Nat)   : MtR l g yX5_wordOf cX5_wordOf 1 (some (.object "java/lang/String")) ({ frames := 0, cells := 0, slots := 0, locals := 0 }) [.int 0] L f sz (fun r u => r = (g.2.2.1 8) ∧ (∀ b, b ∈ L → u.2 b = f b) ∧ (∀ b, b ∈ L → b ∈ u.1)) := by
  refine MtR.of (by decide +kernel) (Nat.le_of_ble_eq_true rfl) ?_
  intro p e s m below meth c A hEn hP hD hS ls hl
  obtain ⟨hx, hb, hr, hml, hown, hlocks, hts, hG, hA, hE, hnm⟩ := hEn
  have hown : s.vm.findClass "RulerWord$Plan" = some m.cls := hown
  have hl : lv_has ls 1 [(0, .int 0)] := hl
  have hfr0 : ∀ b, b ∈ L → f b = f b := fun b hb  => rfl
  have hsb0 : ∀ b, b ∈ L → b ∈ L := fun b hb => hb
  refine lv_iload_n hx hb dX5_wordOf_0 rfl (lv_at hl 0 rfl) ?_
  refine lv_tableIn (off := 27) (tgt := 28) hx hb dX5_wordOf_1 (by decide) (by decide) (by decide) (by decide) ?_
  refine va_ldcS hx hb hown (hG.2.2.1 ("RulerWord$Plan", 63, "phase", 8) (by decide +kernel)) dX5_wordOf_28 ?_
  exact ret_r (ty := .object "java/lang/String") hx hb hr hlocks (Or.inl ⟨_, rfl⟩) hP hD hS (Nat.le_of_ble_eq_true rfl) (Nat.le_of_ble_eq_true rfl) (⟨rfl, hfr0, hsb0⟩) dX5_wordOf_30

set_option maxHeartbeats 4000000 in
set_option maxRecDepth 100000 in
theorem k_X5_wordOf_1 (l : Launch) (g : GG) (L : List Nat) (f : HP) (sz : Nat)   : MtR l g yX5_wordOf cX5_wordOf 1 (some (.object "java/lang/String")) ({ frames := 0, cells := 0, slots := 0, locals := 0 }) [.int 1] L f sz (fun r u => r = (g.2.2.1 9) ∧ (∀ b, b ∈ L → u.2 b = f b) ∧ (∀ b, b ∈ L → b ∈ u.1)) := by
  refine MtR.of (by decide +kernel) (Nat.le_of_ble_eq_true rfl) ?_
  intro p e s m below meth c A hEn hP hD hS ls hl
  obtain ⟨hx, hb, hr, hml, hown, hlocks, hts, hG, hA, hE, hnm⟩ := hEn
  have hown : s.vm.findClass "RulerWord$Plan" = some m.cls := hown
  have hl : lv_has ls 1 [(0, .int 1)] := hl
  have hfr0 : ∀ b, b ∈ L → f b = f b := fun b hb  => rfl
  have hsb0 : ∀ b, b ∈ L → b ∈ L := fun b hb => hb
  refine lv_iload_n hx hb dX5_wordOf_0 rfl (lv_at hl 0 rfl) ?_
  refine lv_tableIn (off := 30) (tgt := 31) hx hb dX5_wordOf_1 (by decide) (by decide) (by decide) (by decide) ?_
  refine va_ldcS hx hb hown (hG.2.2.1 ("RulerWord$Plan", 65, "round", 9) (by decide +kernel)) dX5_wordOf_31 ?_
  exact ret_r (ty := .object "java/lang/String") hx hb hr hlocks (Or.inl ⟨_, rfl⟩) hP hD hS (Nat.le_of_ble_eq_true rfl) (Nat.le_of_ble_eq_true rfl) (⟨rfl, hfr0, hsb0⟩) dX5_wordOf_33

set_option maxHeartbeats 4000000 in
set_option maxRecDepth 100000 in
theorem k_X5_wordOf_2 (l : Launch) (g : GG) (L : List Nat) (f : HP) (sz : Nat)   : MtR l g yX5_wordOf cX5_wordOf 1 (some (.object "java/lang/String")) ({ frames := 0, cells := 0, slots := 0, locals := 0 }) [.int 2] L f sz (fun r u => r = (g.2.2.1 10) ∧ (∀ b, b ∈ L → u.2 b = f b) ∧ (∀ b, b ∈ L → b ∈ u.1)) := by
  refine MtR.of (by decide +kernel) (Nat.le_of_ble_eq_true rfl) ?_
  intro p e s m below meth c A hEn hP hD hS ls hl
  obtain ⟨hx, hb, hr, hml, hown, hlocks, hts, hG, hA, hE, hnm⟩ := hEn
  have hown : s.vm.findClass "RulerWord$Plan" = some m.cls := hown
  have hl : lv_has ls 1 [(0, .int 2)] := hl
  have hfr0 : ∀ b, b ∈ L → f b = f b := fun b hb  => rfl
  have hsb0 : ∀ b, b ∈ L → b ∈ L := fun b hb => hb
  refine lv_iload_n hx hb dX5_wordOf_0 rfl (lv_at hl 0 rfl) ?_
  refine lv_tableIn (off := 33) (tgt := 34) hx hb dX5_wordOf_1 (by decide) (by decide) (by decide) (by decide) ?_
  refine va_ldcS hx hb hown (hG.2.2.1 ("RulerWord$Plan", 67, "from", 10) (by decide +kernel)) dX5_wordOf_34 ?_
  exact ret_r (ty := .object "java/lang/String") hx hb hr hlocks (Or.inl ⟨_, rfl⟩) hP hD hS (Nat.le_of_ble_eq_true rfl) (Nat.le_of_ble_eq_true rfl) (⟨rfl, hfr0, hsb0⟩) dX5_wordOf_36

set_option maxHeartbeats 4000000 in
set_option maxRecDepth 100000 in
theorem k_X5_wordOf_3 (l : Launch) (g : GG) (L : List Nat) (f : HP) (sz : Nat)   : MtR l g yX5_wordOf cX5_wordOf 1 (some (.object "java/lang/String")) ({ frames := 0, cells := 0, slots := 0, locals := 0 }) [.int 3] L f sz (fun r u => r = (g.2.2.1 11) ∧ (∀ b, b ∈ L → u.2 b = f b) ∧ (∀ b, b ∈ L → b ∈ u.1)) := by
  refine MtR.of (by decide +kernel) (Nat.le_of_ble_eq_true rfl) ?_
  intro p e s m below meth c A hEn hP hD hS ls hl
  obtain ⟨hx, hb, hr, hml, hown, hlocks, hts, hG, hA, hE, hnm⟩ := hEn
  have hown : s.vm.findClass "RulerWord$Plan" = some m.cls := hown
  have hl : lv_has ls 1 [(0, .int 3)] := hl
  have hfr0 : ∀ b, b ∈ L → f b = f b := fun b hb  => rfl
  have hsb0 : ∀ b, b ∈ L → b ∈ L := fun b hb => hb
  refine lv_iload_n hx hb dX5_wordOf_0 rfl (lv_at hl 0 rfl) ?_
  refine lv_tableOut (tgt := 37) hx hb dX5_wordOf_1 (by decide) (by decide) ?_
  refine va_ldcS hx hb hown (hG.2.2.1 ("RulerWord$Plan", 69, "to", 11) (by decide +kernel)) dX5_wordOf_37 ?_
  exact ret_r (ty := .object "java/lang/String") hx hb hr hlocks (Or.inl ⟨_, rfl⟩) hP hD hS (Nat.le_of_ble_eq_true rfl) (Nat.le_of_ble_eq_true rfl) (⟨rfl, hfr0, hsb0⟩) dX5_wordOf_39

set_option maxHeartbeats 4000000 in
set_option maxRecDepth 100000 in
theorem k_X5_actOf (l : Launch) (g : GG) (L : List Nat) (f : HP) (sz : Nat) (t tb : Nat) (hm_t : t ∈ L) (hf_t : f t = .inr (8, [.ref tb, .int 0, .int 0, .int 0, .int 0])) : MtI l g yX5_actOf cX5_actOf 1 (some .int) ({ frames := 2, cells := 0, slots := 0, locals := 43 }) [.ref t] L f sz (fun r u => r = (-1) ∧ (∀ b, b ∈ L → u.2 b = f b) ∧ (∀ b, b ∈ L → b ∈ u.1)) := by
  refine MtI.of (by decide +kernel) (Nat.le_of_ble_eq_true rfl) ?_
  intro p e s m below meth c A hEn hP hD hS ls hl
  obtain ⟨hx, hb, hr, hml, hown, hlocks, hts, hG, hA, hE, hnm⟩ := hEn
  have hown : s.vm.findClass "RulerWord$Plan" = some m.cls := hown
  have hl : lv_has ls 1 [(0, .ref t)] := hl
  have hfr0 : ∀ b, b ∈ L → f b = f b := fun b hb  => rfl
  have hsb0 : ∀ b, b ∈ L → b ∈ L := fun b hb => hb
  refine lv_aload_n hx hb dX5_actOf_0 rfl (lv_at hl 0 rfl) ?_
  refine va_ldcS hx hb hown (hG.2.2.1 ("RulerWord$Plan", 71, "same", 12) (by decide +kernel)) dX5_actOf_1 ?_
  refine call_i (run_VN (rm := { frames := 0, cells := 0, slots := 0, locals := 0 }) hx hb hml hown hts (k_X8_isWord l g _ _ _ t (g.2.2.1 12) tb hm_t hf_t) cV_X8_isWord wn_692 ⟨Nat.le_of_ble_eq_true rfl, Nat.le_of_ble_eq_true rfl⟩ hG hE hA hP hD hS hm_t hf_t rfl rfl hl.1 (As := [.ref (g.2.2.1 12)]) (rest := []) rfl (Nat.le_of_ble_eq_true rfl) dX5_actOf_3 ⟨Nat.le_of_ble_eq_true rfl, Nat.le_of_ble_eq_true rfl⟩) hA hD hS (fun r1 L2 f3 H locs hp4 hP hD hS => ?_)
  obtain ⟨er5, fr6, sb7⟩ := hp4
  have hfr8 : ∀ b, b ∈ L → f3 b = f b := fun b hb  => (fr6 b (hsb0 b hb) ).trans (hfr0 b hb )
  have hsb9 : ∀ b, b ∈ L → b ∈ L2 := fun b hb => sb7 b (hsb0 b hb)
  have hf11 := (fr6 t hm_t ).trans hf_t
  have hm10 := sb7 _ hm_t
  subst er5
  refine lv_if_eq (tgt := 11) hx hb dX5_actOf_6 (by decide) (fun c12 => ?_) (fun c12 => absurd (by decide) c12)
  refine lv_aload_n hx hb dX5_actOf_11 rfl (lv_at hl 0 rfl) ?_
  refine va_ldcS hx hb hown (hG.2.2.1 ("RulerWord$Plan", 73, "turn", 13) (by decide +kernel)) dX5_actOf_12 ?_
  refine call_i (run_VN (rm := { frames := 0, cells := 0, slots := 0, locals := 0 }) hx hb hml hown hts (k_X8_isWord l g _ _ _ t (g.2.2.1 13) tb hm10 hf11) cV_X8_isWord wn_692 ⟨Nat.le_of_ble_eq_true rfl, Nat.le_of_ble_eq_true rfl⟩ hG hE hA hP hD hS hm10 hf11 rfl rfl hl.1 (As := [.ref (g.2.2.1 13)]) (rest := []) rfl (Nat.le_of_ble_eq_true rfl) dX5_actOf_14 ⟨Nat.le_of_ble_eq_true rfl, Nat.le_of_ble_eq_true rfl⟩) hA hD hS (fun r13 L14 f15 H locs hp16 hP hD hS => ?_)
  obtain ⟨er17, fr18, sb19⟩ := hp16
  have hfr20 : ∀ b, b ∈ L → f15 b = f b := fun b hb  => (fr18 b (hsb9 b hb) ).trans (hfr8 b hb )
  have hsb21 : ∀ b, b ∈ L → b ∈ L14 := fun b hb => sb19 b (hsb9 b hb)
  have hf23 := (fr18 t hm10 ).trans hf11
  have hm22 := sb19 _ hm10
  subst er17
  refine lv_if_eq (tgt := 22) hx hb dX5_actOf_17 (by decide) (fun c24 => ?_) (fun c24 => absurd (by decide) c24)
  refine lv_aload_n hx hb dX5_actOf_22 rfl (lv_at hl 0 rfl) ?_
  refine va_ldcS hx hb hown (hG.2.2.1 ("RulerWord$Plan", 75, "split", 14) (by decide +kernel)) dX5_actOf_23 ?_
  refine call_i (run_VN (rm := { frames := 0, cells := 0, slots := 0, locals := 0 }) hx hb hml hown hts (k_X8_isWord l g _ _ _ t (g.2.2.1 14) tb hm22 hf23) cV_X8_isWord wn_692 ⟨Nat.le_of_ble_eq_true rfl, Nat.le_of_ble_eq_true rfl⟩ hG hE hA hP hD hS hm22 hf23 rfl rfl hl.1 (As := [.ref (g.2.2.1 14)]) (rest := []) rfl (Nat.le_of_ble_eq_true rfl) dX5_actOf_25 ⟨Nat.le_of_ble_eq_true rfl, Nat.le_of_ble_eq_true rfl⟩) hA hD hS (fun r25 L26 f27 H locs hp28 hP hD hS => ?_)
  obtain ⟨er29, fr30, sb31⟩ := hp28
  have hfr32 : ∀ b, b ∈ L → f27 b = f b := fun b hb  => (fr30 b (hsb21 b hb) ).trans (hfr20 b hb )
  have hsb33 : ∀ b, b ∈ L → b ∈ L26 := fun b hb => sb31 b (hsb21 b hb)
  have hf35 := (fr30 t hm22 ).trans hf23
  have hm34 := sb31 _ hm22
  subst er29
  refine lv_if_eq (tgt := 33) hx hb dX5_actOf_28 (by decide) (fun c36 => ?_) (fun c36 => absurd (by decide) c36)
  refine lv_aload_n hx hb dX5_actOf_33 rfl (lv_at hl 0 rfl) ?_
  refine va_ldcS hx hb hown (hG.2.2.1 ("RulerWord$Plan", 77, "draw", 15) (by decide +kernel)) dX5_actOf_34 ?_
  refine call_i (run_VN (rm := { frames := 0, cells := 0, slots := 0, locals := 0 }) hx hb hml hown hts (k_X8_isWord l g _ _ _ t (g.2.2.1 15) tb hm34 hf35) cV_X8_isWord wn_692 ⟨Nat.le_of_ble_eq_true rfl, Nat.le_of_ble_eq_true rfl⟩ hG hE hA hP hD hS hm34 hf35 rfl rfl hl.1 (As := [.ref (g.2.2.1 15)]) (rest := []) rfl (Nat.le_of_ble_eq_true rfl) dX5_actOf_36 ⟨Nat.le_of_ble_eq_true rfl, Nat.le_of_ble_eq_true rfl⟩) hA hD hS (fun r37 L38 f39 H locs hp40 hP hD hS => ?_)
  obtain ⟨er41, fr42, sb43⟩ := hp40
  have hfr44 : ∀ b, b ∈ L → f39 b = f b := fun b hb  => (fr42 b (hsb33 b hb) ).trans (hfr32 b hb )
  have hsb45 : ∀ b, b ∈ L → b ∈ L38 := fun b hb => sb43 b (hsb33 b hb)
  have hf47 := (fr42 t hm34 ).trans hf35
  have hm46 := sb43 _ hm34
  subst er41
  refine lv_if_eq (tgt := 47) hx hb dX5_actOf_39 (by decide) (fun c48 => ?_) (fun c48 => absurd (by decide) c48)
  refine lv_aload_n hx hb dX5_actOf_47 rfl (lv_at hl 0 rfl) ?_
  refine lv_iconst (v := 0) hx hb dX5_actOf_48 (by decide) ?_
  refine lv_iconst (v := 2) hx hb dX5_actOf_49 (by decide) ?_
  refine call_i (run_VN (rm := { frames := 1, cells := 0, slots := 0, locals := 20 }) hx hb hml hown hts (k_X8_number l g _ _ _ t tb hm46 hf47) cV_X8_number wn_697 ⟨Nat.le_of_ble_eq_true rfl, Nat.le_of_ble_eq_true rfl⟩ hG hE hA hP hD hS hm46 hf47 rfl rfl hl.1 (As := [.int 0, .int 2]) (rest := []) rfl (Nat.le_of_ble_eq_true rfl) dX5_actOf_50 ⟨Nat.le_of_ble_eq_true rfl, Nat.le_of_ble_eq_true rfl⟩) hA hD hS (fun r49 L50 f51 H locs hp52 hP hD hS => ?_)
  obtain ⟨er53, fr54, sb55⟩ := hp52
  have hfr56 : ∀ b, b ∈ L → f51 b = f b := fun b hb  => (fr54 b (hsb45 b hb) ).trans (hfr44 b hb )
  have hsb57 : ∀ b, b ∈ L → b ∈ L50 := fun b hb => sb55 b (hsb45 b hb)
  have hf59 := (fr54 t hm46 ).trans hf47
  have hm58 := sb55 _ hm46
  subst er53
  exact ret_i (ty := .int) hx hb hr hlocks (rfl) hP hD hS (Nat.le_of_ble_eq_true rfl) (Nat.le_of_ble_eq_true rfl) (⟨rfl, hfr56, hsb57⟩) dX5_actOf_53

set_option maxHeartbeats 4000000 in
set_option maxRecDepth 100000 in
theorem k_X5_readLine (l : Launch) (g : GG) (L : List Nat) (f : HP) (sz : Nat) (dp t pa tb : Nat) (rw_p : Nat → Int32) (hm_dp : dp ∈ L) (hf_dp : f dp = .inr (5, [.ref pa, .int 0])) (hm_pa : pa ∈ L) (hf_pa : f pa = .inl (g.2.1 0, 100, .inl (rw_p))) (hm_t : t ∈ L) (hf_t : f t = .inr (8, [.ref tb, .int 0, .int 0, .int 0, .int 0])) : MtI l g yX5_readLine cX5_readLine 5 (some .boolean) ({ frames := 3, cells := 0, slots := 0, locals := 63 }) [.ref dp, .ref t, .int 0] L f sz (fun r u => ∃ (rp : Nat → Int32), u.2 pa = .inl (g.2.1 0, 100, .inl (rp)) ∧ r = 0 ∧ (∀ b, b ∈ L → b ≠ pa → u.2 b = f b) ∧ (∀ b, b ∈ L → b ∈ u.1)) := by
  refine MtI.of (by decide +kernel) (Nat.le_of_ble_eq_true rfl) ?_
  intro p e s m below meth c A hEn hP hD hS ls hl
  obtain ⟨hx, hb, hr, hml, hown, hlocks, hts, hG, hA, hE, hnm⟩ := hEn
  have hown : s.vm.findClass "RulerWord$Plan" = some m.cls := hown
  have hl : lv_has ls 5 [(0, .ref dp), (1, .ref t), (2, .int 0)] := hl
  have hfr0 : ∀ b, b ∈ L → b ≠ pa → f b = f b := fun b hb z0 => rfl
  have hsb0 : ∀ b, b ∈ L → b ∈ L := fun b hb => hb
  refine lv_iconst (v := 0) hx hb dX5_readLine_0 (by decide) ?_
  refine lv_istore_n (lv' := [(3, .int 0), (0, .ref dp), (1, .ref t), (2, .int 0)]) hx hb dX5_readLine_1 rfl hl (by decide) rfl (fun ls hl => ?_)
  refine lv_iload_n hx hb dX5_readLine_2 rfl (lv_at hl 0 rfl) ?_
  refine lv_iconst (v := 4) hx hb dX5_readLine_3 (by decide) ?_
  refine lv_icmp_ge (tgt := 70) hx hb dX5_readLine_4 (by decide) (fun c1 => absurd c1 (by decide)) (fun c1 => ?_)
  refine lv_aload_n hx hb dX5_readLine_7 rfl (lv_at hl 1 rfl) ?_
  refine pl_get (v := .ref pa) hx hb hts (fun w h => mT (inX5 w h)) hown hG.1 hP hm_dp hf_dp rfl 0 (by decide) (hts _ (mT wg_269)) (fun _ h => h) rfl dX5_readLine_8 ?_
  refine lv_iload_n hx hb dX5_readLine_11 rfl (lv_at hl 3 rfl) ?_
  refine lv_iload_n hx hb dX5_readLine_12 rfl (lv_at hl 0 rfl) ?_
  refine lv_iadd hx hb dX5_readLine_13 ?_
  refine lv_topi (fun x2 ex2 => ?_)
  obtain rfl : x2 = 0 := ex2.trans (by decide)
  refine lv_iconst (v := (-1)) hx hb dX5_readLine_14 (by decide) ?_
  refine pl_iast hx hb hG.1 hP hD hS hm_pa 0 hf_pa rfl (by unfold vp_in; decide) dX5_readLine_15 (fun H locs f3 hf5 ho4 hP hD hS => ?_)
  obtain ⟨r6, er6⟩ : ∃ r : Nat → Int32, r = upd (rw_p) (0 : Int32).toNatClampNeg ((-1)) := ⟨_, rfl⟩
  rw [← er6] at hf5
  have hfr7 : ∀ b, b ∈ L → b ≠ pa → f3 b = f b := fun b hb z0 => (ho4 b z0).trans (hfr0 b hb z0)
  have hf8 := (ho4 dp (kno hf_dp hf_pa)).trans hf_dp
  have hf9 := (ho4 t (kno hf_t hf_pa)).trans hf_t
  refine lv_aload_n hx hb dX5_readLine_16 rfl (lv_at hl 2 rfl) ?_
  refine lv_iload_n hx hb dX5_readLine_17 rfl (lv_at hl 0 rfl) ?_
  refine call_r (run_S (rm := { frames := 0, cells := 0, slots := 0, locals := 0 }) hx hb hml hown hts (k_X5_wordOf_0 l g _ _ _ ) cS_X5_wordOf wg_685 ⟨Nat.le_of_ble_eq_true rfl, Nat.le_of_ble_eq_true rfl⟩ hG hE hA hP hD hS rfl hl.1 (As := [.int 0]) (rest := [.ref t]) rfl (Nat.le_of_ble_eq_true rfl) dX5_readLine_18 ⟨Nat.le_of_ble_eq_true rfl, Nat.le_of_ble_eq_true rfl⟩) hA hD hS (fun r10 L11 f12 H locs hp13 hP hD hS => ?_)
  obtain ⟨er14, fr15, sb16⟩ := hp13
  have hfr17 : ∀ b, b ∈ L → b ≠ pa → f12 b = f b := fun b hb z0 => (fr15 b (hsb0 b hb) ).trans (hfr7 b hb z0)
  have hsb18 : ∀ b, b ∈ L → b ∈ L11 := fun b hb => sb16 b (hsb0 b hb)
  have hf20 := (fr15 dp hm_dp ).trans hf8
  have hm19 := sb16 _ hm_dp
  have hf22 := (fr15 pa hm_pa ).trans hf5
  have hm21 := sb16 _ hm_pa
  have hf24 := (fr15 t hm_t ).trans hf9
  have hm23 := sb16 _ hm_t
  subst er14
  refine call_i (run_VN (rm := { frames := 0, cells := 0, slots := 0, locals := 0 }) hx hb hml hown hts (k_X8_isWord l g _ _ _ t (g.2.2.1 8) tb hm23 hf24) cV_X8_isWord wn_692 ⟨Nat.le_of_ble_eq_true rfl, Nat.le_of_ble_eq_true rfl⟩ hG hE hA hP hD hS hm23 hf24 rfl rfl hl.1 (As := [.ref (g.2.2.1 8)]) (rest := []) rfl (Nat.le_of_ble_eq_true rfl) dX5_readLine_21 ⟨Nat.le_of_ble_eq_true rfl, Nat.le_of_ble_eq_true rfl⟩) hA hD hS (fun r25 L26 f27 H locs hp28 hP hD hS => ?_)
  obtain ⟨er29, fr30, sb31⟩ := hp28
  have hfr32 : ∀ b, b ∈ L → b ≠ pa → f27 b = f b := fun b hb z0 => (fr30 b (hsb18 b hb) ).trans (hfr17 b hb z0)
  have hsb33 : ∀ b, b ∈ L → b ∈ L26 := fun b hb => sb31 b (hsb18 b hb)
  have hf35 := (fr30 dp hm19 ).trans hf20
  have hm34 := sb31 _ hm19
  have hf37 := (fr30 pa hm21 ).trans hf22
  have hm36 := sb31 _ hm21
  have hf39 := (fr30 t hm23 ).trans hf24
  have hm38 := sb31 _ hm23
  subst er29
  refine lv_if_eq (tgt := 64) hx hb dX5_readLine_24 (by decide) (fun c40 => ?_) (fun c40 => absurd (by decide) c40)
  refine lv_iinc (v := 1) (lv' := [(3, .int 1), (0, .ref dp), (1, .ref t), (2, .int 0)]) hx hb dX5_readLine_64 hl (k := 0) rfl (by decide) (by decide) rfl (fun ls hl => ?_)
  refine lv_goto (tgt := 2) hx hb dX5_readLine_67 (by decide) ?_
  refine lv_iload_n hx hb dX5_readLine_2 rfl (lv_at hl 0 rfl) ?_
  refine lv_iconst (v := 4) hx hb dX5_readLine_3 (by decide) ?_
  refine lv_icmp_ge (tgt := 70) hx hb dX5_readLine_4 (by decide) (fun c41 => absurd c41 (by decide)) (fun c41 => ?_)
  refine lv_aload_n hx hb dX5_readLine_7 rfl (lv_at hl 1 rfl) ?_
  refine pl_get (v := .ref pa) hx hb hts (fun w h => mT (inX5 w h)) hown hG.1 hP hm34 hf35 rfl 0 (by decide) (hts _ (mT wg_269)) (fun _ h => h) rfl dX5_readLine_8 ?_
  refine lv_iload_n hx hb dX5_readLine_11 rfl (lv_at hl 3 rfl) ?_
  refine lv_iload_n hx hb dX5_readLine_12 rfl (lv_at hl 0 rfl) ?_
  refine lv_iadd hx hb dX5_readLine_13 ?_
  refine lv_topi (fun x42 ex42 => ?_)
  obtain rfl : x42 = 1 := ex42.trans (by decide)
  refine lv_iconst (v := (-1)) hx hb dX5_readLine_14 (by decide) ?_
  refine pl_iast hx hb hG.1 hP hD hS hm36 0 hf37 rfl (by unfold vp_in; decide) dX5_readLine_15 (fun H locs f43 hf45 ho44 hP hD hS => ?_)
  obtain ⟨r46, er46⟩ : ∃ r : Nat → Int32, r = upd (r6) (1 : Int32).toNatClampNeg ((-1)) := ⟨_, rfl⟩
  rw [← er46] at hf45
  have hfr47 : ∀ b, b ∈ L → b ≠ pa → f43 b = f b := fun b hb z0 => (ho44 b z0).trans (hfr32 b hb z0)
  have hf48 := (ho44 dp (kno hf35 hf37)).trans hf35
  have hf49 := (ho44 t (kno hf39 hf37)).trans hf39
  refine lv_aload_n hx hb dX5_readLine_16 rfl (lv_at hl 2 rfl) ?_
  refine lv_iload_n hx hb dX5_readLine_17 rfl (lv_at hl 0 rfl) ?_
  refine call_r (run_S (rm := { frames := 0, cells := 0, slots := 0, locals := 0 }) hx hb hml hown hts (k_X5_wordOf_1 l g _ _ _ ) cS_X5_wordOf wg_685 ⟨Nat.le_of_ble_eq_true rfl, Nat.le_of_ble_eq_true rfl⟩ hG hE hA hP hD hS rfl hl.1 (As := [.int 1]) (rest := [.ref t]) rfl (Nat.le_of_ble_eq_true rfl) dX5_readLine_18 ⟨Nat.le_of_ble_eq_true rfl, Nat.le_of_ble_eq_true rfl⟩) hA hD hS (fun r50 L51 f52 H locs hp53 hP hD hS => ?_)
  obtain ⟨er54, fr55, sb56⟩ := hp53
  have hfr57 : ∀ b, b ∈ L → b ≠ pa → f52 b = f b := fun b hb z0 => (fr55 b (hsb33 b hb) ).trans (hfr47 b hb z0)
  have hsb58 : ∀ b, b ∈ L → b ∈ L51 := fun b hb => sb56 b (hsb33 b hb)
  have hf60 := (fr55 dp hm34 ).trans hf48
  have hm59 := sb56 _ hm34
  have hf62 := (fr55 pa hm36 ).trans hf45
  have hm61 := sb56 _ hm36
  have hf64 := (fr55 t hm38 ).trans hf49
  have hm63 := sb56 _ hm38
  subst er54
  refine call_i (run_VN (rm := { frames := 0, cells := 0, slots := 0, locals := 0 }) hx hb hml hown hts (k_X8_isWord l g _ _ _ t (g.2.2.1 9) tb hm63 hf64) cV_X8_isWord wn_692 ⟨Nat.le_of_ble_eq_true rfl, Nat.le_of_ble_eq_true rfl⟩ hG hE hA hP hD hS hm63 hf64 rfl rfl hl.1 (As := [.ref (g.2.2.1 9)]) (rest := []) rfl (Nat.le_of_ble_eq_true rfl) dX5_readLine_21 ⟨Nat.le_of_ble_eq_true rfl, Nat.le_of_ble_eq_true rfl⟩) hA hD hS (fun r65 L66 f67 H locs hp68 hP hD hS => ?_)
  obtain ⟨er69, fr70, sb71⟩ := hp68
  have hfr72 : ∀ b, b ∈ L → b ≠ pa → f67 b = f b := fun b hb z0 => (fr70 b (hsb58 b hb) ).trans (hfr57 b hb z0)
  have hsb73 : ∀ b, b ∈ L → b ∈ L66 := fun b hb => sb71 b (hsb58 b hb)
  have hf75 := (fr70 dp hm59 ).trans hf60
  have hm74 := sb71 _ hm59
  have hf77 := (fr70 pa hm61 ).trans hf62
  have hm76 := sb71 _ hm61
  have hf79 := (fr70 t hm63 ).trans hf64
  have hm78 := sb71 _ hm63
  subst er69
  refine lv_if_eq (tgt := 64) hx hb dX5_readLine_24 (by decide) (fun c80 => ?_) (fun c80 => absurd (by decide) c80)
  refine lv_iinc (v := 2) (lv' := [(3, .int 2), (0, .ref dp), (1, .ref t), (2, .int 0)]) hx hb dX5_readLine_64 hl (k := 0) rfl (by decide) (by decide) rfl (fun ls hl => ?_)
  refine lv_goto (tgt := 2) hx hb dX5_readLine_67 (by decide) ?_
  refine lv_iload_n hx hb dX5_readLine_2 rfl (lv_at hl 0 rfl) ?_
  refine lv_iconst (v := 4) hx hb dX5_readLine_3 (by decide) ?_
  refine lv_icmp_ge (tgt := 70) hx hb dX5_readLine_4 (by decide) (fun c81 => absurd c81 (by decide)) (fun c81 => ?_)
  refine lv_aload_n hx hb dX5_readLine_7 rfl (lv_at hl 1 rfl) ?_
  refine pl_get (v := .ref pa) hx hb hts (fun w h => mT (inX5 w h)) hown hG.1 hP hm74 hf75 rfl 0 (by decide) (hts _ (mT wg_269)) (fun _ h => h) rfl dX5_readLine_8 ?_
  refine lv_iload_n hx hb dX5_readLine_11 rfl (lv_at hl 3 rfl) ?_
  refine lv_iload_n hx hb dX5_readLine_12 rfl (lv_at hl 0 rfl) ?_
  refine lv_iadd hx hb dX5_readLine_13 ?_
  refine lv_topi (fun x82 ex82 => ?_)
  obtain rfl : x82 = 2 := ex82.trans (by decide)
  refine lv_iconst (v := (-1)) hx hb dX5_readLine_14 (by decide) ?_
  refine pl_iast hx hb hG.1 hP hD hS hm76 0 hf77 rfl (by unfold vp_in; decide) dX5_readLine_15 (fun H locs f83 hf85 ho84 hP hD hS => ?_)
  obtain ⟨r86, er86⟩ : ∃ r : Nat → Int32, r = upd (r46) (2 : Int32).toNatClampNeg ((-1)) := ⟨_, rfl⟩
  rw [← er86] at hf85
  have hfr87 : ∀ b, b ∈ L → b ≠ pa → f83 b = f b := fun b hb z0 => (ho84 b z0).trans (hfr72 b hb z0)
  have hf88 := (ho84 dp (kno hf75 hf77)).trans hf75
  have hf89 := (ho84 t (kno hf79 hf77)).trans hf79
  refine lv_aload_n hx hb dX5_readLine_16 rfl (lv_at hl 2 rfl) ?_
  refine lv_iload_n hx hb dX5_readLine_17 rfl (lv_at hl 0 rfl) ?_
  refine call_r (run_S (rm := { frames := 0, cells := 0, slots := 0, locals := 0 }) hx hb hml hown hts (k_X5_wordOf_2 l g _ _ _ ) cS_X5_wordOf wg_685 ⟨Nat.le_of_ble_eq_true rfl, Nat.le_of_ble_eq_true rfl⟩ hG hE hA hP hD hS rfl hl.1 (As := [.int 2]) (rest := [.ref t]) rfl (Nat.le_of_ble_eq_true rfl) dX5_readLine_18 ⟨Nat.le_of_ble_eq_true rfl, Nat.le_of_ble_eq_true rfl⟩) hA hD hS (fun r90 L91 f92 H locs hp93 hP hD hS => ?_)
  obtain ⟨er94, fr95, sb96⟩ := hp93
  have hfr97 : ∀ b, b ∈ L → b ≠ pa → f92 b = f b := fun b hb z0 => (fr95 b (hsb73 b hb) ).trans (hfr87 b hb z0)
  have hsb98 : ∀ b, b ∈ L → b ∈ L91 := fun b hb => sb96 b (hsb73 b hb)
  have hf100 := (fr95 dp hm74 ).trans hf88
  have hm99 := sb96 _ hm74
  have hf102 := (fr95 pa hm76 ).trans hf85
  have hm101 := sb96 _ hm76
  have hf104 := (fr95 t hm78 ).trans hf89
  have hm103 := sb96 _ hm78
  subst er94
  refine call_i (run_VN (rm := { frames := 0, cells := 0, slots := 0, locals := 0 }) hx hb hml hown hts (k_X8_isWord l g _ _ _ t (g.2.2.1 10) tb hm103 hf104) cV_X8_isWord wn_692 ⟨Nat.le_of_ble_eq_true rfl, Nat.le_of_ble_eq_true rfl⟩ hG hE hA hP hD hS hm103 hf104 rfl rfl hl.1 (As := [.ref (g.2.2.1 10)]) (rest := []) rfl (Nat.le_of_ble_eq_true rfl) dX5_readLine_21 ⟨Nat.le_of_ble_eq_true rfl, Nat.le_of_ble_eq_true rfl⟩) hA hD hS (fun r105 L106 f107 H locs hp108 hP hD hS => ?_)
  obtain ⟨er109, fr110, sb111⟩ := hp108
  have hfr112 : ∀ b, b ∈ L → b ≠ pa → f107 b = f b := fun b hb z0 => (fr110 b (hsb98 b hb) ).trans (hfr97 b hb z0)
  have hsb113 : ∀ b, b ∈ L → b ∈ L106 := fun b hb => sb111 b (hsb98 b hb)
  have hf115 := (fr110 dp hm99 ).trans hf100
  have hm114 := sb111 _ hm99
  have hf117 := (fr110 pa hm101 ).trans hf102
  have hm116 := sb111 _ hm101
  have hf119 := (fr110 t hm103 ).trans hf104
  have hm118 := sb111 _ hm103
  subst er109
  refine lv_if_eq (tgt := 64) hx hb dX5_readLine_24 (by decide) (fun c120 => ?_) (fun c120 => absurd (by decide) c120)
  refine lv_iinc (v := 3) (lv' := [(3, .int 3), (0, .ref dp), (1, .ref t), (2, .int 0)]) hx hb dX5_readLine_64 hl (k := 0) rfl (by decide) (by decide) rfl (fun ls hl => ?_)
  refine lv_goto (tgt := 2) hx hb dX5_readLine_67 (by decide) ?_
  refine lv_iload_n hx hb dX5_readLine_2 rfl (lv_at hl 0 rfl) ?_
  refine lv_iconst (v := 4) hx hb dX5_readLine_3 (by decide) ?_
  refine lv_icmp_ge (tgt := 70) hx hb dX5_readLine_4 (by decide) (fun c121 => absurd c121 (by decide)) (fun c121 => ?_)
  refine lv_aload_n hx hb dX5_readLine_7 rfl (lv_at hl 1 rfl) ?_
  refine pl_get (v := .ref pa) hx hb hts (fun w h => mT (inX5 w h)) hown hG.1 hP hm114 hf115 rfl 0 (by decide) (hts _ (mT wg_269)) (fun _ h => h) rfl dX5_readLine_8 ?_
  refine lv_iload_n hx hb dX5_readLine_11 rfl (lv_at hl 3 rfl) ?_
  refine lv_iload_n hx hb dX5_readLine_12 rfl (lv_at hl 0 rfl) ?_
  refine lv_iadd hx hb dX5_readLine_13 ?_
  refine lv_topi (fun x122 ex122 => ?_)
  obtain rfl : x122 = 3 := ex122.trans (by decide)
  refine lv_iconst (v := (-1)) hx hb dX5_readLine_14 (by decide) ?_
  refine pl_iast hx hb hG.1 hP hD hS hm116 0 hf117 rfl (by unfold vp_in; decide) dX5_readLine_15 (fun H locs f123 hf125 ho124 hP hD hS => ?_)
  obtain ⟨r126, er126⟩ : ∃ r : Nat → Int32, r = upd (r86) (3 : Int32).toNatClampNeg ((-1)) := ⟨_, rfl⟩
  rw [← er126] at hf125
  have hfr127 : ∀ b, b ∈ L → b ≠ pa → f123 b = f b := fun b hb z0 => (ho124 b z0).trans (hfr112 b hb z0)
  have hf128 := (ho124 dp (kno hf115 hf117)).trans hf115
  have hf129 := (ho124 t (kno hf119 hf117)).trans hf119
  refine lv_aload_n hx hb dX5_readLine_16 rfl (lv_at hl 2 rfl) ?_
  refine lv_iload_n hx hb dX5_readLine_17 rfl (lv_at hl 0 rfl) ?_
  refine call_r (run_S (rm := { frames := 0, cells := 0, slots := 0, locals := 0 }) hx hb hml hown hts (k_X5_wordOf_3 l g _ _ _ ) cS_X5_wordOf wg_685 ⟨Nat.le_of_ble_eq_true rfl, Nat.le_of_ble_eq_true rfl⟩ hG hE hA hP hD hS rfl hl.1 (As := [.int 3]) (rest := [.ref t]) rfl (Nat.le_of_ble_eq_true rfl) dX5_readLine_18 ⟨Nat.le_of_ble_eq_true rfl, Nat.le_of_ble_eq_true rfl⟩) hA hD hS (fun r130 L131 f132 H locs hp133 hP hD hS => ?_)
  obtain ⟨er134, fr135, sb136⟩ := hp133
  have hfr137 : ∀ b, b ∈ L → b ≠ pa → f132 b = f b := fun b hb z0 => (fr135 b (hsb113 b hb) ).trans (hfr127 b hb z0)
  have hsb138 : ∀ b, b ∈ L → b ∈ L131 := fun b hb => sb136 b (hsb113 b hb)
  have hf140 := (fr135 dp hm114 ).trans hf128
  have hm139 := sb136 _ hm114
  have hf142 := (fr135 pa hm116 ).trans hf125
  have hm141 := sb136 _ hm116
  have hf144 := (fr135 t hm118 ).trans hf129
  have hm143 := sb136 _ hm118
  subst er134
  refine call_i (run_VN (rm := { frames := 0, cells := 0, slots := 0, locals := 0 }) hx hb hml hown hts (k_X8_isWord l g _ _ _ t (g.2.2.1 11) tb hm143 hf144) cV_X8_isWord wn_692 ⟨Nat.le_of_ble_eq_true rfl, Nat.le_of_ble_eq_true rfl⟩ hG hE hA hP hD hS hm143 hf144 rfl rfl hl.1 (As := [.ref (g.2.2.1 11)]) (rest := []) rfl (Nat.le_of_ble_eq_true rfl) dX5_readLine_21 ⟨Nat.le_of_ble_eq_true rfl, Nat.le_of_ble_eq_true rfl⟩) hA hD hS (fun r145 L146 f147 H locs hp148 hP hD hS => ?_)
  obtain ⟨er149, fr150, sb151⟩ := hp148
  have hfr152 : ∀ b, b ∈ L → b ≠ pa → f147 b = f b := fun b hb z0 => (fr150 b (hsb138 b hb) ).trans (hfr137 b hb z0)
  have hsb153 : ∀ b, b ∈ L → b ∈ L146 := fun b hb => sb151 b (hsb138 b hb)
  have hf155 := (fr150 dp hm139 ).trans hf140
  have hm154 := sb151 _ hm139
  have hf157 := (fr150 pa hm141 ).trans hf142
  have hm156 := sb151 _ hm141
  have hf159 := (fr150 t hm143 ).trans hf144
  have hm158 := sb151 _ hm143
  subst er149
  refine lv_if_eq (tgt := 64) hx hb dX5_readLine_24 (by decide) (fun c160 => ?_) (fun c160 => absurd (by decide) c160)
  refine lv_iinc (v := 4) (lv' := [(3, .int 4), (0, .ref dp), (1, .ref t), (2, .int 0)]) hx hb dX5_readLine_64 hl (k := 0) rfl (by decide) (by decide) rfl (fun ls hl => ?_)
  refine lv_goto (tgt := 2) hx hb dX5_readLine_67 (by decide) ?_
  refine lv_iload_n hx hb dX5_readLine_2 rfl (lv_at hl 0 rfl) ?_
  refine lv_iconst (v := 4) hx hb dX5_readLine_3 (by decide) ?_
  refine lv_icmp_ge (tgt := 70) hx hb dX5_readLine_4 (by decide) (fun c161 => ?_) (fun c161 => absurd (by decide) c161)
  refine lv_aload_n hx hb dX5_readLine_70 rfl (lv_at hl 1 rfl) ?_
  refine pl_get (v := .ref pa) hx hb hts (fun w h => mT (inX5 w h)) hown hG.1 hP hm154 hf155 rfl 0 (by decide) (hts _ (mT wg_269)) (fun _ h => h) rfl dX5_readLine_71 ?_
  refine lv_iload_n hx hb dX5_readLine_74 rfl (lv_at hl 3 rfl) ?_
  refine lv_iconst (v := 4) hx hb dX5_readLine_75 (by decide) ?_
  refine lv_iadd hx hb dX5_readLine_76 ?_
  refine lv_topi (fun x162 ex162 => ?_)
  obtain rfl : x162 = 4 := ex162.trans (by decide)
  refine lv_aload_n hx hb dX5_readLine_77 rfl (lv_at hl 2 rfl) ?_
  refine call_i (run_S (rm := { frames := 2, cells := 0, slots := 0, locals := 43 }) hx hb hml hown hts (k_X5_actOf l g _ _ _ t tb hm158 hf159) cS_X5_actOf wg_698 ⟨Nat.le_of_ble_eq_true rfl, Nat.le_of_ble_eq_true rfl⟩ hG hE hA hP hD hS rfl hl.1 (As := [.ref t]) (rest := [.int 4, .ref pa]) rfl (Nat.le_of_ble_eq_true rfl) dX5_readLine_78 ⟨Nat.le_of_ble_eq_true rfl, Nat.le_of_ble_eq_true rfl⟩) hA hD hS (fun r163 L164 f165 H locs hp166 hP hD hS => ?_)
  obtain ⟨er167, fr168, sb169⟩ := hp166
  have hfr170 : ∀ b, b ∈ L → b ≠ pa → f165 b = f b := fun b hb z0 => (fr168 b (hsb153 b hb) ).trans (hfr152 b hb z0)
  have hsb171 : ∀ b, b ∈ L → b ∈ L164 := fun b hb => sb169 b (hsb153 b hb)
  have hf173 := (fr168 dp hm154 ).trans hf155
  have hm172 := sb169 _ hm154
  have hf175 := (fr168 pa hm156 ).trans hf157
  have hm174 := sb169 _ hm156
  have hf177 := (fr168 t hm158 ).trans hf159
  have hm176 := sb169 _ hm158
  subst er167
  refine pl_iast hx hb hG.1 hP hD hS hm174 0 hf175 rfl (by unfold vp_in; decide) dX5_readLine_81 (fun H locs f178 hf180 ho179 hP hD hS => ?_)
  obtain ⟨r181, er181⟩ : ∃ r : Nat → Int32, r = upd (r126) (4 : Int32).toNatClampNeg ((-1)) := ⟨_, rfl⟩
  rw [← er181] at hf180
  have hfr182 : ∀ b, b ∈ L → b ≠ pa → f178 b = f b := fun b hb z0 => (ho179 b z0).trans (hfr170 b hb z0)
  have hf183 := (ho179 dp (kno hf173 hf175)).trans hf173
  have hf184 := (ho179 t (kno hf177 hf175)).trans hf177
  refine lv_aload_n hx hb dX5_readLine_82 rfl (lv_at hl 1 rfl) ?_
  refine pl_get (v := .ref pa) hx hb hts (fun w h => mT (inX5 w h)) hown hG.1 hP hm172 hf183 rfl 0 (by decide) (hts _ (mT wg_269)) (fun _ h => h) rfl dX5_readLine_83 ?_
  refine lv_iload_n hx hb dX5_readLine_86 rfl (lv_at hl 3 rfl) ?_
  refine lv_iconst (v := 4) hx hb dX5_readLine_87 (by decide) ?_
  refine lv_iadd hx hb dX5_readLine_88 ?_
  refine lv_topi (fun x185 ex185 => ?_)
  obtain rfl : x185 = 4 := ex185.trans (by decide)
  refine pl_iald hx hb hG.1 hP hm174 0 hf180 rfl (by unfold vp_in; decide) dX5_readLine_89 ?_
  refine lv_topi (fun x186 ex186 => ?_)
  obtain rfl : x186 = (-1) := ex186.trans (by rw [er181]; rfl)
  refine lv_iconst (v := (-1)) hx hb dX5_readLine_90 (by decide) ?_
  refine lv_icmp_eq (tgt := 98) hx hb dX5_readLine_91 (by decide) (fun c187 => ?_) (fun c187 => absurd (by decide) c187)
  refine lv_iconst (v := 0) hx hb dX5_readLine_98 (by decide) ?_
  exact ret_i (ty := .boolean) hx hb hr hlocks (rfl) hP hD hS (Nat.le_of_ble_eq_true rfl) (Nat.le_of_ble_eq_true rfl) (⟨r181, hf180, rfl, hfr182, hsb171⟩) dX5_readLine_99

set_option maxHeartbeats 4000000 in
set_option maxRecDepth 100000 in
theorem k_X5_readFrom (l : Launch) (g : GG) (L : List Nat) (f : HP) (sz : Nat) (dp t pa tb : Nat) (rw_p : Nat → Int32) (hm_dp : dp ∈ L) (hf_dp : f dp = .inr (5, [.ref pa, .int 0])) (hm_pa : pa ∈ L) (hf_pa : f pa = .inl (g.2.1 0, 100, .inl (rw_p))) (hm_t : t ∈ L) (hf_t : f t = .inr (8, [.ref tb, .int 0, .int 0, .int 0, .int 0])) : MtI l g yX5_readFrom cX5_readFrom 3 (some .int) ({ frames := 4, cells := 0, slots := 0, locals := 87 }) [.ref dp, .ref t] L f sz (fun r u => ∃ (rp : Nat → Int32), u.2 dp = .inr (5, [.ref pa, .int 0]) ∧ u.2 pa = .inl (g.2.1 0, 100, .inl (rp)) ∧ u.2 t = .inr (8, [.ref tb, .int 0, .int 0, .int 0, .int 0]) ∧ r = 0 ∧ (∀ b, b ∈ L → b ≠ dp → b ≠ pa → b ≠ t → u.2 b = f b) ∧ (∀ b, b ∈ L → b ∈ u.1)) := by
  refine MtI.of (by decide +kernel) (Nat.le_of_ble_eq_true rfl) ?_
  intro p e s m below meth c A hEn hP hD hS ls hl
  obtain ⟨hx, hb, hr, hml, hown, hlocks, hts, hG, hA, hE, hnm⟩ := hEn
  have hown : s.vm.findClass "RulerWord$Plan" = some m.cls := hown
  have hl : lv_has ls 3 [(0, .ref dp), (1, .ref t)] := hl
  have hfr0 : ∀ b, b ∈ L → b ≠ dp → b ≠ pa → b ≠ t → f b = f b := fun b hb z0 z1 z2 => rfl
  have hsb0 : ∀ b, b ∈ L → b ∈ L := fun b hb => hb
  refine lv_aload_n hx hb dX5_readFrom_0 rfl (lv_at hl 0 rfl) ?_
  refine lv_iconst (v := 0) hx hb dX5_readFrom_1 (by decide) ?_
  refine pl_put (ty := .int) (v := .int 0) (fs' := [.ref pa, .int 0]) hx hb hts (fun w h => mT (inX5 w h)) tyX5 tyX5_ok nmX5 hown hG.1 hP hD hS hm_dp hf_dp rfl 1 (by decide) (hts _ (mT wg_270)) (fun _ h => h) rfl (by decide +kernel) (rfl) (rfl) (Nat.le_of_ble_eq_true rfl) rfl dX5_readFrom_2 (fun H locs f1 hf3 ho2 hP hD hS => ?_)
  have hfr4 : ∀ b, b ∈ L → b ≠ dp → b ≠ pa → b ≠ t → f1 b = f b := fun b hb z0 z1 z2 => (ho2 b z0).trans (hfr0 b hb z0 z1 z2)
  have hf5 := (ho2 pa (kno hf_dp hf_pa).symm).trans hf_pa
  have hf6 := (ho2 t (kne hf_t hf_dp (by decide))).trans hf_t
  refine lv_aload_n hx hb dX5_readFrom_5 rfl (lv_at hl 1 rfl) ?_
  refine call_v (run_VN (rm := { frames := 1, cells := 0, slots := 0, locals := 22 }) hx hb hml hown hts (k_X8_firstPart l g _ _ _ t tb 0 0 0 hm_t hf6) cV_X8_firstPart wn_680 ⟨Nat.le_of_ble_eq_true rfl, Nat.le_of_ble_eq_true rfl⟩ hG hE hA hP hD hS hm_t hf6 rfl rfl hl.1 (As := []) (rest := []) rfl (Nat.le_of_ble_eq_true rfl) dX5_readFrom_6 ⟨Nat.le_of_ble_eq_true rfl, Nat.le_of_ble_eq_true rfl⟩) hA hD hS (fun L8 f9 H locs hp10 hP hD hS => ?_)
  obtain ⟨hf11, fr12, sb13⟩ := hp10
  have hfr14 : ∀ b, b ∈ L → b ≠ dp → b ≠ pa → b ≠ t → f9 b = f b := fun b hb z0 z1 z2 => (fr12 b (hsb0 b hb) z2).trans (hfr4 b hb z0 z1 z2)
  have hsb15 : ∀ b, b ∈ L → b ∈ L8 := fun b hb => sb13 b (hsb0 b hb)
  have hf17 := (fr12 dp hm_dp (kne hf3 hf6 (by decide))).trans hf3
  have hm16 := sb13 _ hm_dp
  have hf19 := (fr12 pa hm_pa (kno hf6 hf5).symm).trans hf5
  have hm18 := sb13 _ hm_pa
  have hm20 := sb13 _ hm_t
  refine lv_iconst (v := 0) hx hb dX5_readFrom_9 (by decide) ?_
  refine lv_istore_n (lv' := [(2, .int 0), (0, .ref dp), (1, .ref t)]) hx hb dX5_readFrom_10 rfl hl (by decide) rfl (fun ls hl => ?_)
  refine lv_iload_n hx hb dX5_readFrom_11 rfl (lv_at hl 0 rfl) ?_
  refine lv_bipush (v := 20) hx hb dX5_readFrom_12 (by decide) ?_
  refine lv_icmp_ge (tgt := 76) hx hb dX5_readFrom_14 (by decide) (fun c21 => absurd c21 (by decide)) (fun c21 => ?_)
  refine lv_aload_n hx hb dX5_readFrom_17 rfl (lv_at hl 1 rfl) ?_
  refine lv_aload_n hx hb dX5_readFrom_18 rfl (lv_at hl 2 rfl) ?_
  refine lv_iload_n hx hb dX5_readFrom_19 rfl (lv_at hl 0 rfl) ?_
  refine lv_iconst (v := 5) hx hb dX5_readFrom_20 (by decide) ?_
  refine lv_imul hx hb dX5_readFrom_21 ?_
  refine lv_topi (fun x22 ex22 => ?_)
  obtain rfl : x22 = 0 := ex22.trans (by decide)
  refine call_i (run_V (rm := { frames := 3, cells := 0, slots := 0, locals := 63 }) hx hb hml hown hts (k_X5_readLine l g _ _ _ dp t pa tb (rw_p) hm16 hf17 hm18 hf19 hm20 hf11) cV_X5_readLine wg_681 ⟨Nat.le_of_ble_eq_true rfl, Nat.le_of_ble_eq_true rfl⟩ hG hE hA hP hD hS hm16 hf17 rfl rfl hl.1 (As := [.ref t, .int 0]) (rest := []) rfl (Nat.le_of_ble_eq_true rfl) dX5_readFrom_22 ⟨Nat.le_of_ble_eq_true rfl, Nat.le_of_ble_eq_true rfl⟩) hA hD hS (fun r23 L24 f25 H locs hp26 hP hD hS => ?_)
  obtain ⟨r27, hf28, er29, fr30, sb31⟩ := hp26
  have hfr32 : ∀ b, b ∈ L → b ≠ dp → b ≠ pa → b ≠ t → f25 b = f b := fun b hb z0 z1 z2 => (fr30 b (hsb15 b hb) z1).trans (hfr14 b hb z0 z1 z2)
  have hsb33 : ∀ b, b ∈ L → b ∈ L24 := fun b hb => sb31 b (hsb15 b hb)
  have hf35 := (fr30 dp hm16 (kno hf17 hf19)).trans hf17
  have hm34 := sb31 _ hm16
  have hm36 := sb31 _ hm18
  have hf38 := (fr30 t hm20 (kno hf11 hf19)).trans hf11
  have hm37 := sb31 _ hm20
  subst er29
  refine lv_if_ne (tgt := 33) hx hb dX5_readFrom_25 (by decide) (fun c39 => absurd rfl c39) (fun c39 => ?_)
  refine lv_aload_n hx hb dX5_readFrom_28 rfl (lv_at hl 2 rfl) ?_
  refine pl_getN (v := .int 0) hx hb hts (fun w h => mT (inX8 w h)) hown hG.1 hP hm37 hf38 rfl 2 (by decide) (hG.2.1 _ wn_200) (fun _ h => h) rfl dX5_readFrom_29 ?_
  exact ret_i (ty := .int) hx hb hr hlocks (rfl) hP hD hS (Nat.le_of_ble_eq_true rfl) (Nat.le_of_ble_eq_true rfl) (⟨r27, hf35, hf28, hf38, rfl, hfr32, hsb33⟩) dX5_readFrom_32

set_option maxHeartbeats 4000000 in
set_option maxRecDepth 100000 in
theorem k_X8_add (l : Launch) (g : GG) (L : List Nat) (f : HP) (sz : Nat) (t tb : Nat) (b : Int32) (k : Int32) (z2 : Int32) (z3 : Int32) (z4 : Int32) (rw_b : Nat → Int32) (hm_t : t ∈ L) (hf_t : f t = .inr (8, [.ref tb, .int k, .int z2, .int z3, .int z4])) (hm_tb : tb ∈ L) (hf_tb : f tb = .inl (g.2.1 0, 520, .inl (rw_b))) (hk : Bd k 519) : MtV l g yX8_add cX8_add 2 ({ frames := 0, cells := 0, slots := 0, locals := 0 }) [.ref t, .int b] L f sz (fun u => ∃ (rb : Nat → Int32), u.2 t = .inr (8, [.ref tb, .int (k + 1), .int z2, .int z3, .int z4]) ∧ u.2 tb = .inl (g.2.1 0, 520, .inl (rb)) ∧ (∀ b, b ∈ L → b ≠ t → b ≠ tb → u.2 b = f b) ∧ (∀ b, b ∈ L → b ∈ u.1)) := by
  refine MtV.of (by decide +kernel) (Nat.le_of_ble_eq_true rfl) ?_
  intro p e s m below meth c A hEn hP hD hS ls hl
  obtain ⟨hx, hb, hr, hml, hown, hlocks, hts, hG, hA, hE, hnm⟩ := hEn
  have hown : s.vm.findClass "RulerWord$Tape" = some m.cls := hown
  have hl : lv_has ls 2 [(0, .ref t), (1, .int b)] := hl
  have hfr0 : ∀ b, b ∈ L → b ≠ t → b ≠ tb → f b = f b := fun b hb z0 z1 => rfl
  have hsb0 : ∀ b, b ∈ L → b ∈ L := fun b hb => hb
  refine lv_aload_n hx hb dX8_add_0 rfl (lv_at hl 0 rfl) ?_
  refine pl_get (v := .int k) hx hb hts (fun w h => mT (inX8 w h)) hown hG.1 hP hm_t hf_t rfl 1 (by decide) (hts _ (mT wg_198)) (fun _ h => h) rfl dX8_add_1 ?_
  refine lv_aload_n hx hb dX8_add_4 rfl (lv_at hl 0 rfl) ?_
  refine pl_get (v := .ref tb) hx hb hts (fun w h => mT (inX8 w h)) hown hG.1 hP hm_t hf_t rfl 0 (by decide) (hts _ (mT wg_195)) (fun _ h => h) rfl dX8_add_5 ?_
  refine pl_alen (v := 520) hx hb hG.1 hP hm_tb 0 hf_tb rfl (rfl) dX8_add_8 ?_
  refine lv_icmp_ge (tgt := 32) hx hb dX8_add_9 (by decide) (fun c1 => hk.lt (k := 520) (by decide) (by decide) c1) (fun c1 => ?_)
  refine lv_aload_n hx hb dX8_add_12 rfl (lv_at hl 0 rfl) ?_
  refine pl_get (v := .ref tb) hx hb hts (fun w h => mT (inX8 w h)) hown hG.1 hP hm_t hf_t rfl 0 (by decide) (hts _ (mT wg_195)) (fun _ h => h) rfl dX8_add_13 ?_
  refine lv_aload_n hx hb dX8_add_16 rfl (lv_at hl 0 rfl) ?_
  refine pl_get (v := .int k) hx hb hts (fun w h => mT (inX8 w h)) hown hG.1 hP hm_t hf_t rfl 1 (by decide) (hts _ (mT wg_198)) (fun _ h => h) rfl dX8_add_17 ?_
  refine lv_iload_n hx hb dX8_add_20 rfl (lv_at hl 1 rfl) ?_
  refine pl_iast hx hb hG.1 hP hD hS hm_tb 0 hf_tb rfl (hk.in (by decide)) dX8_add_21 (fun H locs f2 hf4 ho3 hP hD hS => ?_)
  obtain ⟨r5, er5⟩ : ∃ r : Nat → Int32, r = upd (rw_b) (k : Int32).toNatClampNeg (b) := ⟨_, rfl⟩
  rw [← er5] at hf4
  have hfr6 : ∀ b, b ∈ L → b ≠ t → b ≠ tb → f2 b = f b := fun b hb z0 z1 => (ho3 b z1).trans (hfr0 b hb z0 z1)
  have hf7 := (ho3 t (kno hf_t hf_tb)).trans hf_t
  refine lv_aload_n hx hb dX8_add_22 rfl (lv_at hl 0 rfl) ?_
  refine lv_dup hx hb dX8_add_23 rfl ?_
  refine pl_get (v := .int k) hx hb hts (fun w h => mT (inX8 w h)) hown hG.1 hP hm_t hf7 rfl 1 (by decide) (hts _ (mT wg_198)) (fun _ h => h) rfl dX8_add_24 ?_
  refine lv_iconst (v := 1) hx hb dX8_add_27 (by decide) ?_
  refine lv_iadd hx hb dX8_add_28 ?_
  refine lv_topi (fun x8 ex8 => ?_)
  refine pl_put (ty := .int) (v := .int x8) (fs' := [.ref tb, .int x8, .int z2, .int z3, .int z4]) hx hb hts (fun w h => mT (inX8 w h)) tyX8 tyX8_ok nmX8 hown hG.1 hP hD hS hm_t hf7 rfl 1 (by decide) (hts _ (mT wg_198)) (fun _ h => h) rfl (by decide +kernel) (rfl) (rfl) (Nat.le_of_ble_eq_true rfl) rfl dX8_add_29 (fun H locs f9 hf11 ho10 hP hD hS => ?_)
  have hfr12 : ∀ b, b ∈ L → b ≠ t → b ≠ tb → f9 b = f b := fun b hb z0 z1 => (ho10 b z0).trans (hfr6 b hb z0 z1)
  have hf13 := (ho10 tb (kno hf7 hf4).symm).trans hf4
  exact ret_v hx hb hr hlocks hP hD hS (Nat.le_of_ble_eq_true rfl) (Nat.le_of_ble_eq_true rfl) (⟨r5, (hf11.trans (by simp only [ex8])), hf13, hfr12, hsb0⟩) dX8_add_32

set_option maxHeartbeats 4000000 in
set_option maxRecDepth 100000 in
theorem k_X8_put (l : Launch) (g : GG) (L : List Nat) (f : HP) (sz : Nat) (t tb : Nat) (v : Int32) (k : Int32) (z2 : Int32) (z3 : Int32) (z4 : Int32) (rw_b : Nat → Int32) (hm_t : t ∈ L) (hf_t : f t = .inr (8, [.ref tb, .int k, .int z2, .int z3, .int z4])) (hm_tb : tb ∈ L) (hf_tb : f tb = .inl (g.2.1 0, 520, .inl (rw_b))) (hk : Bd k 516) : MtV l g yX8_put cX8_put 4 ({ frames := 1, cells := 0, slots := 0, locals := 21 }) [.ref t, .int v] L f sz (fun u => ∃ (rb : Nat → Int32), u.2 t = .inr (8, [.ref tb, .int (l4U k v), .int z2, .int z3, .int z4]) ∧ u.2 tb = .inl (g.2.1 0, 520, .inl (rb)) ∧ (∀ b, b ∈ L → b ≠ t → b ≠ tb → u.2 b = f b) ∧ (∀ b, b ∈ L → b ∈ u.1)) := by
  refine MtV.of (by decide +kernel) (Nat.le_of_ble_eq_true rfl) ?_
  intro p e s m below meth c A hEn hP hD hS ls hl
  obtain ⟨hx, hb, hr, hml, hown, hlocks, hts, hG, hA, hE, hnm⟩ := hEn
  have hown : s.vm.findClass "RulerWord$Tape" = some m.cls := hown
  have hl : lv_has ls 4 [(0, .ref t), (1, .int v)] := hl
  have hfr0 : ∀ b, b ∈ L → b ≠ t → b ≠ tb → f b = f b := fun b hb z0 z1 => rfl
  have hsb0 : ∀ b, b ∈ L → b ∈ L := fun b hb => hb
  refine lv_bipush (v := 24) hx hb dX8_put_0 (by decide) ?_
  refine lv_istore_n (lv' := [(2, .int 24), (0, .ref t), (1, .int v)]) hx hb dX8_put_2 rfl hl (by decide) rfl (fun ls hl => ?_)
  refine lv_iload_n hx hb dX8_put_3 rfl (lv_at hl 0 rfl) ?_
  refine lv_if_lt (tgt := 30) hx hb dX8_put_4 (by decide) (fun c1 => absurd c1 (by decide)) (fun c1 => ?_)
  refine lv_iload_n hx hb dX8_put_7 rfl (lv_at hl 2 rfl) ?_
  refine lv_iload_n hx hb dX8_put_8 rfl (lv_at hl 0 rfl) ?_
  refine lv_iushr hx hb dX8_put_9 rfl ?_
  refine lv_topi (fun x3 ex3 => ?_)
  refine lv_sipush (v := 255) hx hb dX8_put_10 (by decide) ?_
  refine lv_iand hx hb dX8_put_13 ?_
  refine lv_topi (fun x4 ex4 => ?_)
  refine lv_istore_n (lv' := [(3, .int x4), (2, .int 24), (0, .ref t), (1, .int v)]) hx hb dX8_put_14 rfl hl (by decide) rfl (fun ls hl => ?_)
  refine lv_iload_n hx hb dX8_put_15 rfl (lv_at hl 0 rfl) ?_
  refine lv_if_eq (tgt := 24) hx hb dX8_put_16 (by decide) (fun c5 => ?_) (fun c5 => ?_)
  ·
    refine lv_iinc (v := 16) (lv' := [(2, .int 16), (3, .int x4), (0, .ref t), (1, .int v)]) hx hb dX8_put_24 hl (k := 1) rfl (by decide) (by decide) rfl (fun ls hl => ?_)
    refine lv_goto (tgt := 3) hx hb dX8_put_27 (by decide) ?_
    refine lv_iload_n hx hb dX8_put_3 rfl (lv_at hl 0 rfl) ?_
    refine lv_if_lt (tgt := 30) hx hb dX8_put_4 (by decide) (fun c6 => absurd c6 (by decide)) (fun c6 => ?_)
    refine lv_iload_n hx hb dX8_put_7 rfl (lv_at hl 3 rfl) ?_
    refine lv_iload_n hx hb dX8_put_8 rfl (lv_at hl 0 rfl) ?_
    refine lv_iushr hx hb dX8_put_9 rfl ?_
    refine lv_topi (fun x8 ex8 => ?_)
    refine lv_sipush (v := 255) hx hb dX8_put_10 (by decide) ?_
    refine lv_iand hx hb dX8_put_13 ?_
    refine lv_topi (fun x9 ex9 => ?_)
    refine lv_istore_n (lv' := [(3, .int x9), (2, .int 16), (0, .ref t), (1, .int v)]) hx hb dX8_put_14 rfl hl (by decide) rfl (fun ls hl => ?_)
    refine lv_iload_n hx hb dX8_put_15 rfl (lv_at hl 0 rfl) ?_
    refine lv_if_eq (tgt := 24) hx hb dX8_put_16 (by decide) (fun c10 => ?_) (fun c10 => ?_)
    ·
      refine lv_iinc (v := 8) (lv' := [(2, .int 8), (3, .int x9), (0, .ref t), (1, .int v)]) hx hb dX8_put_24 hl (k := 1) rfl (by decide) (by decide) rfl (fun ls hl => ?_)
      refine lv_goto (tgt := 3) hx hb dX8_put_27 (by decide) ?_
      refine lv_iload_n hx hb dX8_put_3 rfl (lv_at hl 0 rfl) ?_
      refine lv_if_lt (tgt := 30) hx hb dX8_put_4 (by decide) (fun c11 => absurd c11 (by decide)) (fun c11 => ?_)
      refine lv_iload_n hx hb dX8_put_7 rfl (lv_at hl 3 rfl) ?_
      refine lv_iload_n hx hb dX8_put_8 rfl (lv_at hl 0 rfl) ?_
      refine lv_iushr hx hb dX8_put_9 rfl ?_
      refine lv_topi (fun x13 ex13 => ?_)
      refine lv_sipush (v := 255) hx hb dX8_put_10 (by decide) ?_
      refine lv_iand hx hb dX8_put_13 ?_
      refine lv_topi (fun x14 ex14 => ?_)
      refine lv_istore_n (lv' := [(3, .int x14), (2, .int 8), (0, .ref t), (1, .int v)]) hx hb dX8_put_14 rfl hl (by decide) rfl (fun ls hl => ?_)
      refine lv_iload_n hx hb dX8_put_15 rfl (lv_at hl 0 rfl) ?_
      refine lv_if_eq (tgt := 24) hx hb dX8_put_16 (by decide) (fun c15 => ?_) (fun c15 => ?_)
      ·
        refine lv_iinc (v := 0) (lv' := [(2, .int 0), (3, .int x14), (0, .ref t), (1, .int v)]) hx hb dX8_put_24 hl (k := 1) rfl (by decide) (by decide) rfl (fun ls hl => ?_)
        refine lv_goto (tgt := 3) hx hb dX8_put_27 (by decide) ?_
        refine lv_iload_n hx hb dX8_put_3 rfl (lv_at hl 0 rfl) ?_
        refine lv_if_lt (tgt := 30) hx hb dX8_put_4 (by decide) (fun c16 => absurd c16 (by decide)) (fun c16 => ?_)
        refine lv_iload_n hx hb dX8_put_7 rfl (lv_at hl 3 rfl) ?_
        refine lv_iload_n hx hb dX8_put_8 rfl (lv_at hl 0 rfl) ?_
        refine lv_iushr hx hb dX8_put_9 rfl ?_
        refine lv_topi (fun x18 ex18 => ?_)
        refine lv_sipush (v := 255) hx hb dX8_put_10 (by decide) ?_
        refine lv_iand hx hb dX8_put_13 ?_
        refine lv_topi (fun x19 ex19 => ?_)
        refine lv_istore_n (lv' := [(3, .int x19), (2, .int 0), (0, .ref t), (1, .int v)]) hx hb dX8_put_14 rfl hl (by decide) rfl (fun ls hl => ?_)
        refine lv_iload_n hx hb dX8_put_15 rfl (lv_at hl 0 rfl) ?_
        refine lv_if_eq (tgt := 24) hx hb dX8_put_16 (by decide) (fun c20 => ?_) (fun c20 => ?_)
        ·
          refine lv_iinc (v := (-8)) (lv' := [(2, .int (-8)), (3, .int x19), (0, .ref t), (1, .int v)]) hx hb dX8_put_24 hl (k := 1) rfl (by decide) (by decide) rfl (fun ls hl => ?_)
          refine lv_goto (tgt := 3) hx hb dX8_put_27 (by decide) ?_
          refine lv_iload_n hx hb dX8_put_3 rfl (lv_at hl 0 rfl) ?_
          refine lv_if_lt (tgt := 30) hx hb dX8_put_4 (by decide) (fun c21 => ?_) (fun c21 => absurd (by decide) c21)
          exact ret_v hx hb hr hlocks hP hD hS (Nat.le_of_ble_eq_true rfl) (Nat.le_of_ble_eq_true rfl) (⟨rw_b, (hf_t.trans (by simp only [l4U, stp, byU, ← ex3, ← ex4, ← ex8, ← ex9, ← ex13, ← ex14, ← ex18, ← ex19, c5, c10, c15, c20, reduceIte, eq_self_iff_true])), hf_tb, hfr0, hsb0⟩) dX8_put_30
        ·
          refine lv_aload_n hx hb dX8_put_19 rfl (lv_at hl 2 rfl) ?_
          refine lv_iload_n hx hb dX8_put_20 rfl (lv_at hl 0 rfl) ?_
          refine call_v (run_V (rm := { frames := 0, cells := 0, slots := 0, locals := 0 }) hx hb hml hown hts (k_X8_add l g _ _ _ t tb x19 k z2 z3 z4 (rw_b) hm_t hf_t hm_tb hf_tb ((hk).mono (by decide))) cV_X8_add wg_538 ⟨Nat.le_of_ble_eq_true rfl, Nat.le_of_ble_eq_true rfl⟩ hG hE hA hP hD hS hm_t hf_t rfl rfl hl.1 (As := [.int x19]) (rest := []) rfl (Nat.le_of_ble_eq_true rfl) dX8_put_21 ⟨Nat.le_of_ble_eq_true rfl, Nat.le_of_ble_eq_true rfl⟩) hA hD hS (fun L23 f24 H locs hp25 hP hD hS => ?_)
          obtain ⟨r26, hf27, hf28, fr29, sb30⟩ := hp25
          have hfr31 : ∀ b, b ∈ L → b ≠ t → b ≠ tb → f24 b = f b := fun b hb z0 z1 => (fr29 b (hsb0 b hb) z0 z1).trans (hfr0 b hb z0 z1)
          have hsb32 : ∀ b, b ∈ L → b ∈ L23 := fun b hb => sb30 b (hsb0 b hb)
          have hm33 := sb30 _ hm_t
          have hm34 := sb30 _ hm_tb
          refine lv_iinc (v := (-8)) (lv' := [(2, .int (-8)), (3, .int x19), (0, .ref t), (1, .int v)]) hx hb dX8_put_24 hl (k := 1) rfl (by decide) (by decide) rfl (fun ls hl => ?_)
          refine lv_goto (tgt := 3) hx hb dX8_put_27 (by decide) ?_
          refine lv_iload_n hx hb dX8_put_3 rfl (lv_at hl 0 rfl) ?_
          refine lv_if_lt (tgt := 30) hx hb dX8_put_4 (by decide) (fun c35 => ?_) (fun c35 => absurd (by decide) c35)
          exact ret_v hx hb hr hlocks hP hD hS (Nat.le_of_ble_eq_true rfl) (Nat.le_of_ble_eq_true rfl) (⟨r26, (hf27.trans (by simp only [l4U, stp, byU, ← ex3, ← ex4, ← ex8, ← ex9, ← ex13, ← ex14, ← ex18, ← ex19, c5, c10, c15, c20, reduceIte, eq_self_iff_true])), hf28, hfr31, hsb32⟩) dX8_put_30
      ·
        refine lv_aload_n hx hb dX8_put_19 rfl (lv_at hl 2 rfl) ?_
        refine lv_iload_n hx hb dX8_put_20 rfl (lv_at hl 0 rfl) ?_
        refine call_v (run_V (rm := { frames := 0, cells := 0, slots := 0, locals := 0 }) hx hb hml hown hts (k_X8_add l g _ _ _ t tb x14 k z2 z3 z4 (rw_b) hm_t hf_t hm_tb hf_tb ((hk).mono (by decide))) cV_X8_add wg_538 ⟨Nat.le_of_ble_eq_true rfl, Nat.le_of_ble_eq_true rfl⟩ hG hE hA hP hD hS hm_t hf_t rfl rfl hl.1 (As := [.int x14]) (rest := []) rfl (Nat.le_of_ble_eq_true rfl) dX8_put_21 ⟨Nat.le_of_ble_eq_true rfl, Nat.le_of_ble_eq_true rfl⟩) hA hD hS (fun L37 f38 H locs hp39 hP hD hS => ?_)
        obtain ⟨r40, hf41, hf42, fr43, sb44⟩ := hp39
        have hfr45 : ∀ b, b ∈ L → b ≠ t → b ≠ tb → f38 b = f b := fun b hb z0 z1 => (fr43 b (hsb0 b hb) z0 z1).trans (hfr0 b hb z0 z1)
        have hsb46 : ∀ b, b ∈ L → b ∈ L37 := fun b hb => sb44 b (hsb0 b hb)
        have hm47 := sb44 _ hm_t
        have hm48 := sb44 _ hm_tb
        refine lv_iinc (v := 0) (lv' := [(2, .int 0), (3, .int x14), (0, .ref t), (1, .int v)]) hx hb dX8_put_24 hl (k := 1) rfl (by decide) (by decide) rfl (fun ls hl => ?_)
        refine lv_goto (tgt := 3) hx hb dX8_put_27 (by decide) ?_
        refine lv_iload_n hx hb dX8_put_3 rfl (lv_at hl 0 rfl) ?_
        refine lv_if_lt (tgt := 30) hx hb dX8_put_4 (by decide) (fun c49 => absurd c49 (by decide)) (fun c49 => ?_)
        refine lv_iload_n hx hb dX8_put_7 rfl (lv_at hl 3 rfl) ?_
        refine lv_iload_n hx hb dX8_put_8 rfl (lv_at hl 0 rfl) ?_
        refine lv_iushr hx hb dX8_put_9 rfl ?_
        refine lv_topi (fun x51 ex51 => ?_)
        refine lv_sipush (v := 255) hx hb dX8_put_10 (by decide) ?_
        refine lv_iand hx hb dX8_put_13 ?_
        refine lv_topi (fun x52 ex52 => ?_)
        refine lv_istore_n (lv' := [(3, .int x52), (2, .int 0), (0, .ref t), (1, .int v)]) hx hb dX8_put_14 rfl hl (by decide) rfl (fun ls hl => ?_)
        refine lv_iload_n hx hb dX8_put_15 rfl (lv_at hl 0 rfl) ?_
        refine lv_if_eq (tgt := 24) hx hb dX8_put_16 (by decide) (fun c53 => ?_) (fun c53 => ?_)
        ·
          refine lv_iinc (v := (-8)) (lv' := [(2, .int (-8)), (3, .int x52), (0, .ref t), (1, .int v)]) hx hb dX8_put_24 hl (k := 1) rfl (by decide) (by decide) rfl (fun ls hl => ?_)
          refine lv_goto (tgt := 3) hx hb dX8_put_27 (by decide) ?_
          refine lv_iload_n hx hb dX8_put_3 rfl (lv_at hl 0 rfl) ?_
          refine lv_if_lt (tgt := 30) hx hb dX8_put_4 (by decide) (fun c54 => ?_) (fun c54 => absurd (by decide) c54)
          exact ret_v hx hb hr hlocks hP hD hS (Nat.le_of_ble_eq_true rfl) (Nat.le_of_ble_eq_true rfl) (⟨r40, (hf41.trans (by simp only [l4U, stp, byU, ← ex3, ← ex4, ← ex8, ← ex9, ← ex13, ← ex14, ← ex51, ← ex52, c5, c10, c15, c53, reduceIte, eq_self_iff_true])), hf42, hfr45, hsb46⟩) dX8_put_30
        ·
          refine lv_aload_n hx hb dX8_put_19 rfl (lv_at hl 2 rfl) ?_
          refine lv_iload_n hx hb dX8_put_20 rfl (lv_at hl 0 rfl) ?_
          refine call_v (run_V (rm := { frames := 0, cells := 0, slots := 0, locals := 0 }) hx hb hml hown hts (k_X8_add l g _ _ _ t tb x52 (k + 1) z2 z3 z4 (r40) hm47 hf41 hm48 hf42 ((Bd.s (hk) (by decide)).mono (by decide))) cV_X8_add wg_538 ⟨Nat.le_of_ble_eq_true rfl, Nat.le_of_ble_eq_true rfl⟩ hG hE hA hP hD hS hm47 hf41 rfl rfl hl.1 (As := [.int x52]) (rest := []) rfl (Nat.le_of_ble_eq_true rfl) dX8_put_21 ⟨Nat.le_of_ble_eq_true rfl, Nat.le_of_ble_eq_true rfl⟩) hA hD hS (fun L56 f57 H locs hp58 hP hD hS => ?_)
          obtain ⟨r59, hf60, hf61, fr62, sb63⟩ := hp58
          have hfr64 : ∀ b, b ∈ L → b ≠ t → b ≠ tb → f57 b = f b := fun b hb z0 z1 => (fr62 b (hsb46 b hb) z0 z1).trans (hfr45 b hb z0 z1)
          have hsb65 : ∀ b, b ∈ L → b ∈ L56 := fun b hb => sb63 b (hsb46 b hb)
          have hm66 := sb63 _ hm47
          have hm67 := sb63 _ hm48
          refine lv_iinc (v := (-8)) (lv' := [(2, .int (-8)), (3, .int x52), (0, .ref t), (1, .int v)]) hx hb dX8_put_24 hl (k := 1) rfl (by decide) (by decide) rfl (fun ls hl => ?_)
          refine lv_goto (tgt := 3) hx hb dX8_put_27 (by decide) ?_
          refine lv_iload_n hx hb dX8_put_3 rfl (lv_at hl 0 rfl) ?_
          refine lv_if_lt (tgt := 30) hx hb dX8_put_4 (by decide) (fun c68 => ?_) (fun c68 => absurd (by decide) c68)
          exact ret_v hx hb hr hlocks hP hD hS (Nat.le_of_ble_eq_true rfl) (Nat.le_of_ble_eq_true rfl) (⟨r59, (hf60.trans (by simp only [l4U, stp, byU, ← ex3, ← ex4, ← ex8, ← ex9, ← ex13, ← ex14, ← ex51, ← ex52, c5, c10, c15, c53, reduceIte, eq_self_iff_true])), hf61, hfr64, hsb65⟩) dX8_put_30
    ·
      refine lv_aload_n hx hb dX8_put_19 rfl (lv_at hl 2 rfl) ?_
      refine lv_iload_n hx hb dX8_put_20 rfl (lv_at hl 0 rfl) ?_
      refine call_v (run_V (rm := { frames := 0, cells := 0, slots := 0, locals := 0 }) hx hb hml hown hts (k_X8_add l g _ _ _ t tb x9 k z2 z3 z4 (rw_b) hm_t hf_t hm_tb hf_tb ((hk).mono (by decide))) cV_X8_add wg_538 ⟨Nat.le_of_ble_eq_true rfl, Nat.le_of_ble_eq_true rfl⟩ hG hE hA hP hD hS hm_t hf_t rfl rfl hl.1 (As := [.int x9]) (rest := []) rfl (Nat.le_of_ble_eq_true rfl) dX8_put_21 ⟨Nat.le_of_ble_eq_true rfl, Nat.le_of_ble_eq_true rfl⟩) hA hD hS (fun L70 f71 H locs hp72 hP hD hS => ?_)
      obtain ⟨r73, hf74, hf75, fr76, sb77⟩ := hp72
      have hfr78 : ∀ b, b ∈ L → b ≠ t → b ≠ tb → f71 b = f b := fun b hb z0 z1 => (fr76 b (hsb0 b hb) z0 z1).trans (hfr0 b hb z0 z1)
      have hsb79 : ∀ b, b ∈ L → b ∈ L70 := fun b hb => sb77 b (hsb0 b hb)
      have hm80 := sb77 _ hm_t
      have hm81 := sb77 _ hm_tb
      refine lv_iinc (v := 8) (lv' := [(2, .int 8), (3, .int x9), (0, .ref t), (1, .int v)]) hx hb dX8_put_24 hl (k := 1) rfl (by decide) (by decide) rfl (fun ls hl => ?_)
      refine lv_goto (tgt := 3) hx hb dX8_put_27 (by decide) ?_
      refine lv_iload_n hx hb dX8_put_3 rfl (lv_at hl 0 rfl) ?_
      refine lv_if_lt (tgt := 30) hx hb dX8_put_4 (by decide) (fun c82 => absurd c82 (by decide)) (fun c82 => ?_)
      refine lv_iload_n hx hb dX8_put_7 rfl (lv_at hl 3 rfl) ?_
      refine lv_iload_n hx hb dX8_put_8 rfl (lv_at hl 0 rfl) ?_
      refine lv_iushr hx hb dX8_put_9 rfl ?_
      refine lv_topi (fun x84 ex84 => ?_)
      refine lv_sipush (v := 255) hx hb dX8_put_10 (by decide) ?_
      refine lv_iand hx hb dX8_put_13 ?_
      refine lv_topi (fun x85 ex85 => ?_)
      refine lv_istore_n (lv' := [(3, .int x85), (2, .int 8), (0, .ref t), (1, .int v)]) hx hb dX8_put_14 rfl hl (by decide) rfl (fun ls hl => ?_)
      refine lv_iload_n hx hb dX8_put_15 rfl (lv_at hl 0 rfl) ?_
      refine lv_if_eq (tgt := 24) hx hb dX8_put_16 (by decide) (fun c86 => ?_) (fun c86 => ?_)
      ·
        refine lv_iinc (v := 0) (lv' := [(2, .int 0), (3, .int x85), (0, .ref t), (1, .int v)]) hx hb dX8_put_24 hl (k := 1) rfl (by decide) (by decide) rfl (fun ls hl => ?_)
        refine lv_goto (tgt := 3) hx hb dX8_put_27 (by decide) ?_
        refine lv_iload_n hx hb dX8_put_3 rfl (lv_at hl 0 rfl) ?_
        refine lv_if_lt (tgt := 30) hx hb dX8_put_4 (by decide) (fun c87 => absurd c87 (by decide)) (fun c87 => ?_)
        refine lv_iload_n hx hb dX8_put_7 rfl (lv_at hl 3 rfl) ?_
        refine lv_iload_n hx hb dX8_put_8 rfl (lv_at hl 0 rfl) ?_
        refine lv_iushr hx hb dX8_put_9 rfl ?_
        refine lv_topi (fun x89 ex89 => ?_)
        refine lv_sipush (v := 255) hx hb dX8_put_10 (by decide) ?_
        refine lv_iand hx hb dX8_put_13 ?_
        refine lv_topi (fun x90 ex90 => ?_)
        refine lv_istore_n (lv' := [(3, .int x90), (2, .int 0), (0, .ref t), (1, .int v)]) hx hb dX8_put_14 rfl hl (by decide) rfl (fun ls hl => ?_)
        refine lv_iload_n hx hb dX8_put_15 rfl (lv_at hl 0 rfl) ?_
        refine lv_if_eq (tgt := 24) hx hb dX8_put_16 (by decide) (fun c91 => ?_) (fun c91 => ?_)
        ·
          refine lv_iinc (v := (-8)) (lv' := [(2, .int (-8)), (3, .int x90), (0, .ref t), (1, .int v)]) hx hb dX8_put_24 hl (k := 1) rfl (by decide) (by decide) rfl (fun ls hl => ?_)
          refine lv_goto (tgt := 3) hx hb dX8_put_27 (by decide) ?_
          refine lv_iload_n hx hb dX8_put_3 rfl (lv_at hl 0 rfl) ?_
          refine lv_if_lt (tgt := 30) hx hb dX8_put_4 (by decide) (fun c92 => ?_) (fun c92 => absurd (by decide) c92)
          exact ret_v hx hb hr hlocks hP hD hS (Nat.le_of_ble_eq_true rfl) (Nat.le_of_ble_eq_true rfl) (⟨r73, (hf74.trans (by simp only [l4U, stp, byU, ← ex3, ← ex4, ← ex8, ← ex9, ← ex84, ← ex85, ← ex89, ← ex90, c5, c10, c86, c91, reduceIte, eq_self_iff_true])), hf75, hfr78, hsb79⟩) dX8_put_30
        ·
          refine lv_aload_n hx hb dX8_put_19 rfl (lv_at hl 2 rfl) ?_
          refine lv_iload_n hx hb dX8_put_20 rfl (lv_at hl 0 rfl) ?_
          refine call_v (run_V (rm := { frames := 0, cells := 0, slots := 0, locals := 0 }) hx hb hml hown hts (k_X8_add l g _ _ _ t tb x90 (k + 1) z2 z3 z4 (r73) hm80 hf74 hm81 hf75 ((Bd.s (hk) (by decide)).mono (by decide))) cV_X8_add wg_538 ⟨Nat.le_of_ble_eq_true rfl, Nat.le_of_ble_eq_true rfl⟩ hG hE hA hP hD hS hm80 hf74 rfl rfl hl.1 (As := [.int x90]) (rest := []) rfl (Nat.le_of_ble_eq_true rfl) dX8_put_21 ⟨Nat.le_of_ble_eq_true rfl, Nat.le_of_ble_eq_true rfl⟩) hA hD hS (fun L94 f95 H locs hp96 hP hD hS => ?_)
          obtain ⟨r97, hf98, hf99, fr100, sb101⟩ := hp96
          have hfr102 : ∀ b, b ∈ L → b ≠ t → b ≠ tb → f95 b = f b := fun b hb z0 z1 => (fr100 b (hsb79 b hb) z0 z1).trans (hfr78 b hb z0 z1)
          have hsb103 : ∀ b, b ∈ L → b ∈ L94 := fun b hb => sb101 b (hsb79 b hb)
          have hm104 := sb101 _ hm80
          have hm105 := sb101 _ hm81
          refine lv_iinc (v := (-8)) (lv' := [(2, .int (-8)), (3, .int x90), (0, .ref t), (1, .int v)]) hx hb dX8_put_24 hl (k := 1) rfl (by decide) (by decide) rfl (fun ls hl => ?_)
          refine lv_goto (tgt := 3) hx hb dX8_put_27 (by decide) ?_
          refine lv_iload_n hx hb dX8_put_3 rfl (lv_at hl 0 rfl) ?_
          refine lv_if_lt (tgt := 30) hx hb dX8_put_4 (by decide) (fun c106 => ?_) (fun c106 => absurd (by decide) c106)
          exact ret_v hx hb hr hlocks hP hD hS (Nat.le_of_ble_eq_true rfl) (Nat.le_of_ble_eq_true rfl) (⟨r97, (hf98.trans (by simp only [l4U, stp, byU, ← ex3, ← ex4, ← ex8, ← ex9, ← ex84, ← ex85, ← ex89, ← ex90, c5, c10, c86, c91, reduceIte, eq_self_iff_true])), hf99, hfr102, hsb103⟩) dX8_put_30
      ·
        refine lv_aload_n hx hb dX8_put_19 rfl (lv_at hl 2 rfl) ?_
        refine lv_iload_n hx hb dX8_put_20 rfl (lv_at hl 0 rfl) ?_
        refine call_v (run_V (rm := { frames := 0, cells := 0, slots := 0, locals := 0 }) hx hb hml hown hts (k_X8_add l g _ _ _ t tb x85 (k + 1) z2 z3 z4 (r73) hm80 hf74 hm81 hf75 ((Bd.s (hk) (by decide)).mono (by decide))) cV_X8_add wg_538 ⟨Nat.le_of_ble_eq_true rfl, Nat.le_of_ble_eq_true rfl⟩ hG hE hA hP hD hS hm80 hf74 rfl rfl hl.1 (As := [.int x85]) (rest := []) rfl (Nat.le_of_ble_eq_true rfl) dX8_put_21 ⟨Nat.le_of_ble_eq_true rfl, Nat.le_of_ble_eq_true rfl⟩) hA hD hS (fun L108 f109 H locs hp110 hP hD hS => ?_)
        obtain ⟨r111, hf112, hf113, fr114, sb115⟩ := hp110
        have hfr116 : ∀ b, b ∈ L → b ≠ t → b ≠ tb → f109 b = f b := fun b hb z0 z1 => (fr114 b (hsb79 b hb) z0 z1).trans (hfr78 b hb z0 z1)
        have hsb117 : ∀ b, b ∈ L → b ∈ L108 := fun b hb => sb115 b (hsb79 b hb)
        have hm118 := sb115 _ hm80
        have hm119 := sb115 _ hm81
        refine lv_iinc (v := 0) (lv' := [(2, .int 0), (3, .int x85), (0, .ref t), (1, .int v)]) hx hb dX8_put_24 hl (k := 1) rfl (by decide) (by decide) rfl (fun ls hl => ?_)
        refine lv_goto (tgt := 3) hx hb dX8_put_27 (by decide) ?_
        refine lv_iload_n hx hb dX8_put_3 rfl (lv_at hl 0 rfl) ?_
        refine lv_if_lt (tgt := 30) hx hb dX8_put_4 (by decide) (fun c120 => absurd c120 (by decide)) (fun c120 => ?_)
        refine lv_iload_n hx hb dX8_put_7 rfl (lv_at hl 3 rfl) ?_
        refine lv_iload_n hx hb dX8_put_8 rfl (lv_at hl 0 rfl) ?_
        refine lv_iushr hx hb dX8_put_9 rfl ?_
        refine lv_topi (fun x122 ex122 => ?_)
        refine lv_sipush (v := 255) hx hb dX8_put_10 (by decide) ?_
        refine lv_iand hx hb dX8_put_13 ?_
        refine lv_topi (fun x123 ex123 => ?_)
        refine lv_istore_n (lv' := [(3, .int x123), (2, .int 0), (0, .ref t), (1, .int v)]) hx hb dX8_put_14 rfl hl (by decide) rfl (fun ls hl => ?_)
        refine lv_iload_n hx hb dX8_put_15 rfl (lv_at hl 0 rfl) ?_
        refine lv_if_eq (tgt := 24) hx hb dX8_put_16 (by decide) (fun c124 => ?_) (fun c124 => ?_)
        ·
          refine lv_iinc (v := (-8)) (lv' := [(2, .int (-8)), (3, .int x123), (0, .ref t), (1, .int v)]) hx hb dX8_put_24 hl (k := 1) rfl (by decide) (by decide) rfl (fun ls hl => ?_)
          refine lv_goto (tgt := 3) hx hb dX8_put_27 (by decide) ?_
          refine lv_iload_n hx hb dX8_put_3 rfl (lv_at hl 0 rfl) ?_
          refine lv_if_lt (tgt := 30) hx hb dX8_put_4 (by decide) (fun c125 => ?_) (fun c125 => absurd (by decide) c125)
          exact ret_v hx hb hr hlocks hP hD hS (Nat.le_of_ble_eq_true rfl) (Nat.le_of_ble_eq_true rfl) (⟨r111, (hf112.trans (by simp only [l4U, stp, byU, ← ex3, ← ex4, ← ex8, ← ex9, ← ex84, ← ex85, ← ex122, ← ex123, c5, c10, c86, c124, reduceIte, eq_self_iff_true])), hf113, hfr116, hsb117⟩) dX8_put_30
        ·
          refine lv_aload_n hx hb dX8_put_19 rfl (lv_at hl 2 rfl) ?_
          refine lv_iload_n hx hb dX8_put_20 rfl (lv_at hl 0 rfl) ?_
          refine call_v (run_V (rm := { frames := 0, cells := 0, slots := 0, locals := 0 }) hx hb hml hown hts (k_X8_add l g _ _ _ t tb x123 ((k + 1) + 1) z2 z3 z4 (r111) hm118 hf112 hm119 hf113 ((Bd.s (Bd.s (hk) (by decide)) (by decide)).mono (by decide))) cV_X8_add wg_538 ⟨Nat.le_of_ble_eq_true rfl, Nat.le_of_ble_eq_true rfl⟩ hG hE hA hP hD hS hm118 hf112 rfl rfl hl.1 (As := [.int x123]) (rest := []) rfl (Nat.le_of_ble_eq_true rfl) dX8_put_21 ⟨Nat.le_of_ble_eq_true rfl, Nat.le_of_ble_eq_true rfl⟩) hA hD hS (fun L127 f128 H locs hp129 hP hD hS => ?_)
          obtain ⟨r130, hf131, hf132, fr133, sb134⟩ := hp129
          have hfr135 : ∀ b, b ∈ L → b ≠ t → b ≠ tb → f128 b = f b := fun b hb z0 z1 => (fr133 b (hsb117 b hb) z0 z1).trans (hfr116 b hb z0 z1)
          have hsb136 : ∀ b, b ∈ L → b ∈ L127 := fun b hb => sb134 b (hsb117 b hb)
          have hm137 := sb134 _ hm118
          have hm138 := sb134 _ hm119
          refine lv_iinc (v := (-8)) (lv' := [(2, .int (-8)), (3, .int x123), (0, .ref t), (1, .int v)]) hx hb dX8_put_24 hl (k := 1) rfl (by decide) (by decide) rfl (fun ls hl => ?_)
          refine lv_goto (tgt := 3) hx hb dX8_put_27 (by decide) ?_
          refine lv_iload_n hx hb dX8_put_3 rfl (lv_at hl 0 rfl) ?_
          refine lv_if_lt (tgt := 30) hx hb dX8_put_4 (by decide) (fun c139 => ?_) (fun c139 => absurd (by decide) c139)
          exact ret_v hx hb hr hlocks hP hD hS (Nat.le_of_ble_eq_true rfl) (Nat.le_of_ble_eq_true rfl) (⟨r130, (hf131.trans (by simp only [l4U, stp, byU, ← ex3, ← ex4, ← ex8, ← ex9, ← ex84, ← ex85, ← ex122, ← ex123, c5, c10, c86, c124, reduceIte, eq_self_iff_true])), hf132, hfr135, hsb136⟩) dX8_put_30
  ·
    refine lv_aload_n hx hb dX8_put_19 rfl (lv_at hl 2 rfl) ?_
    refine lv_iload_n hx hb dX8_put_20 rfl (lv_at hl 0 rfl) ?_
    refine call_v (run_V (rm := { frames := 0, cells := 0, slots := 0, locals := 0 }) hx hb hml hown hts (k_X8_add l g _ _ _ t tb x4 k z2 z3 z4 (rw_b) hm_t hf_t hm_tb hf_tb ((hk).mono (by decide))) cV_X8_add wg_538 ⟨Nat.le_of_ble_eq_true rfl, Nat.le_of_ble_eq_true rfl⟩ hG hE hA hP hD hS hm_t hf_t rfl rfl hl.1 (As := [.int x4]) (rest := []) rfl (Nat.le_of_ble_eq_true rfl) dX8_put_21 ⟨Nat.le_of_ble_eq_true rfl, Nat.le_of_ble_eq_true rfl⟩) hA hD hS (fun L141 f142 H locs hp143 hP hD hS => ?_)
    obtain ⟨r144, hf145, hf146, fr147, sb148⟩ := hp143
    have hfr149 : ∀ b, b ∈ L → b ≠ t → b ≠ tb → f142 b = f b := fun b hb z0 z1 => (fr147 b (hsb0 b hb) z0 z1).trans (hfr0 b hb z0 z1)
    have hsb150 : ∀ b, b ∈ L → b ∈ L141 := fun b hb => sb148 b (hsb0 b hb)
    have hm151 := sb148 _ hm_t
    have hm152 := sb148 _ hm_tb
    refine lv_iinc (v := 16) (lv' := [(2, .int 16), (3, .int x4), (0, .ref t), (1, .int v)]) hx hb dX8_put_24 hl (k := 1) rfl (by decide) (by decide) rfl (fun ls hl => ?_)
    refine lv_goto (tgt := 3) hx hb dX8_put_27 (by decide) ?_
    refine lv_iload_n hx hb dX8_put_3 rfl (lv_at hl 0 rfl) ?_
    refine lv_if_lt (tgt := 30) hx hb dX8_put_4 (by decide) (fun c153 => absurd c153 (by decide)) (fun c153 => ?_)
    refine lv_iload_n hx hb dX8_put_7 rfl (lv_at hl 3 rfl) ?_
    refine lv_iload_n hx hb dX8_put_8 rfl (lv_at hl 0 rfl) ?_
    refine lv_iushr hx hb dX8_put_9 rfl ?_
    refine lv_topi (fun x155 ex155 => ?_)
    refine lv_sipush (v := 255) hx hb dX8_put_10 (by decide) ?_
    refine lv_iand hx hb dX8_put_13 ?_
    refine lv_topi (fun x156 ex156 => ?_)
    refine lv_istore_n (lv' := [(3, .int x156), (2, .int 16), (0, .ref t), (1, .int v)]) hx hb dX8_put_14 rfl hl (by decide) rfl (fun ls hl => ?_)
    refine lv_iload_n hx hb dX8_put_15 rfl (lv_at hl 0 rfl) ?_
    refine lv_if_eq (tgt := 24) hx hb dX8_put_16 (by decide) (fun c157 => ?_) (fun c157 => ?_)
    ·
      refine lv_iinc (v := 8) (lv' := [(2, .int 8), (3, .int x156), (0, .ref t), (1, .int v)]) hx hb dX8_put_24 hl (k := 1) rfl (by decide) (by decide) rfl (fun ls hl => ?_)
      refine lv_goto (tgt := 3) hx hb dX8_put_27 (by decide) ?_
      refine lv_iload_n hx hb dX8_put_3 rfl (lv_at hl 0 rfl) ?_
      refine lv_if_lt (tgt := 30) hx hb dX8_put_4 (by decide) (fun c158 => absurd c158 (by decide)) (fun c158 => ?_)
      refine lv_iload_n hx hb dX8_put_7 rfl (lv_at hl 3 rfl) ?_
      refine lv_iload_n hx hb dX8_put_8 rfl (lv_at hl 0 rfl) ?_
      refine lv_iushr hx hb dX8_put_9 rfl ?_
      refine lv_topi (fun x160 ex160 => ?_)
      refine lv_sipush (v := 255) hx hb dX8_put_10 (by decide) ?_
      refine lv_iand hx hb dX8_put_13 ?_
      refine lv_topi (fun x161 ex161 => ?_)
      refine lv_istore_n (lv' := [(3, .int x161), (2, .int 8), (0, .ref t), (1, .int v)]) hx hb dX8_put_14 rfl hl (by decide) rfl (fun ls hl => ?_)
      refine lv_iload_n hx hb dX8_put_15 rfl (lv_at hl 0 rfl) ?_
      refine lv_if_eq (tgt := 24) hx hb dX8_put_16 (by decide) (fun c162 => ?_) (fun c162 => ?_)
      ·
        refine lv_iinc (v := 0) (lv' := [(2, .int 0), (3, .int x161), (0, .ref t), (1, .int v)]) hx hb dX8_put_24 hl (k := 1) rfl (by decide) (by decide) rfl (fun ls hl => ?_)
        refine lv_goto (tgt := 3) hx hb dX8_put_27 (by decide) ?_
        refine lv_iload_n hx hb dX8_put_3 rfl (lv_at hl 0 rfl) ?_
        refine lv_if_lt (tgt := 30) hx hb dX8_put_4 (by decide) (fun c163 => absurd c163 (by decide)) (fun c163 => ?_)
        refine lv_iload_n hx hb dX8_put_7 rfl (lv_at hl 3 rfl) ?_
        refine lv_iload_n hx hb dX8_put_8 rfl (lv_at hl 0 rfl) ?_
        refine lv_iushr hx hb dX8_put_9 rfl ?_
        refine lv_topi (fun x165 ex165 => ?_)
        refine lv_sipush (v := 255) hx hb dX8_put_10 (by decide) ?_
        refine lv_iand hx hb dX8_put_13 ?_
        refine lv_topi (fun x166 ex166 => ?_)
        refine lv_istore_n (lv' := [(3, .int x166), (2, .int 0), (0, .ref t), (1, .int v)]) hx hb dX8_put_14 rfl hl (by decide) rfl (fun ls hl => ?_)
        refine lv_iload_n hx hb dX8_put_15 rfl (lv_at hl 0 rfl) ?_
        refine lv_if_eq (tgt := 24) hx hb dX8_put_16 (by decide) (fun c167 => ?_) (fun c167 => ?_)
        ·
          refine lv_iinc (v := (-8)) (lv' := [(2, .int (-8)), (3, .int x166), (0, .ref t), (1, .int v)]) hx hb dX8_put_24 hl (k := 1) rfl (by decide) (by decide) rfl (fun ls hl => ?_)
          refine lv_goto (tgt := 3) hx hb dX8_put_27 (by decide) ?_
          refine lv_iload_n hx hb dX8_put_3 rfl (lv_at hl 0 rfl) ?_
          refine lv_if_lt (tgt := 30) hx hb dX8_put_4 (by decide) (fun c168 => ?_) (fun c168 => absurd (by decide) c168)
          exact ret_v hx hb hr hlocks hP hD hS (Nat.le_of_ble_eq_true rfl) (Nat.le_of_ble_eq_true rfl) (⟨r144, (hf145.trans (by simp only [l4U, stp, byU, ← ex3, ← ex4, ← ex155, ← ex156, ← ex160, ← ex161, ← ex165, ← ex166, c5, c157, c162, c167, reduceIte, eq_self_iff_true])), hf146, hfr149, hsb150⟩) dX8_put_30
        ·
          refine lv_aload_n hx hb dX8_put_19 rfl (lv_at hl 2 rfl) ?_
          refine lv_iload_n hx hb dX8_put_20 rfl (lv_at hl 0 rfl) ?_
          refine call_v (run_V (rm := { frames := 0, cells := 0, slots := 0, locals := 0 }) hx hb hml hown hts (k_X8_add l g _ _ _ t tb x166 (k + 1) z2 z3 z4 (r144) hm151 hf145 hm152 hf146 ((Bd.s (hk) (by decide)).mono (by decide))) cV_X8_add wg_538 ⟨Nat.le_of_ble_eq_true rfl, Nat.le_of_ble_eq_true rfl⟩ hG hE hA hP hD hS hm151 hf145 rfl rfl hl.1 (As := [.int x166]) (rest := []) rfl (Nat.le_of_ble_eq_true rfl) dX8_put_21 ⟨Nat.le_of_ble_eq_true rfl, Nat.le_of_ble_eq_true rfl⟩) hA hD hS (fun L170 f171 H locs hp172 hP hD hS => ?_)
          obtain ⟨r173, hf174, hf175, fr176, sb177⟩ := hp172
          have hfr178 : ∀ b, b ∈ L → b ≠ t → b ≠ tb → f171 b = f b := fun b hb z0 z1 => (fr176 b (hsb150 b hb) z0 z1).trans (hfr149 b hb z0 z1)
          have hsb179 : ∀ b, b ∈ L → b ∈ L170 := fun b hb => sb177 b (hsb150 b hb)
          have hm180 := sb177 _ hm151
          have hm181 := sb177 _ hm152
          refine lv_iinc (v := (-8)) (lv' := [(2, .int (-8)), (3, .int x166), (0, .ref t), (1, .int v)]) hx hb dX8_put_24 hl (k := 1) rfl (by decide) (by decide) rfl (fun ls hl => ?_)
          refine lv_goto (tgt := 3) hx hb dX8_put_27 (by decide) ?_
          refine lv_iload_n hx hb dX8_put_3 rfl (lv_at hl 0 rfl) ?_
          refine lv_if_lt (tgt := 30) hx hb dX8_put_4 (by decide) (fun c182 => ?_) (fun c182 => absurd (by decide) c182)
          exact ret_v hx hb hr hlocks hP hD hS (Nat.le_of_ble_eq_true rfl) (Nat.le_of_ble_eq_true rfl) (⟨r173, (hf174.trans (by simp only [l4U, stp, byU, ← ex3, ← ex4, ← ex155, ← ex156, ← ex160, ← ex161, ← ex165, ← ex166, c5, c157, c162, c167, reduceIte, eq_self_iff_true])), hf175, hfr178, hsb179⟩) dX8_put_30
      ·
        refine lv_aload_n hx hb dX8_put_19 rfl (lv_at hl 2 rfl) ?_
        refine lv_iload_n hx hb dX8_put_20 rfl (lv_at hl 0 rfl) ?_
        refine call_v (run_V (rm := { frames := 0, cells := 0, slots := 0, locals := 0 }) hx hb hml hown hts (k_X8_add l g _ _ _ t tb x161 (k + 1) z2 z3 z4 (r144) hm151 hf145 hm152 hf146 ((Bd.s (hk) (by decide)).mono (by decide))) cV_X8_add wg_538 ⟨Nat.le_of_ble_eq_true rfl, Nat.le_of_ble_eq_true rfl⟩ hG hE hA hP hD hS hm151 hf145 rfl rfl hl.1 (As := [.int x161]) (rest := []) rfl (Nat.le_of_ble_eq_true rfl) dX8_put_21 ⟨Nat.le_of_ble_eq_true rfl, Nat.le_of_ble_eq_true rfl⟩) hA hD hS (fun L184 f185 H locs hp186 hP hD hS => ?_)
        obtain ⟨r187, hf188, hf189, fr190, sb191⟩ := hp186
        have hfr192 : ∀ b, b ∈ L → b ≠ t → b ≠ tb → f185 b = f b := fun b hb z0 z1 => (fr190 b (hsb150 b hb) z0 z1).trans (hfr149 b hb z0 z1)
        have hsb193 : ∀ b, b ∈ L → b ∈ L184 := fun b hb => sb191 b (hsb150 b hb)
        have hm194 := sb191 _ hm151
        have hm195 := sb191 _ hm152
        refine lv_iinc (v := 0) (lv' := [(2, .int 0), (3, .int x161), (0, .ref t), (1, .int v)]) hx hb dX8_put_24 hl (k := 1) rfl (by decide) (by decide) rfl (fun ls hl => ?_)
        refine lv_goto (tgt := 3) hx hb dX8_put_27 (by decide) ?_
        refine lv_iload_n hx hb dX8_put_3 rfl (lv_at hl 0 rfl) ?_
        refine lv_if_lt (tgt := 30) hx hb dX8_put_4 (by decide) (fun c196 => absurd c196 (by decide)) (fun c196 => ?_)
        refine lv_iload_n hx hb dX8_put_7 rfl (lv_at hl 3 rfl) ?_
        refine lv_iload_n hx hb dX8_put_8 rfl (lv_at hl 0 rfl) ?_
        refine lv_iushr hx hb dX8_put_9 rfl ?_
        refine lv_topi (fun x198 ex198 => ?_)
        refine lv_sipush (v := 255) hx hb dX8_put_10 (by decide) ?_
        refine lv_iand hx hb dX8_put_13 ?_
        refine lv_topi (fun x199 ex199 => ?_)
        refine lv_istore_n (lv' := [(3, .int x199), (2, .int 0), (0, .ref t), (1, .int v)]) hx hb dX8_put_14 rfl hl (by decide) rfl (fun ls hl => ?_)
        refine lv_iload_n hx hb dX8_put_15 rfl (lv_at hl 0 rfl) ?_
        refine lv_if_eq (tgt := 24) hx hb dX8_put_16 (by decide) (fun c200 => ?_) (fun c200 => ?_)
        ·
          refine lv_iinc (v := (-8)) (lv' := [(2, .int (-8)), (3, .int x199), (0, .ref t), (1, .int v)]) hx hb dX8_put_24 hl (k := 1) rfl (by decide) (by decide) rfl (fun ls hl => ?_)
          refine lv_goto (tgt := 3) hx hb dX8_put_27 (by decide) ?_
          refine lv_iload_n hx hb dX8_put_3 rfl (lv_at hl 0 rfl) ?_
          refine lv_if_lt (tgt := 30) hx hb dX8_put_4 (by decide) (fun c201 => ?_) (fun c201 => absurd (by decide) c201)
          exact ret_v hx hb hr hlocks hP hD hS (Nat.le_of_ble_eq_true rfl) (Nat.le_of_ble_eq_true rfl) (⟨r187, (hf188.trans (by simp only [l4U, stp, byU, ← ex3, ← ex4, ← ex155, ← ex156, ← ex160, ← ex161, ← ex198, ← ex199, c5, c157, c162, c200, reduceIte, eq_self_iff_true])), hf189, hfr192, hsb193⟩) dX8_put_30
        ·
          refine lv_aload_n hx hb dX8_put_19 rfl (lv_at hl 2 rfl) ?_
          refine lv_iload_n hx hb dX8_put_20 rfl (lv_at hl 0 rfl) ?_
          refine call_v (run_V (rm := { frames := 0, cells := 0, slots := 0, locals := 0 }) hx hb hml hown hts (k_X8_add l g _ _ _ t tb x199 ((k + 1) + 1) z2 z3 z4 (r187) hm194 hf188 hm195 hf189 ((Bd.s (Bd.s (hk) (by decide)) (by decide)).mono (by decide))) cV_X8_add wg_538 ⟨Nat.le_of_ble_eq_true rfl, Nat.le_of_ble_eq_true rfl⟩ hG hE hA hP hD hS hm194 hf188 rfl rfl hl.1 (As := [.int x199]) (rest := []) rfl (Nat.le_of_ble_eq_true rfl) dX8_put_21 ⟨Nat.le_of_ble_eq_true rfl, Nat.le_of_ble_eq_true rfl⟩) hA hD hS (fun L203 f204 H locs hp205 hP hD hS => ?_)
          obtain ⟨r206, hf207, hf208, fr209, sb210⟩ := hp205
          have hfr211 : ∀ b, b ∈ L → b ≠ t → b ≠ tb → f204 b = f b := fun b hb z0 z1 => (fr209 b (hsb193 b hb) z0 z1).trans (hfr192 b hb z0 z1)
          have hsb212 : ∀ b, b ∈ L → b ∈ L203 := fun b hb => sb210 b (hsb193 b hb)
          have hm213 := sb210 _ hm194
          have hm214 := sb210 _ hm195
          refine lv_iinc (v := (-8)) (lv' := [(2, .int (-8)), (3, .int x199), (0, .ref t), (1, .int v)]) hx hb dX8_put_24 hl (k := 1) rfl (by decide) (by decide) rfl (fun ls hl => ?_)
          refine lv_goto (tgt := 3) hx hb dX8_put_27 (by decide) ?_
          refine lv_iload_n hx hb dX8_put_3 rfl (lv_at hl 0 rfl) ?_
          refine lv_if_lt (tgt := 30) hx hb dX8_put_4 (by decide) (fun c215 => ?_) (fun c215 => absurd (by decide) c215)
          exact ret_v hx hb hr hlocks hP hD hS (Nat.le_of_ble_eq_true rfl) (Nat.le_of_ble_eq_true rfl) (⟨r206, (hf207.trans (by simp only [l4U, stp, byU, ← ex3, ← ex4, ← ex155, ← ex156, ← ex160, ← ex161, ← ex198, ← ex199, c5, c157, c162, c200, reduceIte, eq_self_iff_true])), hf208, hfr211, hsb212⟩) dX8_put_30
    ·
      refine lv_aload_n hx hb dX8_put_19 rfl (lv_at hl 2 rfl) ?_
      refine lv_iload_n hx hb dX8_put_20 rfl (lv_at hl 0 rfl) ?_
      refine call_v (run_V (rm := { frames := 0, cells := 0, slots := 0, locals := 0 }) hx hb hml hown hts (k_X8_add l g _ _ _ t tb x156 (k + 1) z2 z3 z4 (r144) hm151 hf145 hm152 hf146 ((Bd.s (hk) (by decide)).mono (by decide))) cV_X8_add wg_538 ⟨Nat.le_of_ble_eq_true rfl, Nat.le_of_ble_eq_true rfl⟩ hG hE hA hP hD hS hm151 hf145 rfl rfl hl.1 (As := [.int x156]) (rest := []) rfl (Nat.le_of_ble_eq_true rfl) dX8_put_21 ⟨Nat.le_of_ble_eq_true rfl, Nat.le_of_ble_eq_true rfl⟩) hA hD hS (fun L217 f218 H locs hp219 hP hD hS => ?_)
      obtain ⟨r220, hf221, hf222, fr223, sb224⟩ := hp219
      have hfr225 : ∀ b, b ∈ L → b ≠ t → b ≠ tb → f218 b = f b := fun b hb z0 z1 => (fr223 b (hsb150 b hb) z0 z1).trans (hfr149 b hb z0 z1)
      have hsb226 : ∀ b, b ∈ L → b ∈ L217 := fun b hb => sb224 b (hsb150 b hb)
      have hm227 := sb224 _ hm151
      have hm228 := sb224 _ hm152
      refine lv_iinc (v := 8) (lv' := [(2, .int 8), (3, .int x156), (0, .ref t), (1, .int v)]) hx hb dX8_put_24 hl (k := 1) rfl (by decide) (by decide) rfl (fun ls hl => ?_)
      refine lv_goto (tgt := 3) hx hb dX8_put_27 (by decide) ?_
      refine lv_iload_n hx hb dX8_put_3 rfl (lv_at hl 0 rfl) ?_
      refine lv_if_lt (tgt := 30) hx hb dX8_put_4 (by decide) (fun c229 => absurd c229 (by decide)) (fun c229 => ?_)
      refine lv_iload_n hx hb dX8_put_7 rfl (lv_at hl 3 rfl) ?_
      refine lv_iload_n hx hb dX8_put_8 rfl (lv_at hl 0 rfl) ?_
      refine lv_iushr hx hb dX8_put_9 rfl ?_
      refine lv_topi (fun x231 ex231 => ?_)
      refine lv_sipush (v := 255) hx hb dX8_put_10 (by decide) ?_
      refine lv_iand hx hb dX8_put_13 ?_
      refine lv_topi (fun x232 ex232 => ?_)
      refine lv_istore_n (lv' := [(3, .int x232), (2, .int 8), (0, .ref t), (1, .int v)]) hx hb dX8_put_14 rfl hl (by decide) rfl (fun ls hl => ?_)
      refine lv_iload_n hx hb dX8_put_15 rfl (lv_at hl 0 rfl) ?_
      refine lv_if_eq (tgt := 24) hx hb dX8_put_16 (by decide) (fun c233 => ?_) (fun c233 => ?_)
      ·
        refine lv_iinc (v := 0) (lv' := [(2, .int 0), (3, .int x232), (0, .ref t), (1, .int v)]) hx hb dX8_put_24 hl (k := 1) rfl (by decide) (by decide) rfl (fun ls hl => ?_)
        refine lv_goto (tgt := 3) hx hb dX8_put_27 (by decide) ?_
        refine lv_iload_n hx hb dX8_put_3 rfl (lv_at hl 0 rfl) ?_
        refine lv_if_lt (tgt := 30) hx hb dX8_put_4 (by decide) (fun c234 => absurd c234 (by decide)) (fun c234 => ?_)
        refine lv_iload_n hx hb dX8_put_7 rfl (lv_at hl 3 rfl) ?_
        refine lv_iload_n hx hb dX8_put_8 rfl (lv_at hl 0 rfl) ?_
        refine lv_iushr hx hb dX8_put_9 rfl ?_
        refine lv_topi (fun x236 ex236 => ?_)
        refine lv_sipush (v := 255) hx hb dX8_put_10 (by decide) ?_
        refine lv_iand hx hb dX8_put_13 ?_
        refine lv_topi (fun x237 ex237 => ?_)
        refine lv_istore_n (lv' := [(3, .int x237), (2, .int 0), (0, .ref t), (1, .int v)]) hx hb dX8_put_14 rfl hl (by decide) rfl (fun ls hl => ?_)
        refine lv_iload_n hx hb dX8_put_15 rfl (lv_at hl 0 rfl) ?_
        refine lv_if_eq (tgt := 24) hx hb dX8_put_16 (by decide) (fun c238 => ?_) (fun c238 => ?_)
        ·
          refine lv_iinc (v := (-8)) (lv' := [(2, .int (-8)), (3, .int x237), (0, .ref t), (1, .int v)]) hx hb dX8_put_24 hl (k := 1) rfl (by decide) (by decide) rfl (fun ls hl => ?_)
          refine lv_goto (tgt := 3) hx hb dX8_put_27 (by decide) ?_
          refine lv_iload_n hx hb dX8_put_3 rfl (lv_at hl 0 rfl) ?_
          refine lv_if_lt (tgt := 30) hx hb dX8_put_4 (by decide) (fun c239 => ?_) (fun c239 => absurd (by decide) c239)
          exact ret_v hx hb hr hlocks hP hD hS (Nat.le_of_ble_eq_true rfl) (Nat.le_of_ble_eq_true rfl) (⟨r220, (hf221.trans (by simp only [l4U, stp, byU, ← ex3, ← ex4, ← ex155, ← ex156, ← ex231, ← ex232, ← ex236, ← ex237, c5, c157, c233, c238, reduceIte, eq_self_iff_true])), hf222, hfr225, hsb226⟩) dX8_put_30
        ·
          refine lv_aload_n hx hb dX8_put_19 rfl (lv_at hl 2 rfl) ?_
          refine lv_iload_n hx hb dX8_put_20 rfl (lv_at hl 0 rfl) ?_
          refine call_v (run_V (rm := { frames := 0, cells := 0, slots := 0, locals := 0 }) hx hb hml hown hts (k_X8_add l g _ _ _ t tb x237 ((k + 1) + 1) z2 z3 z4 (r220) hm227 hf221 hm228 hf222 ((Bd.s (Bd.s (hk) (by decide)) (by decide)).mono (by decide))) cV_X8_add wg_538 ⟨Nat.le_of_ble_eq_true rfl, Nat.le_of_ble_eq_true rfl⟩ hG hE hA hP hD hS hm227 hf221 rfl rfl hl.1 (As := [.int x237]) (rest := []) rfl (Nat.le_of_ble_eq_true rfl) dX8_put_21 ⟨Nat.le_of_ble_eq_true rfl, Nat.le_of_ble_eq_true rfl⟩) hA hD hS (fun L241 f242 H locs hp243 hP hD hS => ?_)
          obtain ⟨r244, hf245, hf246, fr247, sb248⟩ := hp243
          have hfr249 : ∀ b, b ∈ L → b ≠ t → b ≠ tb → f242 b = f b := fun b hb z0 z1 => (fr247 b (hsb226 b hb) z0 z1).trans (hfr225 b hb z0 z1)
          have hsb250 : ∀ b, b ∈ L → b ∈ L241 := fun b hb => sb248 b (hsb226 b hb)
          have hm251 := sb248 _ hm227
          have hm252 := sb248 _ hm228
          refine lv_iinc (v := (-8)) (lv' := [(2, .int (-8)), (3, .int x237), (0, .ref t), (1, .int v)]) hx hb dX8_put_24 hl (k := 1) rfl (by decide) (by decide) rfl (fun ls hl => ?_)
          refine lv_goto (tgt := 3) hx hb dX8_put_27 (by decide) ?_
          refine lv_iload_n hx hb dX8_put_3 rfl (lv_at hl 0 rfl) ?_
          refine lv_if_lt (tgt := 30) hx hb dX8_put_4 (by decide) (fun c253 => ?_) (fun c253 => absurd (by decide) c253)
          exact ret_v hx hb hr hlocks hP hD hS (Nat.le_of_ble_eq_true rfl) (Nat.le_of_ble_eq_true rfl) (⟨r244, (hf245.trans (by simp only [l4U, stp, byU, ← ex3, ← ex4, ← ex155, ← ex156, ← ex231, ← ex232, ← ex236, ← ex237, c5, c157, c233, c238, reduceIte, eq_self_iff_true])), hf246, hfr249, hsb250⟩) dX8_put_30
      ·
        refine lv_aload_n hx hb dX8_put_19 rfl (lv_at hl 2 rfl) ?_
        refine lv_iload_n hx hb dX8_put_20 rfl (lv_at hl 0 rfl) ?_
        refine call_v (run_V (rm := { frames := 0, cells := 0, slots := 0, locals := 0 }) hx hb hml hown hts (k_X8_add l g _ _ _ t tb x232 ((k + 1) + 1) z2 z3 z4 (r220) hm227 hf221 hm228 hf222 ((Bd.s (Bd.s (hk) (by decide)) (by decide)).mono (by decide))) cV_X8_add wg_538 ⟨Nat.le_of_ble_eq_true rfl, Nat.le_of_ble_eq_true rfl⟩ hG hE hA hP hD hS hm227 hf221 rfl rfl hl.1 (As := [.int x232]) (rest := []) rfl (Nat.le_of_ble_eq_true rfl) dX8_put_21 ⟨Nat.le_of_ble_eq_true rfl, Nat.le_of_ble_eq_true rfl⟩) hA hD hS (fun L255 f256 H locs hp257 hP hD hS => ?_)
        obtain ⟨r258, hf259, hf260, fr261, sb262⟩ := hp257
        have hfr263 : ∀ b, b ∈ L → b ≠ t → b ≠ tb → f256 b = f b := fun b hb z0 z1 => (fr261 b (hsb226 b hb) z0 z1).trans (hfr225 b hb z0 z1)
        have hsb264 : ∀ b, b ∈ L → b ∈ L255 := fun b hb => sb262 b (hsb226 b hb)
        have hm265 := sb262 _ hm227
        have hm266 := sb262 _ hm228
        refine lv_iinc (v := 0) (lv' := [(2, .int 0), (3, .int x232), (0, .ref t), (1, .int v)]) hx hb dX8_put_24 hl (k := 1) rfl (by decide) (by decide) rfl (fun ls hl => ?_)
        refine lv_goto (tgt := 3) hx hb dX8_put_27 (by decide) ?_
        refine lv_iload_n hx hb dX8_put_3 rfl (lv_at hl 0 rfl) ?_
        refine lv_if_lt (tgt := 30) hx hb dX8_put_4 (by decide) (fun c267 => absurd c267 (by decide)) (fun c267 => ?_)
        refine lv_iload_n hx hb dX8_put_7 rfl (lv_at hl 3 rfl) ?_
        refine lv_iload_n hx hb dX8_put_8 rfl (lv_at hl 0 rfl) ?_
        refine lv_iushr hx hb dX8_put_9 rfl ?_
        refine lv_topi (fun x269 ex269 => ?_)
        refine lv_sipush (v := 255) hx hb dX8_put_10 (by decide) ?_
        refine lv_iand hx hb dX8_put_13 ?_
        refine lv_topi (fun x270 ex270 => ?_)
        refine lv_istore_n (lv' := [(3, .int x270), (2, .int 0), (0, .ref t), (1, .int v)]) hx hb dX8_put_14 rfl hl (by decide) rfl (fun ls hl => ?_)
        refine lv_iload_n hx hb dX8_put_15 rfl (lv_at hl 0 rfl) ?_
        refine lv_if_eq (tgt := 24) hx hb dX8_put_16 (by decide) (fun c271 => ?_) (fun c271 => ?_)
        ·
          refine lv_iinc (v := (-8)) (lv' := [(2, .int (-8)), (3, .int x270), (0, .ref t), (1, .int v)]) hx hb dX8_put_24 hl (k := 1) rfl (by decide) (by decide) rfl (fun ls hl => ?_)
          refine lv_goto (tgt := 3) hx hb dX8_put_27 (by decide) ?_
          refine lv_iload_n hx hb dX8_put_3 rfl (lv_at hl 0 rfl) ?_
          refine lv_if_lt (tgt := 30) hx hb dX8_put_4 (by decide) (fun c272 => ?_) (fun c272 => absurd (by decide) c272)
          exact ret_v hx hb hr hlocks hP hD hS (Nat.le_of_ble_eq_true rfl) (Nat.le_of_ble_eq_true rfl) (⟨r258, (hf259.trans (by simp only [l4U, stp, byU, ← ex3, ← ex4, ← ex155, ← ex156, ← ex231, ← ex232, ← ex269, ← ex270, c5, c157, c233, c271, reduceIte, eq_self_iff_true])), hf260, hfr263, hsb264⟩) dX8_put_30
        ·
          refine lv_aload_n hx hb dX8_put_19 rfl (lv_at hl 2 rfl) ?_
          refine lv_iload_n hx hb dX8_put_20 rfl (lv_at hl 0 rfl) ?_
          refine call_v (run_V (rm := { frames := 0, cells := 0, slots := 0, locals := 0 }) hx hb hml hown hts (k_X8_add l g _ _ _ t tb x270 (((k + 1) + 1) + 1) z2 z3 z4 (r258) hm265 hf259 hm266 hf260 ((Bd.s (Bd.s (Bd.s (hk) (by decide)) (by decide)) (by decide)).mono (by decide))) cV_X8_add wg_538 ⟨Nat.le_of_ble_eq_true rfl, Nat.le_of_ble_eq_true rfl⟩ hG hE hA hP hD hS hm265 hf259 rfl rfl hl.1 (As := [.int x270]) (rest := []) rfl (Nat.le_of_ble_eq_true rfl) dX8_put_21 ⟨Nat.le_of_ble_eq_true rfl, Nat.le_of_ble_eq_true rfl⟩) hA hD hS (fun L274 f275 H locs hp276 hP hD hS => ?_)
          obtain ⟨r277, hf278, hf279, fr280, sb281⟩ := hp276
          have hfr282 : ∀ b, b ∈ L → b ≠ t → b ≠ tb → f275 b = f b := fun b hb z0 z1 => (fr280 b (hsb264 b hb) z0 z1).trans (hfr263 b hb z0 z1)
          have hsb283 : ∀ b, b ∈ L → b ∈ L274 := fun b hb => sb281 b (hsb264 b hb)
          have hm284 := sb281 _ hm265
          have hm285 := sb281 _ hm266
          refine lv_iinc (v := (-8)) (lv' := [(2, .int (-8)), (3, .int x270), (0, .ref t), (1, .int v)]) hx hb dX8_put_24 hl (k := 1) rfl (by decide) (by decide) rfl (fun ls hl => ?_)
          refine lv_goto (tgt := 3) hx hb dX8_put_27 (by decide) ?_
          refine lv_iload_n hx hb dX8_put_3 rfl (lv_at hl 0 rfl) ?_
          refine lv_if_lt (tgt := 30) hx hb dX8_put_4 (by decide) (fun c286 => ?_) (fun c286 => absurd (by decide) c286)
          exact ret_v hx hb hr hlocks hP hD hS (Nat.le_of_ble_eq_true rfl) (Nat.le_of_ble_eq_true rfl) (⟨r277, (hf278.trans (by simp only [l4U, stp, byU, ← ex3, ← ex4, ← ex155, ← ex156, ← ex231, ← ex232, ← ex269, ← ex270, c5, c157, c233, c271, reduceIte, eq_self_iff_true])), hf279, hfr282, hsb283⟩) dX8_put_30

set_option maxHeartbeats 4000000 in
theorem k_J0_coder (l : Launch) (g : GG) (L : List Nat) (f : HP) (sz : Nat) (i : Nat) (hi : i < nS) : MtI l g yJ0_coder_7d493 cJ0_coder_7d493 1 (some .byte) ({ frames := 0, cells := 0, slots := 0, locals := 0 }) [.ref (g.2.2.1 i)] L f sz (fun r u => u.1 = L ∧ u.2 = f ∧ r = 0) := by
  refine MtI.of (by decide +kernel) (Nat.le_of_ble_eq_true rfl) ?_
  intro p e s m below meth c A hEn hP hD hS ls hl
  obtain ⟨hx, hb, hr, hml, hown, hlocks, hts, hG, hA, hE, hnm⟩ := hEn
  have hown : s.vm.findClass "java/lang/String" = some m.cls := hown
  have hl : lv_has ls 1 [(0, .ref (g.2.2.1 i))] := hl
  refine va_gets hx hb hE.2.1 hS hown (hts _ (mT wg_582)) (fun _ h => h) dJ0_coder_7d493_0 ?_
  refine lv_if_eq (tgt := 13) hx hb dJ0_coder_7d493_3 (by decide) (fun c1 => absurd c1 (by decide)) (fun c1 => ?_)
  refine lv_aload_n hx hb dJ0_coder_7d493_6 rfl (lv_at hl 0 rfl) ?_
  refine vk_getf hx hb (hE.1 i hi).2.1 hS hown (hts _ (mT wg_1972)) (fun _ h => h) dJ0_coder_7d493_7 ?_
  refine lv_goto (tgt := 14) hx hb dJ0_coder_7d493_10 (by decide) ?_
  exact ret_i (ty := .byte) hx hb hr hlocks (rfl) hP hD hS (Nat.le_of_ble_eq_true rfl) (Nat.le_of_ble_eq_true rfl) ⟨rfl, rfl, rfl⟩ dJ0_coder_7d493_14
theorem shr0 (x : Int32) : x >>> ((0 : Int32) &&& 31) = x := by
  have e : (0 : Int32) &&& 31 = 0 := by decide
  rw [e]
  exact Int32.shiftRight_zero
set_option maxHeartbeats 4000000 in
theorem k_J0_length (l : Launch) (g : GG) (L : List Nat) (f : HP) (sz : Nat) (i : Nat) (hi : i < nS) : MtI l g yJ0_length_8abf5 cJ0_length_8abf5 1 (some .int) ({ frames := 1, cells := 0, slots := 0, locals := 20 }) [.ref (g.2.2.1 i)] L f sz (fun r u => u.1 = L ∧ u.2 = f ∧ r = Int32.ofNat (lenS.getD i 0)) := by
  refine MtI.of (by decide +kernel) (Nat.le_of_ble_eq_true rfl) ?_
  intro p e s m below meth c A hEn hP hD hS ls hl
  obtain ⟨hx, hb, hr, hml, hown, hlocks, hts, hG, hA, hE, hnm⟩ := hEn
  have hown : s.vm.findClass "java/lang/String" = some m.cls := hown
  have hl : lv_has ls 1 [(0, .ref (g.2.2.1 i))] := hl
  refine lv_aload_n hx hb dJ0_length_8abf5_0 rfl (lv_at hl 0 rfl) ?_
  refine vk_getf hx hb (hE.1 i hi).2.2.1 hS hown (hts _ (mT wg_1971)) (fun _ h => h) dJ0_length_8abf5_1 ?_
  refine va_tlen hx hb (hE.1 i hi).2.2.2 hS rfl dJ0_length_8abf5_4 ?_
  refine lv_aload_n hx hb dJ0_length_8abf5_5 rfl (lv_at hl 0 rfl) ?_
  refine call_i (run_VJ (rm := { frames := 0, cells := 0, slots := 0, locals := 0 }) hx hb hml hown hts (i := i) hi (k_J0_coder l g _ _ _ i hi) cV_J0_coder_7d493 wg_578 rfl ⟨Nat.le_of_ble_eq_true rfl, Nat.le_of_ble_eq_true rfl⟩ hG hE hA hP hD hS rfl hl.1 (As := []) (rest := [.int (Int32.ofNat (lenS.getD i 0))]) rfl (Nat.le_of_ble_eq_true rfl) dJ0_length_8abf5_6 ⟨Nat.le_of_ble_eq_true rfl, Nat.le_of_ble_eq_true rfl⟩) hA hD hS (fun r L2 f2 H locs hp hP hD hS => ?_)
  obtain ⟨e1, e2, e3⟩ : L2 = _ ∧ f2 = _ ∧ r = 0 := hp
  rw [e1, e2] at hP hD
  subst e3
  refine lv_ishr hx hb dJ0_length_8abf5_9 ?_
  refine lv_topi (fun x1 ex1 => ?_)
  obtain rfl : x1 = Int32.ofNat (lenS.getD i 0) := ex1.trans (shr0 _)
  exact ret_i (ty := .int) hx hb hr hlocks (rfl) hP hD hS (Nat.le_of_ble_eq_true rfl) (Nat.le_of_ble_eq_true rfl) ⟨rfl, rfl, rfl⟩ dJ0_length_8abf5_10
set_option maxHeartbeats 4000000 in
set_option maxRecDepth 100000 in
theorem k_X11_here (l : Launch) (g : GG) (L : List Nat) (f : HP) (sz : Nat) (mo ar1 ar7 ar10 ar11 ar24 ar26 ar27 ar28 ar29 ar30 ar31 ar32 ar33 ar34 ar35 ar41 ar42 ar43 ar44 ar49 ar52 ar54 : Nat) (z4 : Int32) (z8 : Int32) (z13 : Int32) (hm_mo : mo ∈ L) (hf_mo : f mo = .inr (10, [.int 0, .ref ar1, .int 0, .int 0, .int z4, .int 0, .int 0, .ref ar7, .int z8, .int 0, .ref ar10, .ref ar11, .int 0, .int z13, .int 0, .int 0, .int 0, .int 0, .int 0, .int 0, .int 0, .long 0, .long 0, .int 0, .ref ar24, .int 0, .ref ar26, .ref ar27, .ref ar28, .ref ar29, .ref ar30, .ref ar31, .ref ar32, .ref ar33, .ref ar34, .ref ar35, .int 0, .int 0, .int 0, .int 0, .int 0, .ref ar41, .ref ar42, .ref ar43, .ref ar44, .long 0, .long 0, .int 0, .int 0, .ref ar49, .int 0, .int 0, .ref ar52, .int 0, .ref ar54, .int 0])) : MtI l g yX11_here cX11_here 1 (some .int) ({ frames := 0, cells := 0, slots := 0, locals := 0 }) [.ref mo] L f sz (fun r u => r = (-1) ∧ (∀ b, b ∈ L → u.2 b = f b) ∧ (∀ b, b ∈ L → b ∈ u.1)) := by
  refine MtI.of (by decide +kernel) (Nat.le_of_ble_eq_true rfl) ?_
  intro p e s m below meth c A hEn hP hD hS ls hl
  obtain ⟨hx, hb, hr, hml, hown, hlocks, hts, hG, hA, hE, hnm⟩ := hEn
  have hown : s.vm.findClass "RulerWordModel" = some m.cls := hown
  have hl : lv_has ls 1 [(0, .ref mo)] := hl
  have hfr0 : ∀ b, b ∈ L → f b = f b := fun b hb  => rfl
  have hsb0 : ∀ b, b ∈ L → b ∈ L := fun b hb => hb
  refine lv_aload_n hx hb dX11_here_0 rfl (lv_at hl 0 rfl) ?_
  refine pl_get (v := .int 0) hx hb hts (fun w h => mT (inX11 w h)) hown hG.1 hP hm_mo hf_mo rfl 3 (by decide) (hts _ (mT wg_1339)) (fun _ h => h) rfl dX11_here_1 ?_
  refine lv_aload_n hx hb dX11_here_4 rfl (lv_at hl 0 rfl) ?_
  refine pl_get (v := .int 0) hx hb hts (fun w h => mT (inX11 w h)) hown hG.1 hP hm_mo hf_mo rfl 2 (by decide) (hts _ (mT wg_1338)) (fun _ h => h) rfl dX11_here_5 ?_
  refine lv_icmp_ge (tgt := 27) hx hb dX11_here_8 (by decide) (fun c1 => ?_) (fun c1 => absurd (by decide) c1)
  refine lv_iconst (v := (-1)) hx hb dX11_here_27 (by decide) ?_
  exact ret_i (ty := .int) hx hb hr hlocks (rfl) hP hD hS (Nat.le_of_ble_eq_true rfl) (Nat.le_of_ble_eq_true rfl) (⟨rfl, hfr0, hsb0⟩) dX11_here_28

set_option maxHeartbeats 4000000 in
set_option maxRecDepth 100000 in
theorem k_X11_look (l : Launch) (g : GG) (L : List Nat) (f : HP) (sz : Nat) (mo ar1 ar7 ar10 ar11 ar24 ar26 ar27 ar28 ar29 ar30 ar31 ar32 ar33 ar34 ar35 ar41 ar42 ar43 ar44 ar49 ar52 ar54 : Nat) (z4 : Int32) (z8 : Int32) (z13 : Int32) (hm_mo : mo ∈ L) (hf_mo : f mo = .inr (10, [.int 0, .ref ar1, .int 0, .int 0, .int z4, .int 0, .int 0, .ref ar7, .int z8, .int 0, .ref ar10, .ref ar11, .int 0, .int z13, .int 0, .int 0, .int 0, .int 0, .int 0, .int 0, .int 0, .long 0, .long 0, .int 0, .ref ar24, .int 0, .ref ar26, .ref ar27, .ref ar28, .ref ar29, .ref ar30, .ref ar31, .ref ar32, .ref ar33, .ref ar34, .ref ar35, .int 0, .int 0, .int 0, .int 0, .int 0, .ref ar41, .ref ar42, .ref ar43, .ref ar44, .long 0, .long 0, .int 0, .int 0, .ref ar49, .int 0, .int 0, .ref ar52, .int 0, .ref ar54, .int 0])) : MtI l g yX11_look cX11_look 1 (some .int) ({ frames := 1, cells := 0, slots := 0, locals := 20 }) [.ref mo] L f sz (fun r u => r = (-1) ∧ (∀ b, b ∈ L → u.2 b = f b) ∧ (∀ b, b ∈ L → b ∈ u.1)) := by
  refine MtI.of (by decide +kernel) (Nat.le_of_ble_eq_true rfl) ?_
  intro p e s m below meth c A hEn hP hD hS ls hl
  obtain ⟨hx, hb, hr, hml, hown, hlocks, hts, hG, hA, hE, hnm⟩ := hEn
  have hown : s.vm.findClass "RulerWordModel" = some m.cls := hown
  have hl : lv_has ls 1 [(0, .ref mo)] := hl
  have hfr0 : ∀ b, b ∈ L → f b = f b := fun b hb  => rfl
  have hsb0 : ∀ b, b ∈ L → b ∈ L := fun b hb => hb
  refine lv_aload_n hx hb dX11_look_0 rfl (lv_at hl 0 rfl) ?_
  refine call_i (run_V (rm := { frames := 0, cells := 0, slots := 0, locals := 0 }) hx hb hml hown hts (k_X11_here l g _ _ _ mo ar1 ar7 ar10 ar11 ar24 ar26 ar27 ar28 ar29 ar30 ar31 ar32 ar33 ar34 ar35 ar41 ar42 ar43 ar44 ar49 ar52 ar54 z4 z8 z13 hm_mo hf_mo) cV_X11_here wg_1537 ⟨Nat.le_of_ble_eq_true rfl, Nat.le_of_ble_eq_true rfl⟩ hG hE hA hP hD hS hm_mo hf_mo rfl rfl hl.1 (As := []) (rest := []) rfl (Nat.le_of_ble_eq_true rfl) dX11_look_1 ⟨Nat.le_of_ble_eq_true rfl, Nat.le_of_ble_eq_true rfl⟩) hA hD hS (fun r1 L2 f3 H locs hp4 hP hD hS => ?_)
  obtain ⟨er5, fr6, sb7⟩ := hp4
  have hfr8 : ∀ b, b ∈ L → f3 b = f b := fun b hb  => (fr6 b (hsb0 b hb) ).trans (hfr0 b hb )
  have hsb9 : ∀ b, b ∈ L → b ∈ L2 := fun b hb => sb7 b (hsb0 b hb)
  have hf11 := (fr6 mo hm_mo ).trans hf_mo
  have hm10 := sb7 _ hm_mo
  subst er5
  refine lv_bipush (v := 32) hx hb dX11_look_4 (by decide) ?_
  refine lv_icmp_ne (tgt := 22) hx hb dX11_look_6 (by decide) (fun c12 => ?_) (fun c12 => absurd c12 (by decide))
  refine lv_aload_n hx hb dX11_look_22 rfl (lv_at hl 0 rfl) ?_
  refine call_i (run_V (rm := { frames := 0, cells := 0, slots := 0, locals := 0 }) hx hb hml hown hts (k_X11_here l g _ _ _ mo ar1 ar7 ar10 ar11 ar24 ar26 ar27 ar28 ar29 ar30 ar31 ar32 ar33 ar34 ar35 ar41 ar42 ar43 ar44 ar49 ar52 ar54 z4 z8 z13 hm10 hf11) cV_X11_here wg_1537 ⟨Nat.le_of_ble_eq_true rfl, Nat.le_of_ble_eq_true rfl⟩ hG hE hA hP hD hS hm10 hf11 rfl rfl hl.1 (As := []) (rest := []) rfl (Nat.le_of_ble_eq_true rfl) dX11_look_23 ⟨Nat.le_of_ble_eq_true rfl, Nat.le_of_ble_eq_true rfl⟩) hA hD hS (fun r13 L14 f15 H locs hp16 hP hD hS => ?_)
  obtain ⟨er17, fr18, sb19⟩ := hp16
  have hfr20 : ∀ b, b ∈ L → f15 b = f b := fun b hb  => (fr18 b (hsb9 b hb) ).trans (hfr8 b hb )
  have hsb21 : ∀ b, b ∈ L → b ∈ L14 := fun b hb => sb19 b (hsb9 b hb)
  have hf23 := (fr18 mo hm10 ).trans hf11
  have hm22 := sb19 _ hm10
  subst er17
  exact ret_i (ty := .int) hx hb hr hlocks (rfl) hP hD hS (Nat.le_of_ble_eq_true rfl) (Nat.le_of_ble_eq_true rfl) (⟨rfl, hfr20, hsb21⟩) dX11_look_26

set_option maxHeartbeats 4000000 in
set_option maxRecDepth 100000 in
theorem k_X11_takes (l : Launch) (g : GG) (L : List Nat) (f : HP) (sz : Nat) (mo ar1 ar7 ar10 ar11 ar24 ar26 ar27 ar28 ar29 ar30 ar31 ar32 ar33 ar34 ar35 ar41 ar42 ar43 ar44 ar49 ar52 ar54 : Nat) (i : Nat) (z4 : Int32) (z8 : Int32) (z13 : Int32) (hm_mo : mo ∈ L) (hf_mo : f mo = .inr (10, [.int 0, .ref ar1, .int 0, .int 0, .int z4, .int 0, .int 0, .ref ar7, .int z8, .int 0, .ref ar10, .ref ar11, .int 0, .int z13, .int 0, .int 0, .int 0, .int 0, .int 0, .int 0, .int 0, .long 0, .long 0, .int 0, .ref ar24, .int 0, .ref ar26, .ref ar27, .ref ar28, .ref ar29, .ref ar30, .ref ar31, .ref ar32, .ref ar33, .ref ar34, .ref ar35, .int 0, .int 0, .int 0, .int 0, .int 0, .ref ar41, .ref ar42, .ref ar43, .ref ar44, .long 0, .long 0, .int 0, .int 0, .ref ar49, .int 0, .int 0, .ref ar52, .int 0, .ref ar54, .int 0])) (hi : i < nS) (hpos : (0 : Int32) < Int32.ofNat (lenS.getD i 0)) : MtI l g yX11_takes cX11_takes 4 (some .boolean) ({ frames := 2, cells := 0, slots := 0, locals := 40 }) [.ref mo, .ref (g.2.2.1 i)] L f sz (fun r u => r = 0 ∧ (∀ b, b ∈ L → u.2 b = f b) ∧ (∀ b, b ∈ L → b ∈ u.1)) := by
  refine MtI.of (by decide +kernel) (Nat.le_of_ble_eq_true rfl) ?_
  intro p e s m below meth c A hEn hP hD hS ls hl
  obtain ⟨hx, hb, hr, hml, hown, hlocks, hts, hG, hA, hE, hnm⟩ := hEn
  have hown : s.vm.findClass "RulerWordModel" = some m.cls := hown
  have hl : lv_has ls 4 [(0, .ref mo), (1, .ref (g.2.2.1 i))] := hl
  have hfr0 : ∀ b, b ∈ L → f b = f b := fun b hb  => rfl
  have hsb0 : ∀ b, b ∈ L → b ∈ L := fun b hb => hb
  refine lv_aload_n hx hb dX11_takes_0 rfl (lv_at hl 0 rfl) ?_
  refine call_i (run_V (rm := { frames := 1, cells := 0, slots := 0, locals := 20 }) hx hb hml hown hts (k_X11_look l g _ _ _ mo ar1 ar7 ar10 ar11 ar24 ar26 ar27 ar28 ar29 ar30 ar31 ar32 ar33 ar34 ar35 ar41 ar42 ar43 ar44 ar49 ar52 ar54 z4 z8 z13 hm_mo hf_mo) cV_X11_look wg_1533 ⟨Nat.le_of_ble_eq_true rfl, Nat.le_of_ble_eq_true rfl⟩ hG hE hA hP hD hS hm_mo hf_mo rfl rfl hl.1 (As := []) (rest := []) rfl (Nat.le_of_ble_eq_true rfl) dX11_takes_1 ⟨Nat.le_of_ble_eq_true rfl, Nat.le_of_ble_eq_true rfl⟩) hA hD hS (fun r1 L2 f3 H locs hp4 hP hD hS => ?_)
  obtain ⟨er5, fr6, sb7⟩ := hp4
  have hfr8 : ∀ b, b ∈ L → f3 b = f b := fun b hb  => (fr6 b (hsb0 b hb) ).trans (hfr0 b hb )
  have hsb9 : ∀ b, b ∈ L → b ∈ L2 := fun b hb => sb7 b (hsb0 b hb)
  have hf11 := (fr6 mo hm_mo ).trans hf_mo
  have hm10 := sb7 _ hm_mo
  subst er5
  refine lv_istore_n (lv' := [(2, .int (-1)), (0, .ref mo), (1, .ref (g.2.2.1 i))]) hx hb dX11_takes_4 rfl hl (by decide) rfl (fun ls hl => ?_)
  refine lv_iconst (v := 0) hx hb dX11_takes_5 (by decide) ?_
  refine lv_istore_n (lv' := [(3, .int 0), (2, .int (-1)), (0, .ref mo), (1, .ref (g.2.2.1 i))]) hx hb dX11_takes_6 rfl hl (by decide) rfl (fun ls hl => ?_)
  refine lv_iload_n hx hb dX11_takes_7 rfl (lv_at hl 0 rfl) ?_
  refine lv_aload_n hx hb dX11_takes_8 rfl (lv_at hl 3 rfl) ?_
  refine call_i (run_VJ (rm := { frames := 1, cells := 0, slots := 0, locals := 20 }) hx hb hml hown hts (i := i) (hi) (k_J0_length l g _ _ _ i (hi)) cV_J0_length_8abf5 wg_1546 rfl ⟨Nat.le_of_ble_eq_true rfl, Nat.le_of_ble_eq_true rfl⟩ hG hE hA hP hD hS rfl hl.1 (As := []) (rest := [.int 0]) rfl (Nat.le_of_ble_eq_true rfl) dX11_takes_9 ⟨Nat.le_of_ble_eq_true rfl, Nat.le_of_ble_eq_true rfl⟩) hA hD hS (fun r12 L13 f14 H locs hp15 hP hD hS => ?_)
  obtain ⟨er16a, er16b, er16⟩ : L13 = _ ∧ f14 = _ ∧ r12 = Int32.ofNat (lenS.getD i 0) := hp15
  rw [er16a, er16b] at hP hD
  refine lv_icmp_ge (tgt := 55) hx hb dX11_takes_12 (by decide) (fun c17 => absurd (er16 ▸ c17) (lt_nle hpos)) (fun c17 => ?_)
  refine lv_aload_n hx hb dX11_takes_15 rfl (lv_at hl 2 rfl) ?_
  refine pl_get (v := .int 0) hx hb hts (fun w h => mT (inX11 w h)) hown hG.1 hP hm10 hf11 rfl 3 (by decide) (hts _ (mT wg_1339)) (fun _ h => h) rfl dX11_takes_16 ?_
  refine lv_iload_n hx hb dX11_takes_19 rfl (lv_at hl 0 rfl) ?_
  refine lv_iadd hx hb dX11_takes_20 ?_
  refine lv_topi (fun x18 ex18 => ?_)
  obtain rfl : x18 = 0 := ex18.trans (by decide)
  refine lv_aload_n hx hb dX11_takes_21 rfl (lv_at hl 2 rfl) ?_
  refine pl_get (v := .int 0) hx hb hts (fun w h => mT (inX11 w h)) hown hG.1 hP hm10 hf11 rfl 2 (by decide) (hts _ (mT wg_1338)) (fun _ h => h) rfl dX11_takes_22 ?_
  refine lv_icmp_ge (tgt := 47) hx hb dX11_takes_25 (by decide) (fun c19 => ?_) (fun c19 => absurd (by decide) c19)
  refine lv_iconst (v := 0) hx hb dX11_takes_47 (by decide) ?_
  exact ret_i (ty := .boolean) hx hb hr hlocks (rfl) hP hD hS (Nat.le_of_ble_eq_true rfl) (Nat.le_of_ble_eq_true rfl) (⟨rfl, hfr8, hsb9⟩) dX11_takes_48

set_option maxHeartbeats 4000000 in
set_option maxRecDepth 100000 in
theorem k_X11_fails (l : Launch) (g : GG) (L : List Nat) (f : HP) (sz : Nat) (mo ar1 ar7 ar10 ar11 ar24 ar26 ar27 ar28 ar29 ar30 ar31 ar32 ar33 ar34 ar35 ar41 ar42 ar43 ar44 ar49 ar52 ar54 : Nat) (pl : Int32) (z8 : Int32) (z13 : Int32) (hm_mo : mo ∈ L) (hf_mo : f mo = .inr (10, [.int 0, .ref ar1, .int 0, .int 0, .int (-1), .int 0, .int 0, .ref ar7, .int z8, .int 0, .ref ar10, .ref ar11, .int 0, .int z13, .int 0, .int 0, .int 0, .int 0, .int 0, .int 0, .int 0, .long 0, .long 0, .int 0, .ref ar24, .int 0, .ref ar26, .ref ar27, .ref ar28, .ref ar29, .ref ar30, .ref ar31, .ref ar32, .ref ar33, .ref ar34, .ref ar35, .int 0, .int 0, .int 0, .int 0, .int 0, .ref ar41, .ref ar42, .ref ar43, .ref ar44, .long 0, .long 0, .int 0, .int 0, .ref ar49, .int 0, .int 0, .ref ar52, .int 0, .ref ar54, .int 0])) : MtV l g yX11_fails cX11_fails 2 ({ frames := 0, cells := 0, slots := 0, locals := 0 }) [.ref mo, .int pl] L f sz (fun u => u.2 mo = .inr (10, [.int 0, .ref ar1, .int 0, .int 0, .int pl, .int 0, .int 0, .ref ar7, .int z8, .int 0, .ref ar10, .ref ar11, .int 0, .int z13, .int 0, .int 0, .int 0, .int 0, .int 0, .int 0, .int 0, .long 0, .long 0, .int 0, .ref ar24, .int 0, .ref ar26, .ref ar27, .ref ar28, .ref ar29, .ref ar30, .ref ar31, .ref ar32, .ref ar33, .ref ar34, .ref ar35, .int 0, .int 0, .int 0, .int 0, .int 0, .ref ar41, .ref ar42, .ref ar43, .ref ar44, .long 0, .long 0, .int 0, .int 0, .ref ar49, .int 0, .int 0, .ref ar52, .int 0, .ref ar54, .int 0]) ∧ (∀ b, b ∈ L → b ≠ mo → u.2 b = f b) ∧ (∀ b, b ∈ L → b ∈ u.1)) := by
  refine MtV.of (by decide +kernel) (Nat.le_of_ble_eq_true rfl) ?_
  intro p e s m below meth c A hEn hP hD hS ls hl
  obtain ⟨hx, hb, hr, hml, hown, hlocks, hts, hG, hA, hE, hnm⟩ := hEn
  have hown : s.vm.findClass "RulerWordModel" = some m.cls := hown
  have hl : lv_has ls 2 [(0, .ref mo), (1, .int pl)] := hl
  have hfr0 : ∀ b, b ∈ L → b ≠ mo → f b = f b := fun b hb z0 => rfl
  have hsb0 : ∀ b, b ∈ L → b ∈ L := fun b hb => hb
  refine lv_aload_n hx hb dX11_fails_0 rfl (lv_at hl 0 rfl) ?_
  refine pl_get (v := .int (-1)) hx hb hts (fun w h => mT (inX11 w h)) hown hG.1 hP hm_mo hf_mo rfl 4 (by decide) (hts _ (mT wg_1340)) (fun _ h => h) rfl dX11_fails_1 ?_
  refine lv_iconst (v := (-1)) hx hb dX11_fails_4 (by decide) ?_
  refine lv_icmp_ne (tgt := 13) hx hb dX11_fails_5 (by decide) (fun c1 => absurd rfl c1) (fun c1 => ?_)
  refine lv_aload_n hx hb dX11_fails_8 rfl (lv_at hl 0 rfl) ?_
  refine lv_iload_n hx hb dX11_fails_9 rfl (lv_at hl 1 rfl) ?_
  refine pl_put (ty := .int) (v := .int pl) (fs' := [.int 0, .ref ar1, .int 0, .int 0, .int pl, .int 0, .int 0, .ref ar7, .int z8, .int 0, .ref ar10, .ref ar11, .int 0, .int z13, .int 0, .int 0, .int 0, .int 0, .int 0, .int 0, .int 0, .long 0, .long 0, .int 0, .ref ar24, .int 0, .ref ar26, .ref ar27, .ref ar28, .ref ar29, .ref ar30, .ref ar31, .ref ar32, .ref ar33, .ref ar34, .ref ar35, .int 0, .int 0, .int 0, .int 0, .int 0, .ref ar41, .ref ar42, .ref ar43, .ref ar44, .long 0, .long 0, .int 0, .int 0, .ref ar49, .int 0, .int 0, .ref ar52, .int 0, .ref ar54, .int 0]) hx hb hts (fun w h => mT (inX11 w h)) tyX11 tyX11_ok nmX11 hown hG.1 hP hD hS hm_mo hf_mo rfl 4 (by decide) (hts _ (mT wg_1340)) (fun _ h => h) rfl (by decide +kernel) (rfl) (rfl) (Nat.le_of_ble_eq_true rfl) rfl dX11_fails_10 (fun H locs f2 hf4 ho3 hP hD hS => ?_)
  have hfr5 : ∀ b, b ∈ L → b ≠ mo → f2 b = f b := fun b hb z0 => (ho3 b z0).trans (hfr0 b hb z0)
  exact ret_v hx hb hr hlocks hP hD hS (Nat.le_of_ble_eq_true rfl) (Nat.le_of_ble_eq_true rfl) (⟨hf4, hfr5, hsb0⟩) dX11_fails_13

set_option maxHeartbeats 4000000 in
set_option maxRecDepth 100000 in
theorem k_X11_has_0 (l : Launch) (g : GG) (L : List Nat) (f : HP) (sz : Nat)   : MtI l g yX11_has cX11_has 2 (some .boolean) ({ frames := 0, cells := 0, slots := 0, locals := 0 }) [.int 0, .int 0] L f sz (fun r u => r = 0 ∧ (∀ b, b ∈ L → u.2 b = f b) ∧ (∀ b, b ∈ L → b ∈ u.1)) := by
  refine MtI.of (by decide +kernel) (Nat.le_of_ble_eq_true rfl) ?_
  intro p e s m below meth c A hEn hP hD hS ls hl
  obtain ⟨hx, hb, hr, hml, hown, hlocks, hts, hG, hA, hE, hnm⟩ := hEn
  have hown : s.vm.findClass "RulerWordModel" = some m.cls := hown
  have hl : lv_has ls 2 [(0, .int 0), (1, .int 0)] := hl
  have hfr0 : ∀ b, b ∈ L → f b = f b := fun b hb  => rfl
  have hsb0 : ∀ b, b ∈ L → b ∈ L := fun b hb => hb
  refine lv_iload_n hx hb dX11_has_0 rfl (lv_at hl 0 rfl) ?_
  refine lv_iload_n hx hb dX11_has_1 rfl (lv_at hl 1 rfl) ?_
  refine lv_ishr hx hb dX11_has_2 ?_
  refine lv_topi (fun x1 ex1 => ?_)
  obtain rfl : x1 = 0 := ex1.trans (by decide)
  refine lv_iconst (v := 1) hx hb dX11_has_3 (by decide) ?_
  refine lv_iand hx hb dX11_has_4 ?_
  refine lv_topi (fun x2 ex2 => ?_)
  obtain rfl : x2 = 0 := ex2.trans (by decide)
  refine lv_iconst (v := 1) hx hb dX11_has_5 (by decide) ?_
  refine lv_icmp_ne (tgt := 13) hx hb dX11_has_6 (by decide) (fun c3 => ?_) (fun c3 => absurd c3 (by decide))
  refine lv_iconst (v := 0) hx hb dX11_has_13 (by decide) ?_
  exact ret_i (ty := .boolean) hx hb hr hlocks (rfl) hP hD hS (Nat.le_of_ble_eq_true rfl) (Nat.le_of_ble_eq_true rfl) (⟨rfl, hfr0, hsb0⟩) dX11_has_14

set_option maxHeartbeats 4000000 in
set_option maxRecDepth 100000 in
theorem k_X11_has_1 (l : Launch) (g : GG) (L : List Nat) (f : HP) (sz : Nat)   : MtI l g yX11_has cX11_has 2 (some .boolean) ({ frames := 0, cells := 0, slots := 0, locals := 0 }) [.int 0, .int 1] L f sz (fun r u => r = 0 ∧ (∀ b, b ∈ L → u.2 b = f b) ∧ (∀ b, b ∈ L → b ∈ u.1)) := by
  refine MtI.of (by decide +kernel) (Nat.le_of_ble_eq_true rfl) ?_
  intro p e s m below meth c A hEn hP hD hS ls hl
  obtain ⟨hx, hb, hr, hml, hown, hlocks, hts, hG, hA, hE, hnm⟩ := hEn
  have hown : s.vm.findClass "RulerWordModel" = some m.cls := hown
  have hl : lv_has ls 2 [(0, .int 0), (1, .int 1)] := hl
  have hfr0 : ∀ b, b ∈ L → f b = f b := fun b hb  => rfl
  have hsb0 : ∀ b, b ∈ L → b ∈ L := fun b hb => hb
  refine lv_iload_n hx hb dX11_has_0 rfl (lv_at hl 0 rfl) ?_
  refine lv_iload_n hx hb dX11_has_1 rfl (lv_at hl 1 rfl) ?_
  refine lv_ishr hx hb dX11_has_2 ?_
  refine lv_topi (fun x1 ex1 => ?_)
  obtain rfl : x1 = 0 := ex1.trans (by decide)
  refine lv_iconst (v := 1) hx hb dX11_has_3 (by decide) ?_
  refine lv_iand hx hb dX11_has_4 ?_
  refine lv_topi (fun x2 ex2 => ?_)
  obtain rfl : x2 = 0 := ex2.trans (by decide)
  refine lv_iconst (v := 1) hx hb dX11_has_5 (by decide) ?_
  refine lv_icmp_ne (tgt := 13) hx hb dX11_has_6 (by decide) (fun c3 => ?_) (fun c3 => absurd c3 (by decide))
  refine lv_iconst (v := 0) hx hb dX11_has_13 (by decide) ?_
  exact ret_i (ty := .boolean) hx hb hr hlocks (rfl) hP hD hS (Nat.le_of_ble_eq_true rfl) (Nat.le_of_ble_eq_true rfl) (⟨rfl, hfr0, hsb0⟩) dX11_has_14

set_option maxHeartbeats 4000000 in
set_option maxRecDepth 100000 in
theorem k_X11_has_2 (l : Launch) (g : GG) (L : List Nat) (f : HP) (sz : Nat)   : MtI l g yX11_has cX11_has 2 (some .boolean) ({ frames := 0, cells := 0, slots := 0, locals := 0 }) [.int 0, .int 2] L f sz (fun r u => r = 0 ∧ (∀ b, b ∈ L → u.2 b = f b) ∧ (∀ b, b ∈ L → b ∈ u.1)) := by
  refine MtI.of (by decide +kernel) (Nat.le_of_ble_eq_true rfl) ?_
  intro p e s m below meth c A hEn hP hD hS ls hl
  obtain ⟨hx, hb, hr, hml, hown, hlocks, hts, hG, hA, hE, hnm⟩ := hEn
  have hown : s.vm.findClass "RulerWordModel" = some m.cls := hown
  have hl : lv_has ls 2 [(0, .int 0), (1, .int 2)] := hl
  have hfr0 : ∀ b, b ∈ L → f b = f b := fun b hb  => rfl
  have hsb0 : ∀ b, b ∈ L → b ∈ L := fun b hb => hb
  refine lv_iload_n hx hb dX11_has_0 rfl (lv_at hl 0 rfl) ?_
  refine lv_iload_n hx hb dX11_has_1 rfl (lv_at hl 1 rfl) ?_
  refine lv_ishr hx hb dX11_has_2 ?_
  refine lv_topi (fun x1 ex1 => ?_)
  obtain rfl : x1 = 0 := ex1.trans (by decide)
  refine lv_iconst (v := 1) hx hb dX11_has_3 (by decide) ?_
  refine lv_iand hx hb dX11_has_4 ?_
  refine lv_topi (fun x2 ex2 => ?_)
  obtain rfl : x2 = 0 := ex2.trans (by decide)
  refine lv_iconst (v := 1) hx hb dX11_has_5 (by decide) ?_
  refine lv_icmp_ne (tgt := 13) hx hb dX11_has_6 (by decide) (fun c3 => ?_) (fun c3 => absurd c3 (by decide))
  refine lv_iconst (v := 0) hx hb dX11_has_13 (by decide) ?_
  exact ret_i (ty := .boolean) hx hb hr hlocks (rfl) hP hD hS (Nat.le_of_ble_eq_true rfl) (Nat.le_of_ble_eq_true rfl) (⟨rfl, hfr0, hsb0⟩) dX11_has_14

set_option maxHeartbeats 4000000 in
set_option maxRecDepth 100000 in
theorem k_X11_isDigit (l : Launch) (g : GG) (L : List Nat) (f : HP) (sz : Nat)   : MtI l g yX11_isDigit cX11_isDigit 1 (some .boolean) ({ frames := 0, cells := 0, slots := 0, locals := 0 }) [.int (-1)] L f sz (fun r u => r = 0 ∧ (∀ b, b ∈ L → u.2 b = f b) ∧ (∀ b, b ∈ L → b ∈ u.1)) := by
  refine MtI.of (by decide +kernel) (Nat.le_of_ble_eq_true rfl) ?_
  intro p e s m below meth c A hEn hP hD hS ls hl
  obtain ⟨hx, hb, hr, hml, hown, hlocks, hts, hG, hA, hE, hnm⟩ := hEn
  have hown : s.vm.findClass "RulerWordModel" = some m.cls := hown
  have hl : lv_has ls 1 [(0, .int (-1))] := hl
  have hfr0 : ∀ b, b ∈ L → f b = f b := fun b hb  => rfl
  have hsb0 : ∀ b, b ∈ L → b ∈ L := fun b hb => hb
  refine lv_iload_n hx hb dX11_isDigit_0 rfl (lv_at hl 0 rfl) ?_
  refine lv_bipush (v := 48) hx hb dX11_isDigit_1 (by decide) ?_
  refine lv_icmp_lt (tgt := 16) hx hb dX11_isDigit_3 (by decide) (fun c1 => ?_) (fun c1 => absurd (by decide) c1)
  refine lv_iconst (v := 0) hx hb dX11_isDigit_16 (by decide) ?_
  exact ret_i (ty := .boolean) hx hb hr hlocks (rfl) hP hD hS (Nat.le_of_ble_eq_true rfl) (Nat.le_of_ble_eq_true rfl) (⟨rfl, hfr0, hsb0⟩) dX11_isDigit_17

set_option maxHeartbeats 4000000 in
set_option maxRecDepth 100000 in
theorem k_X11_readsCouncil (l : Launch) (g : GG) (L : List Nat) (f : HP) (sz : Nat) (mo ar1 ar7 ar10 ar11 ar24 ar26 ar27 ar28 ar29 ar30 ar31 ar32 ar33 ar34 ar35 ar41 ar42 ar43 ar44 ar49 ar52 ar54 : Nat) (hm_mo : mo ∈ L) (hf_mo : f mo = .inr (10, [.int 0, .ref ar1, .int 0, .int 0, .int 0, .int 0, .int 0, .ref ar7, .int 0, .int 0, .ref ar10, .ref ar11, .int 0, .int 0, .int 0, .int 0, .int 0, .int 0, .int 0, .int 0, .int 0, .long 0, .long 0, .int 0, .ref ar24, .int 0, .ref ar26, .ref ar27, .ref ar28, .ref ar29, .ref ar30, .ref ar31, .ref ar32, .ref ar33, .ref ar34, .ref ar35, .int 0, .int 0, .int 0, .int 0, .int 0, .ref ar41, .ref ar42, .ref ar43, .ref ar44, .long 0, .long 0, .int 0, .int 0, .ref ar49, .int 0, .int 0, .ref ar52, .int 0, .ref ar54, .int 0])) (hm_ar7 : ar7 ∈ L) (hf_ar7 : f ar7 = .inl (g.2.1 0, 6, .inl (fun _ => 0))) : MtI l g yX11_readsCouncil cX11_readsCouncil 2 (some .int) ({ frames := 3, cells := 0, slots := 0, locals := 63 }) [.ref mo] L f sz (fun r u => ∃ (r7 : Nat → Int32), u.2 mo = .inr (10, [.int 0, .ref ar1, .int 0, .int 0, .int 0, .int 0, .int 0, .ref ar7, .int (-1), .int 0, .ref ar10, .ref ar11, .int 0, .int 0, .int 0, .int 0, .int 0, .int 0, .int 0, .int 0, .int 0, .long 0, .long 0, .int 0, .ref ar24, .int 0, .ref ar26, .ref ar27, .ref ar28, .ref ar29, .ref ar30, .ref ar31, .ref ar32, .ref ar33, .ref ar34, .ref ar35, .int 0, .int 0, .int 0, .int 0, .int 0, .ref ar41, .ref ar42, .ref ar43, .ref ar44, .long 0, .long 0, .int 0, .int 0, .ref ar49, .int 0, .int 0, .ref ar52, .int 0, .ref ar54, .int 0]) ∧ u.2 ar7 = .inl (g.2.1 0, 6, .inl (r7)) ∧ r = 0 ∧ (∀ b, b ∈ L → b ≠ mo → b ≠ ar7 → u.2 b = f b) ∧ (∀ b, b ∈ L → b ∈ u.1)) := by
  refine MtI.of (by decide +kernel) (Nat.le_of_ble_eq_true rfl) ?_
  intro p e s m below meth c A hEn hP hD hS ls hl
  obtain ⟨hx, hb, hr, hml, hown, hlocks, hts, hG, hA, hE, hnm⟩ := hEn
  have hown : s.vm.findClass "RulerWordModel" = some m.cls := hown
  have hl : lv_has ls 2 [(0, .ref mo)] := hl
  have hfr0 : ∀ b, b ∈ L → b ≠ mo → b ≠ ar7 → f b = f b := fun b hb z0 z1 => rfl
  have hsb0 : ∀ b, b ∈ L → b ∈ L := fun b hb => hb
  refine lv_aload_n hx hb dX11_readsCouncil_0 rfl (lv_at hl 0 rfl) ?_
  refine lv_iconst (v := 0) hx hb dX11_readsCouncil_1 (by decide) ?_
  refine pl_put (ty := .int) (v := .int 0) (fs' := [.int 0, .ref ar1, .int 0, .int 0, .int 0, .int 0, .int 0, .ref ar7, .int 0, .int 0, .ref ar10, .ref ar11, .int 0, .int 0, .int 0, .int 0, .int 0, .int 0, .int 0, .int 0, .int 0, .long 0, .long 0, .int 0, .ref ar24, .int 0, .ref ar26, .ref ar27, .ref ar28, .ref ar29, .ref ar30, .ref ar31, .ref ar32, .ref ar33, .ref ar34, .ref ar35, .int 0, .int 0, .int 0, .int 0, .int 0, .ref ar41, .ref ar42, .ref ar43, .ref ar44, .long 0, .long 0, .int 0, .int 0, .ref ar49, .int 0, .int 0, .ref ar52, .int 0, .ref ar54, .int 0]) hx hb hts (fun w h => mT (inX11 w h)) tyX11 tyX11_ok nmX11 hown hG.1 hP hD hS hm_mo hf_mo rfl 3 (by decide) (hts _ (mT wg_1339)) (fun _ h => h) rfl (by decide +kernel) (rfl) (rfl) (Nat.le_of_ble_eq_true rfl) rfl dX11_readsCouncil_2 (fun H locs f1 hf3 ho2 hP hD hS => ?_)
  have hfr4 : ∀ b, b ∈ L → b ≠ mo → b ≠ ar7 → f1 b = f b := fun b hb z0 z1 => (ho2 b z0).trans (hfr0 b hb z0 z1)
  have hf5 := (ho2 ar7 (kno hf_mo hf_ar7).symm).trans hf_ar7
  refine lv_aload_n hx hb dX11_readsCouncil_5 rfl (lv_at hl 0 rfl) ?_
  refine lv_iconst (v := (-1)) hx hb dX11_readsCouncil_6 (by decide) ?_
  refine pl_put (ty := .int) (v := .int (-1)) (fs' := [.int 0, .ref ar1, .int 0, .int 0, .int (-1), .int 0, .int 0, .ref ar7, .int 0, .int 0, .ref ar10, .ref ar11, .int 0, .int 0, .int 0, .int 0, .int 0, .int 0, .int 0, .int 0, .int 0, .long 0, .long 0, .int 0, .ref ar24, .int 0, .ref ar26, .ref ar27, .ref ar28, .ref ar29, .ref ar30, .ref ar31, .ref ar32, .ref ar33, .ref ar34, .ref ar35, .int 0, .int 0, .int 0, .int 0, .int 0, .ref ar41, .ref ar42, .ref ar43, .ref ar44, .long 0, .long 0, .int 0, .int 0, .ref ar49, .int 0, .int 0, .ref ar52, .int 0, .ref ar54, .int 0]) hx hb hts (fun w h => mT (inX11 w h)) tyX11 tyX11_ok nmX11 hown hG.1 hP hD hS hm_mo hf3 rfl 4 (by decide) (hts _ (mT wg_1340)) (fun _ h => h) rfl (by decide +kernel) (rfl) (rfl) (Nat.le_of_ble_eq_true rfl) rfl dX11_readsCouncil_7 (fun H locs f6 hf8 ho7 hP hD hS => ?_)
  have hfr9 : ∀ b, b ∈ L → b ≠ mo → b ≠ ar7 → f6 b = f b := fun b hb z0 z1 => (ho7 b z0).trans (hfr4 b hb z0 z1)
  have hf10 := (ho7 ar7 (kno hf3 hf5).symm).trans hf5
  refine lv_aload_n hx hb dX11_readsCouncil_10 rfl (lv_at hl 0 rfl) ?_
  refine lv_iconst (v := 0) hx hb dX11_readsCouncil_11 (by decide) ?_
  refine pl_put (ty := .int) (v := .int 0) (fs' := [.int 0, .ref ar1, .int 0, .int 0, .int (-1), .int 0, .int 0, .ref ar7, .int 0, .int 0, .ref ar10, .ref ar11, .int 0, .int 0, .int 0, .int 0, .int 0, .int 0, .int 0, .int 0, .int 0, .long 0, .long 0, .int 0, .ref ar24, .int 0, .ref ar26, .ref ar27, .ref ar28, .ref ar29, .ref ar30, .ref ar31, .ref ar32, .ref ar33, .ref ar34, .ref ar35, .int 0, .int 0, .int 0, .int 0, .int 0, .ref ar41, .ref ar42, .ref ar43, .ref ar44, .long 0, .long 0, .int 0, .int 0, .ref ar49, .int 0, .int 0, .ref ar52, .int 0, .ref ar54, .int 0]) hx hb hts (fun w h => mT (inX11 w h)) tyX11 tyX11_ok nmX11 hown hG.1 hP hD hS hm_mo hf8 rfl 9 (by decide) (hts _ (mT wg_1345)) (fun _ h => h) rfl (by decide +kernel) (rfl) (rfl) (Nat.le_of_ble_eq_true rfl) rfl dX11_readsCouncil_12 (fun H locs f11 hf13 ho12 hP hD hS => ?_)
  have hfr14 : ∀ b, b ∈ L → b ≠ mo → b ≠ ar7 → f11 b = f b := fun b hb z0 z1 => (ho12 b z0).trans (hfr9 b hb z0 z1)
  have hf15 := (ho12 ar7 (kno hf8 hf10).symm).trans hf10
  refine lv_iconst (v := 0) hx hb dX11_readsCouncil_15 (by decide) ?_
  refine lv_istore_n (lv' := [(1, .int 0), (0, .ref mo)]) hx hb dX11_readsCouncil_16 rfl hl (by decide) rfl (fun ls hl => ?_)
  refine lv_iload_n hx hb dX11_readsCouncil_17 rfl (lv_at hl 0 rfl) ?_
  refine lv_bipush (v := 6) hx hb dX11_readsCouncil_18 (by decide) ?_
  refine lv_icmp_ge (tgt := 36) hx hb dX11_readsCouncil_20 (by decide) (fun c16 => absurd c16 (by decide)) (fun c16 => ?_)
  refine lv_aload_n hx hb dX11_readsCouncil_23 rfl (lv_at hl 1 rfl) ?_
  refine pl_get (v := .ref ar7) hx hb hts (fun w h => mT (inX11 w h)) hown hG.1 hP hm_mo hf13 rfl 7 (by decide) (hts _ (mT wg_1343)) (fun _ h => h) rfl dX11_readsCouncil_24 ?_
  refine lv_iload_n hx hb dX11_readsCouncil_27 rfl (lv_at hl 0 rfl) ?_
  refine lv_iconst (v := 0) hx hb dX11_readsCouncil_28 (by decide) ?_
  refine pl_iast hx hb hG.1 hP hD hS hm_ar7 0 hf15 rfl (by unfold vp_in; decide) dX11_readsCouncil_29 (fun H locs f17 hf19 ho18 hP hD hS => ?_)
  obtain ⟨r20, er20⟩ : ∃ r : Nat → Int32, r = upd (fun _ => 0) (0 : Int32).toNatClampNeg (0) := ⟨_, rfl⟩
  rw [← er20] at hf19
  have hfr21 : ∀ b, b ∈ L → b ≠ mo → b ≠ ar7 → f17 b = f b := fun b hb z0 z1 => (ho18 b z1).trans (hfr14 b hb z0 z1)
  have hf22 := (ho18 mo (kno hf13 hf15)).trans hf13
  refine lv_iinc (v := 1) (lv' := [(1, .int 1), (0, .ref mo)]) hx hb dX11_readsCouncil_30 hl (k := 0) rfl (by decide) (by decide) rfl (fun ls hl => ?_)
  refine lv_goto (tgt := 17) hx hb dX11_readsCouncil_33 (by decide) ?_
  refine lv_iload_n hx hb dX11_readsCouncil_17 rfl (lv_at hl 0 rfl) ?_
  refine lv_bipush (v := 6) hx hb dX11_readsCouncil_18 (by decide) ?_
  refine lv_icmp_ge (tgt := 36) hx hb dX11_readsCouncil_20 (by decide) (fun c23 => absurd c23 (by decide)) (fun c23 => ?_)
  refine lv_aload_n hx hb dX11_readsCouncil_23 rfl (lv_at hl 1 rfl) ?_
  refine pl_get (v := .ref ar7) hx hb hts (fun w h => mT (inX11 w h)) hown hG.1 hP hm_mo hf22 rfl 7 (by decide) (hts _ (mT wg_1343)) (fun _ h => h) rfl dX11_readsCouncil_24 ?_
  refine lv_iload_n hx hb dX11_readsCouncil_27 rfl (lv_at hl 0 rfl) ?_
  refine lv_iconst (v := 0) hx hb dX11_readsCouncil_28 (by decide) ?_
  refine pl_iast hx hb hG.1 hP hD hS hm_ar7 0 hf19 rfl (by unfold vp_in; decide) dX11_readsCouncil_29 (fun H locs f24 hf26 ho25 hP hD hS => ?_)
  obtain ⟨r27, er27⟩ : ∃ r : Nat → Int32, r = upd (r20) (1 : Int32).toNatClampNeg (0) := ⟨_, rfl⟩
  rw [← er27] at hf26
  have hfr28 : ∀ b, b ∈ L → b ≠ mo → b ≠ ar7 → f24 b = f b := fun b hb z0 z1 => (ho25 b z1).trans (hfr21 b hb z0 z1)
  have hf29 := (ho25 mo (kno hf22 hf19)).trans hf22
  refine lv_iinc (v := 2) (lv' := [(1, .int 2), (0, .ref mo)]) hx hb dX11_readsCouncil_30 hl (k := 0) rfl (by decide) (by decide) rfl (fun ls hl => ?_)
  refine lv_goto (tgt := 17) hx hb dX11_readsCouncil_33 (by decide) ?_
  refine lv_iload_n hx hb dX11_readsCouncil_17 rfl (lv_at hl 0 rfl) ?_
  refine lv_bipush (v := 6) hx hb dX11_readsCouncil_18 (by decide) ?_
  refine lv_icmp_ge (tgt := 36) hx hb dX11_readsCouncil_20 (by decide) (fun c30 => absurd c30 (by decide)) (fun c30 => ?_)
  refine lv_aload_n hx hb dX11_readsCouncil_23 rfl (lv_at hl 1 rfl) ?_
  refine pl_get (v := .ref ar7) hx hb hts (fun w h => mT (inX11 w h)) hown hG.1 hP hm_mo hf29 rfl 7 (by decide) (hts _ (mT wg_1343)) (fun _ h => h) rfl dX11_readsCouncil_24 ?_
  refine lv_iload_n hx hb dX11_readsCouncil_27 rfl (lv_at hl 0 rfl) ?_
  refine lv_iconst (v := 0) hx hb dX11_readsCouncil_28 (by decide) ?_
  refine pl_iast hx hb hG.1 hP hD hS hm_ar7 0 hf26 rfl (by unfold vp_in; decide) dX11_readsCouncil_29 (fun H locs f31 hf33 ho32 hP hD hS => ?_)
  obtain ⟨r34, er34⟩ : ∃ r : Nat → Int32, r = upd (r27) (2 : Int32).toNatClampNeg (0) := ⟨_, rfl⟩
  rw [← er34] at hf33
  have hfr35 : ∀ b, b ∈ L → b ≠ mo → b ≠ ar7 → f31 b = f b := fun b hb z0 z1 => (ho32 b z1).trans (hfr28 b hb z0 z1)
  have hf36 := (ho32 mo (kno hf29 hf26)).trans hf29
  refine lv_iinc (v := 3) (lv' := [(1, .int 3), (0, .ref mo)]) hx hb dX11_readsCouncil_30 hl (k := 0) rfl (by decide) (by decide) rfl (fun ls hl => ?_)
  refine lv_goto (tgt := 17) hx hb dX11_readsCouncil_33 (by decide) ?_
  refine lv_iload_n hx hb dX11_readsCouncil_17 rfl (lv_at hl 0 rfl) ?_
  refine lv_bipush (v := 6) hx hb dX11_readsCouncil_18 (by decide) ?_
  refine lv_icmp_ge (tgt := 36) hx hb dX11_readsCouncil_20 (by decide) (fun c37 => absurd c37 (by decide)) (fun c37 => ?_)
  refine lv_aload_n hx hb dX11_readsCouncil_23 rfl (lv_at hl 1 rfl) ?_
  refine pl_get (v := .ref ar7) hx hb hts (fun w h => mT (inX11 w h)) hown hG.1 hP hm_mo hf36 rfl 7 (by decide) (hts _ (mT wg_1343)) (fun _ h => h) rfl dX11_readsCouncil_24 ?_
  refine lv_iload_n hx hb dX11_readsCouncil_27 rfl (lv_at hl 0 rfl) ?_
  refine lv_iconst (v := 0) hx hb dX11_readsCouncil_28 (by decide) ?_
  refine pl_iast hx hb hG.1 hP hD hS hm_ar7 0 hf33 rfl (by unfold vp_in; decide) dX11_readsCouncil_29 (fun H locs f38 hf40 ho39 hP hD hS => ?_)
  obtain ⟨r41, er41⟩ : ∃ r : Nat → Int32, r = upd (r34) (3 : Int32).toNatClampNeg (0) := ⟨_, rfl⟩
  rw [← er41] at hf40
  have hfr42 : ∀ b, b ∈ L → b ≠ mo → b ≠ ar7 → f38 b = f b := fun b hb z0 z1 => (ho39 b z1).trans (hfr35 b hb z0 z1)
  have hf43 := (ho39 mo (kno hf36 hf33)).trans hf36
  refine lv_iinc (v := 4) (lv' := [(1, .int 4), (0, .ref mo)]) hx hb dX11_readsCouncil_30 hl (k := 0) rfl (by decide) (by decide) rfl (fun ls hl => ?_)
  refine lv_goto (tgt := 17) hx hb dX11_readsCouncil_33 (by decide) ?_
  refine lv_iload_n hx hb dX11_readsCouncil_17 rfl (lv_at hl 0 rfl) ?_
  refine lv_bipush (v := 6) hx hb dX11_readsCouncil_18 (by decide) ?_
  refine lv_icmp_ge (tgt := 36) hx hb dX11_readsCouncil_20 (by decide) (fun c44 => absurd c44 (by decide)) (fun c44 => ?_)
  refine lv_aload_n hx hb dX11_readsCouncil_23 rfl (lv_at hl 1 rfl) ?_
  refine pl_get (v := .ref ar7) hx hb hts (fun w h => mT (inX11 w h)) hown hG.1 hP hm_mo hf43 rfl 7 (by decide) (hts _ (mT wg_1343)) (fun _ h => h) rfl dX11_readsCouncil_24 ?_
  refine lv_iload_n hx hb dX11_readsCouncil_27 rfl (lv_at hl 0 rfl) ?_
  refine lv_iconst (v := 0) hx hb dX11_readsCouncil_28 (by decide) ?_
  refine pl_iast hx hb hG.1 hP hD hS hm_ar7 0 hf40 rfl (by unfold vp_in; decide) dX11_readsCouncil_29 (fun H locs f45 hf47 ho46 hP hD hS => ?_)
  obtain ⟨r48, er48⟩ : ∃ r : Nat → Int32, r = upd (r41) (4 : Int32).toNatClampNeg (0) := ⟨_, rfl⟩
  rw [← er48] at hf47
  have hfr49 : ∀ b, b ∈ L → b ≠ mo → b ≠ ar7 → f45 b = f b := fun b hb z0 z1 => (ho46 b z1).trans (hfr42 b hb z0 z1)
  have hf50 := (ho46 mo (kno hf43 hf40)).trans hf43
  refine lv_iinc (v := 5) (lv' := [(1, .int 5), (0, .ref mo)]) hx hb dX11_readsCouncil_30 hl (k := 0) rfl (by decide) (by decide) rfl (fun ls hl => ?_)
  refine lv_goto (tgt := 17) hx hb dX11_readsCouncil_33 (by decide) ?_
  refine lv_iload_n hx hb dX11_readsCouncil_17 rfl (lv_at hl 0 rfl) ?_
  refine lv_bipush (v := 6) hx hb dX11_readsCouncil_18 (by decide) ?_
  refine lv_icmp_ge (tgt := 36) hx hb dX11_readsCouncil_20 (by decide) (fun c51 => absurd c51 (by decide)) (fun c51 => ?_)
  refine lv_aload_n hx hb dX11_readsCouncil_23 rfl (lv_at hl 1 rfl) ?_
  refine pl_get (v := .ref ar7) hx hb hts (fun w h => mT (inX11 w h)) hown hG.1 hP hm_mo hf50 rfl 7 (by decide) (hts _ (mT wg_1343)) (fun _ h => h) rfl dX11_readsCouncil_24 ?_
  refine lv_iload_n hx hb dX11_readsCouncil_27 rfl (lv_at hl 0 rfl) ?_
  refine lv_iconst (v := 0) hx hb dX11_readsCouncil_28 (by decide) ?_
  refine pl_iast hx hb hG.1 hP hD hS hm_ar7 0 hf47 rfl (by unfold vp_in; decide) dX11_readsCouncil_29 (fun H locs f52 hf54 ho53 hP hD hS => ?_)
  obtain ⟨r55, er55⟩ : ∃ r : Nat → Int32, r = upd (r48) (5 : Int32).toNatClampNeg (0) := ⟨_, rfl⟩
  rw [← er55] at hf54
  have hfr56 : ∀ b, b ∈ L → b ≠ mo → b ≠ ar7 → f52 b = f b := fun b hb z0 z1 => (ho53 b z1).trans (hfr49 b hb z0 z1)
  have hf57 := (ho53 mo (kno hf50 hf47)).trans hf50
  refine lv_iinc (v := 6) (lv' := [(1, .int 6), (0, .ref mo)]) hx hb dX11_readsCouncil_30 hl (k := 0) rfl (by decide) (by decide) rfl (fun ls hl => ?_)
  refine lv_goto (tgt := 17) hx hb dX11_readsCouncil_33 (by decide) ?_
  refine lv_iload_n hx hb dX11_readsCouncil_17 rfl (lv_at hl 0 rfl) ?_
  refine lv_bipush (v := 6) hx hb dX11_readsCouncil_18 (by decide) ?_
  refine lv_icmp_ge (tgt := 36) hx hb dX11_readsCouncil_20 (by decide) (fun c58 => ?_) (fun c58 => absurd (by decide) c58)
  refine lv_aload_n hx hb dX11_readsCouncil_36 rfl (lv_at hl 1 rfl) ?_
  refine call_i (run_V (rm := { frames := 1, cells := 0, slots := 0, locals := 20 }) hx hb hml hown hts (k_X11_look l g _ _ _ mo ar1 ar7 ar10 ar11 ar24 ar26 ar27 ar28 ar29 ar30 ar31 ar32 ar33 ar34 ar35 ar41 ar42 ar43 ar44 ar49 ar52 ar54 (-1) 0 0 hm_mo hf57) cV_X11_look wg_1533 ⟨Nat.le_of_ble_eq_true rfl, Nat.le_of_ble_eq_true rfl⟩ hG hE hA hP hD hS hm_mo hf57 rfl rfl hl.1 (As := []) (rest := []) rfl (Nat.le_of_ble_eq_true rfl) dX11_readsCouncil_37 ⟨Nat.le_of_ble_eq_true rfl, Nat.le_of_ble_eq_true rfl⟩) hA hD hS (fun r59 L60 f61 H locs hp62 hP hD hS => ?_)
  obtain ⟨er63, fr64, sb65⟩ := hp62
  have hfr66 : ∀ b, b ∈ L → b ≠ mo → b ≠ ar7 → f61 b = f b := fun b hb z0 z1 => (fr64 b (hsb0 b hb) ).trans (hfr56 b hb z0 z1)
  have hsb67 : ∀ b, b ∈ L → b ∈ L60 := fun b hb => sb65 b (hsb0 b hb)
  have hf69 := (fr64 mo hm_mo ).trans hf57
  have hm68 := sb65 _ hm_mo
  have hf71 := (fr64 ar7 hm_ar7 ).trans hf54
  have hm70 := sb65 _ hm_ar7
  subst er63
  refine lv_istore_n (lv' := [(1, .int (-1)), (0, .ref mo)]) hx hb dX11_readsCouncil_40 rfl hl (by decide) rfl (fun ls hl => ?_)
  refine lv_aload_n hx hb dX11_readsCouncil_41 rfl (lv_at hl 1 rfl) ?_
  refine lv_aload_n hx hb dX11_readsCouncil_42 rfl (lv_at hl 1 rfl) ?_
  refine va_ldcS hx hb hown (hG.2.2.1 ("RulerWordModel", 174, "king", 0) (by decide +kernel)) dX11_readsCouncil_43 ?_
  refine call_i (run_V (rm := { frames := 2, cells := 0, slots := 0, locals := 40 }) hx hb hml hown hts (k_X11_takes l g _ _ _ mo ar1 ar7 ar10 ar11 ar24 ar26 ar27 ar28 ar29 ar30 ar31 ar32 ar33 ar34 ar35 ar41 ar42 ar43 ar44 ar49 ar52 ar54 0 (-1) 0 0 hm68 hf69 (by decide) (by decide)) cV_X11_takes wg_1542 ⟨Nat.le_of_ble_eq_true rfl, Nat.le_of_ble_eq_true rfl⟩ hG hE hA hP hD hS hm68 hf69 rfl rfl hl.1 (As := [.ref (g.2.2.1 0)]) (rest := [.ref mo]) rfl (Nat.le_of_ble_eq_true rfl) dX11_readsCouncil_45 ⟨Nat.le_of_ble_eq_true rfl, Nat.le_of_ble_eq_true rfl⟩) hA hD hS (fun r72 L73 f74 H locs hp75 hP hD hS => ?_)
  obtain ⟨er76, fr77, sb78⟩ := hp75
  have hfr79 : ∀ b, b ∈ L → b ≠ mo → b ≠ ar7 → f74 b = f b := fun b hb z0 z1 => (fr77 b (hsb67 b hb) ).trans (hfr66 b hb z0 z1)
  have hsb80 : ∀ b, b ∈ L → b ∈ L73 := fun b hb => sb78 b (hsb67 b hb)
  have hf82 := (fr77 mo hm68 ).trans hf69
  have hm81 := sb78 _ hm68
  have hf84 := (fr77 ar7 hm70 ).trans hf71
  have hm83 := sb78 _ hm70
  subst er76
  refine lv_if_eq (tgt := 55) hx hb dX11_readsCouncil_48 (by decide) (fun c85 => ?_) (fun c85 => absurd (by decide) c85)
  refine lv_aload_n hx hb dX11_readsCouncil_55 rfl (lv_at hl 1 rfl) ?_
  refine va_ldcS hx hb hown (hG.2.2.1 ("RulerWordModel", 176, "queen", 1) (by decide +kernel)) dX11_readsCouncil_56 ?_
  refine call_i (run_V (rm := { frames := 2, cells := 0, slots := 0, locals := 40 }) hx hb hml hown hts (k_X11_takes l g _ _ _ mo ar1 ar7 ar10 ar11 ar24 ar26 ar27 ar28 ar29 ar30 ar31 ar32 ar33 ar34 ar35 ar41 ar42 ar43 ar44 ar49 ar52 ar54 1 (-1) 0 0 hm81 hf82 (by decide) (by decide)) cV_X11_takes wg_1542 ⟨Nat.le_of_ble_eq_true rfl, Nat.le_of_ble_eq_true rfl⟩ hG hE hA hP hD hS hm81 hf82 rfl rfl hl.1 (As := [.ref (g.2.2.1 1)]) (rest := [.ref mo]) rfl (Nat.le_of_ble_eq_true rfl) dX11_readsCouncil_58 ⟨Nat.le_of_ble_eq_true rfl, Nat.le_of_ble_eq_true rfl⟩) hA hD hS (fun r86 L87 f88 H locs hp89 hP hD hS => ?_)
  obtain ⟨er90, fr91, sb92⟩ := hp89
  have hfr93 : ∀ b, b ∈ L → b ≠ mo → b ≠ ar7 → f88 b = f b := fun b hb z0 z1 => (fr91 b (hsb80 b hb) ).trans (hfr79 b hb z0 z1)
  have hsb94 : ∀ b, b ∈ L → b ∈ L87 := fun b hb => sb92 b (hsb80 b hb)
  have hf96 := (fr91 mo hm81 ).trans hf82
  have hm95 := sb92 _ hm81
  have hf98 := (fr91 ar7 hm83 ).trans hf84
  have hm97 := sb92 _ hm83
  subst er90
  refine lv_if_eq (tgt := 68) hx hb dX11_readsCouncil_61 (by decide) (fun c99 => ?_) (fun c99 => absurd (by decide) c99)
  refine lv_iconst (v := (-1)) hx hb dX11_readsCouncil_68 (by decide) ?_
  refine pl_put (ty := .int) (v := .int (-1)) (fs' := [.int 0, .ref ar1, .int 0, .int 0, .int (-1), .int 0, .int 0, .ref ar7, .int (-1), .int 0, .ref ar10, .ref ar11, .int 0, .int 0, .int 0, .int 0, .int 0, .int 0, .int 0, .int 0, .int 0, .long 0, .long 0, .int 0, .ref ar24, .int 0, .ref ar26, .ref ar27, .ref ar28, .ref ar29, .ref ar30, .ref ar31, .ref ar32, .ref ar33, .ref ar34, .ref ar35, .int 0, .int 0, .int 0, .int 0, .int 0, .ref ar41, .ref ar42, .ref ar43, .ref ar44, .long 0, .long 0, .int 0, .int 0, .ref ar49, .int 0, .int 0, .ref ar52, .int 0, .ref ar54, .int 0]) hx hb hts (fun w h => mT (inX11 w h)) tyX11 tyX11_ok nmX11 hown hG.1 hP hD hS hm95 hf96 rfl 8 (by decide) (hts _ (mT wg_1344)) (fun _ h => h) rfl (by decide +kernel) (rfl) (rfl) (Nat.le_of_ble_eq_true rfl) rfl dX11_readsCouncil_69 (fun H locs f100 hf102 ho101 hP hD hS => ?_)
  have hfr103 : ∀ b, b ∈ L → b ≠ mo → b ≠ ar7 → f100 b = f b := fun b hb z0 z1 => (ho101 b z0).trans (hfr93 b hb z0 z1)
  have hf104 := (ho101 ar7 (kno hf96 hf98).symm).trans hf98
  refine lv_aload_n hx hb dX11_readsCouncil_72 rfl (lv_at hl 1 rfl) ?_
  refine pl_get (v := .int (-1)) hx hb hts (fun w h => mT (inX11 w h)) hown hG.1 hP hm95 hf102 rfl 8 (by decide) (hts _ (mT wg_1344)) (fun _ h => h) rfl dX11_readsCouncil_73 ?_
  refine lv_iconst (v := (-1)) hx hb dX11_readsCouncil_76 (by decide) ?_
  refine lv_icmp_ne (tgt := 88) hx hb dX11_readsCouncil_77 (by decide) (fun c105 => absurd rfl c105) (fun c105 => ?_)
  refine lv_aload_n hx hb dX11_readsCouncil_80 rfl (lv_at hl 1 rfl) ?_
  refine lv_aload_n hx hb dX11_readsCouncil_81 rfl (lv_at hl 1 rfl) ?_
  refine pl_get (v := .int 0) hx hb hts (fun w h => mT (inX11 w h)) hown hG.1 hP hm95 hf102 rfl 3 (by decide) (hts _ (mT wg_1339)) (fun _ h => h) rfl dX11_readsCouncil_82 ?_
  refine call_v (run_V (rm := { frames := 0, cells := 0, slots := 0, locals := 0 }) hx hb hml hown hts (k_X11_fails l g _ _ _ mo ar1 ar7 ar10 ar11 ar24 ar26 ar27 ar28 ar29 ar30 ar31 ar32 ar33 ar34 ar35 ar41 ar42 ar43 ar44 ar49 ar52 ar54 0 (-1) 0 hm95 hf102) cV_X11_fails wg_1549 ⟨Nat.le_of_ble_eq_true rfl, Nat.le_of_ble_eq_true rfl⟩ hG hE hA hP hD hS hm95 hf102 rfl rfl hl.1 (As := [.int 0]) (rest := []) rfl (Nat.le_of_ble_eq_true rfl) dX11_readsCouncil_85 ⟨Nat.le_of_ble_eq_true rfl, Nat.le_of_ble_eq_true rfl⟩) hA hD hS (fun L107 f108 H locs hp109 hP hD hS => ?_)
  obtain ⟨hf110, fr111, sb112⟩ := hp109
  have hfr113 : ∀ b, b ∈ L → b ≠ mo → b ≠ ar7 → f108 b = f b := fun b hb z0 z1 => (fr111 b (hsb94 b hb) z0).trans (hfr103 b hb z0 z1)
  have hsb114 : ∀ b, b ∈ L → b ∈ L107 := fun b hb => sb112 b (hsb94 b hb)
  have hm115 := sb112 _ hm95
  have hf117 := (fr111 ar7 hm97 (kno hf102 hf104).symm).trans hf104
  have hm116 := sb112 _ hm97
  refine lv_aload_n hx hb dX11_readsCouncil_88 rfl (lv_at hl 1 rfl) ?_
  refine pl_get (v := .int 0) hx hb hts (fun w h => mT (inX11 w h)) hown hG.1 hP hm115 hf110 rfl 4 (by decide) (hts _ (mT wg_1340)) (fun _ h => h) rfl dX11_readsCouncil_89 ?_
  refine lv_iconst (v := (-1)) hx hb dX11_readsCouncil_92 (by decide) ?_
  refine lv_icmp_ne (tgt := 122) hx hb dX11_readsCouncil_93 (by decide) (fun c118 => ?_) (fun c118 => absurd c118 (by decide))
  refine lv_aload_n hx hb dX11_readsCouncil_122 rfl (lv_at hl 1 rfl) ?_
  refine pl_get (v := .int 0) hx hb hts (fun w h => mT (inX11 w h)) hown hG.1 hP hm115 hf110 rfl 4 (by decide) (hts _ (mT wg_1340)) (fun _ h => h) rfl dX11_readsCouncil_123 ?_
  refine lv_iconst (v := (-1)) hx hb dX11_readsCouncil_126 (by decide) ?_
  refine lv_icmp_ne (tgt := 157) hx hb dX11_readsCouncil_127 (by decide) (fun c119 => ?_) (fun c119 => absurd c119 (by decide))
  refine lv_aload_n hx hb dX11_readsCouncil_157 rfl (lv_at hl 1 rfl) ?_
  refine pl_get (v := .int 0) hx hb hts (fun w h => mT (inX11 w h)) hown hG.1 hP hm115 hf110 rfl 9 (by decide) (hts _ (mT wg_1345)) (fun _ h => h) rfl dX11_readsCouncil_158 ?_
  refine lv_iconst (v := 1) hx hb dX11_readsCouncil_161 (by decide) ?_
  refine call_i (run_S (rm := { frames := 0, cells := 0, slots := 0, locals := 0 }) hx hb hml hown hts (k_X11_has_1 l g _ _ _ ) cS_X11_has wg_1567 ⟨Nat.le_of_ble_eq_true rfl, Nat.le_of_ble_eq_true rfl⟩ hG hE hA hP hD hS rfl hl.1 (As := [.int 0, .int 1]) (rest := []) rfl (Nat.le_of_ble_eq_true rfl) dX11_readsCouncil_162 ⟨Nat.le_of_ble_eq_true rfl, Nat.le_of_ble_eq_true rfl⟩) hA hD hS (fun r120 L121 f122 H locs hp123 hP hD hS => ?_)
  obtain ⟨er124, fr125, sb126⟩ := hp123
  have hfr127 : ∀ b, b ∈ L → b ≠ mo → b ≠ ar7 → f122 b = f b := fun b hb z0 z1 => (fr125 b (hsb114 b hb) ).trans (hfr113 b hb z0 z1)
  have hsb128 : ∀ b, b ∈ L → b ∈ L121 := fun b hb => sb126 b (hsb114 b hb)
  have hf130 := (fr125 mo hm115 ).trans hf110
  have hm129 := sb126 _ hm115
  have hf132 := (fr125 ar7 hm116 ).trans hf117
  have hm131 := sb126 _ hm116
  subst er124
  refine lv_if_ne (tgt := 195) hx hb dX11_readsCouncil_165 (by decide) (fun c133 => absurd rfl c133) (fun c133 => ?_)
  refine lv_aload_n hx hb dX11_readsCouncil_168 rfl (lv_at hl 1 rfl) ?_
  refine pl_get (v := .ref ar7) hx hb hts (fun w h => mT (inX11 w h)) hown hG.1 hP hm129 hf130 rfl 7 (by decide) (hts _ (mT wg_1343)) (fun _ h => h) rfl dX11_readsCouncil_169 ?_
  refine lv_iconst (v := 1) hx hb dX11_readsCouncil_172 (by decide) ?_
  refine lv_aload_n hx hb dX11_readsCouncil_173 rfl (lv_at hl 1 rfl) ?_
  refine pl_get (v := .ref ar7) hx hb hts (fun w h => mT (inX11 w h)) hown hG.1 hP hm129 hf130 rfl 7 (by decide) (hts _ (mT wg_1343)) (fun _ h => h) rfl dX11_readsCouncil_174 ?_
  refine lv_iconst (v := 0) hx hb dX11_readsCouncil_177 (by decide) ?_
  refine pl_iald hx hb hG.1 hP hm131 0 hf132 rfl (by unfold vp_in; decide) dX11_readsCouncil_178 ?_
  refine lv_topi (fun x134 ex134 => ?_)
  obtain rfl : x134 = 0 := ex134.trans (by rw [er55]; exact (by rw [er48]; exact (by rw [er41]; exact (by rw [er34]; exact (by rw [er27]; exact (by rw [er20]; rfl))))))
  refine lv_iconst (v := 1) hx hb dX11_readsCouncil_179 (by decide) ?_
  refine lv_isub hx hb dX11_readsCouncil_180 ?_
  refine lv_topi (fun x135 ex135 => ?_)
  obtain rfl : x135 = (-1) := ex135.trans (by decide)
  refine lv_aload_n hx hb dX11_readsCouncil_181 rfl (lv_at hl 1 rfl) ?_
  refine pl_get (v := .int (-1)) hx hb hts (fun w h => mT (inX11 w h)) hown hG.1 hP hm129 hf130 rfl 8 (by decide) (hts _ (mT wg_1344)) (fun _ h => h) rfl dX11_readsCouncil_182 ?_
  refine lv_if_ne (tgt := 192) hx hb dX11_readsCouncil_185 (by decide) (fun c136 => ?_) (fun c136 => absurd c136 (by decide))
  refine lv_iconst (v := 4) hx hb dX11_readsCouncil_192 (by decide) ?_
  refine lv_idiv hx hb dX11_readsCouncil_193 (by decide) ?_
  refine lv_topi (fun x137 ex137 => ?_)
  obtain rfl : x137 = 0 := ex137.trans (by decide)
  refine pl_iast hx hb hG.1 hP hD hS hm131 0 hf132 rfl (by unfold vp_in; decide) dX11_readsCouncil_194 (fun H locs f138 hf140 ho139 hP hD hS => ?_)
  obtain ⟨r141, er141⟩ : ∃ r : Nat → Int32, r = upd (r55) (1 : Int32).toNatClampNeg (0) := ⟨_, rfl⟩
  rw [← er141] at hf140
  have hfr142 : ∀ b, b ∈ L → b ≠ mo → b ≠ ar7 → f138 b = f b := fun b hb z0 z1 => (ho139 b z1).trans (hfr127 b hb z0 z1)
  have hf143 := (ho139 mo (kno hf130 hf132)).trans hf130
  refine lv_aload_n hx hb dX11_readsCouncil_195 rfl (lv_at hl 1 rfl) ?_
  refine pl_get (v := .int 0) hx hb hts (fun w h => mT (inX11 w h)) hown hG.1 hP hm129 hf143 rfl 9 (by decide) (hts _ (mT wg_1345)) (fun _ h => h) rfl dX11_readsCouncil_196 ?_
  refine lv_iconst (v := 2) hx hb dX11_readsCouncil_199 (by decide) ?_
  refine call_i (run_S (rm := { frames := 0, cells := 0, slots := 0, locals := 0 }) hx hb hml hown hts (k_X11_has_2 l g _ _ _ ) cS_X11_has wg_1567 ⟨Nat.le_of_ble_eq_true rfl, Nat.le_of_ble_eq_true rfl⟩ hG hE hA hP hD hS rfl hl.1 (As := [.int 0, .int 2]) (rest := []) rfl (Nat.le_of_ble_eq_true rfl) dX11_readsCouncil_200 ⟨Nat.le_of_ble_eq_true rfl, Nat.le_of_ble_eq_true rfl⟩) hA hD hS (fun r144 L145 f146 H locs hp147 hP hD hS => ?_)
  obtain ⟨er148, fr149, sb150⟩ := hp147
  have hfr151 : ∀ b, b ∈ L → b ≠ mo → b ≠ ar7 → f146 b = f b := fun b hb z0 z1 => (fr149 b (hsb128 b hb) ).trans (hfr142 b hb z0 z1)
  have hsb152 : ∀ b, b ∈ L → b ∈ L145 := fun b hb => sb150 b (hsb128 b hb)
  have hf154 := (fr149 mo hm129 ).trans hf143
  have hm153 := sb150 _ hm129
  have hf156 := (fr149 ar7 hm131 ).trans hf140
  have hm155 := sb150 _ hm131
  subst er148
  refine lv_if_ne (tgt := 220) hx hb dX11_readsCouncil_203 (by decide) (fun c157 => absurd rfl c157) (fun c157 => ?_)
  refine lv_aload_n hx hb dX11_readsCouncil_206 rfl (lv_at hl 1 rfl) ?_
  refine pl_get (v := .ref ar7) hx hb hts (fun w h => mT (inX11 w h)) hown hG.1 hP hm153 hf154 rfl 7 (by decide) (hts _ (mT wg_1343)) (fun _ h => h) rfl dX11_readsCouncil_207 ?_
  refine lv_iconst (v := 2) hx hb dX11_readsCouncil_210 (by decide) ?_
  refine lv_aload_n hx hb dX11_readsCouncil_211 rfl (lv_at hl 1 rfl) ?_
  refine pl_get (v := .ref ar7) hx hb hts (fun w h => mT (inX11 w h)) hown hG.1 hP hm153 hf154 rfl 7 (by decide) (hts _ (mT wg_1343)) (fun _ h => h) rfl dX11_readsCouncil_212 ?_
  refine lv_iconst (v := 1) hx hb dX11_readsCouncil_215 (by decide) ?_
  refine pl_iald hx hb hG.1 hP hm155 0 hf156 rfl (by unfold vp_in; decide) dX11_readsCouncil_216 ?_
  refine lv_topi (fun x158 ex158 => ?_)
  obtain rfl : x158 = 0 := ex158.trans (by rw [er141]; rfl)
  refine lv_iconst (v := 1) hx hb dX11_readsCouncil_217 (by decide) ?_
  refine lv_iadd hx hb dX11_readsCouncil_218 ?_
  refine lv_topi (fun x159 ex159 => ?_)
  obtain rfl : x159 = 1 := ex159.trans (by decide)
  refine pl_iast hx hb hG.1 hP hD hS hm155 0 hf156 rfl (by unfold vp_in; decide) dX11_readsCouncil_219 (fun H locs f160 hf162 ho161 hP hD hS => ?_)
  obtain ⟨r163, er163⟩ : ∃ r : Nat → Int32, r = upd (r141) (2 : Int32).toNatClampNeg (1) := ⟨_, rfl⟩
  rw [← er163] at hf162
  have hfr164 : ∀ b, b ∈ L → b ≠ mo → b ≠ ar7 → f160 b = f b := fun b hb z0 z1 => (ho161 b z1).trans (hfr151 b hb z0 z1)
  have hf165 := (ho161 mo (kno hf154 hf156)).trans hf154
  refine lv_aload_n hx hb dX11_readsCouncil_220 rfl (lv_at hl 1 rfl) ?_
  refine pl_get (v := .int 0) hx hb hts (fun w h => mT (inX11 w h)) hown hG.1 hP hm153 hf165 rfl 4 (by decide) (hts _ (mT wg_1340)) (fun _ h => h) rfl dX11_readsCouncil_221 ?_
  exact ret_i (ty := .int) hx hb hr hlocks (rfl) hP hD hS (Nat.le_of_ble_eq_true rfl) (Nat.le_of_ble_eq_true rfl) (⟨r163, hf165, hf162, rfl, hfr164, hsb152⟩) dX11_readsCouncil_224

set_option maxHeartbeats 4000000 in
set_option maxRecDepth 100000 in
theorem k_X11_planLine (l : Launch) (g : GG) (L : List Nat) (f : HP) (sz : Nat) (mo ar1 ar7 ar10 ar11 ar24 ar26 ar27 ar28 ar29 ar30 ar31 ar32 ar33 ar34 ar35 ar41 ar42 ar43 ar44 ar49 ar52 ar54 : Nat) (hm_mo : mo ∈ L) (hf_mo : f mo = .inr (10, [.int 0, .ref ar1, .int 0, .int 0, .int (-1), .int 0, .int 0, .ref ar7, .int 0, .int 0, .ref ar10, .ref ar11, .int 0, .int 0, .int 0, .int 0, .int 0, .int 0, .int 0, .int 0, .int 0, .long 0, .long 0, .int 0, .ref ar24, .int 0, .ref ar26, .ref ar27, .ref ar28, .ref ar29, .ref ar30, .ref ar31, .ref ar32, .ref ar33, .ref ar34, .ref ar35, .int 0, .int 0, .int 0, .int 0, .int 0, .ref ar41, .ref ar42, .ref ar43, .ref ar44, .long 0, .long 0, .int 0, .int 0, .ref ar49, .int 0, .int 0, .ref ar52, .int 0, .ref ar54, .int 0])) (hm_ar11 : ar11 ∈ L) (hf_ar11 : f ar11 = .inl (g.2.1 0, 100, .inl (fun _ => 0))) : MtV l g yX11_planLine cX11_planLine 3 ({ frames := 3, cells := 0, slots := 0, locals := 63 }) [.ref mo] L f sz (fun u => ∃ (r11 : Nat → Int32), u.2 mo = .inr (10, [.int 0, .ref ar1, .int 0, .int 0, .int 0, .int 0, .int 0, .ref ar7, .int 0, .int 0, .ref ar10, .ref ar11, .int 0, .int 1, .int 0, .int 0, .int 0, .int 0, .int 0, .int 0, .int 0, .long 0, .long 0, .int 0, .ref ar24, .int 0, .ref ar26, .ref ar27, .ref ar28, .ref ar29, .ref ar30, .ref ar31, .ref ar32, .ref ar33, .ref ar34, .ref ar35, .int 0, .int 0, .int 0, .int 0, .int 0, .ref ar41, .ref ar42, .ref ar43, .ref ar44, .long 0, .long 0, .int 0, .int 0, .ref ar49, .int 0, .int 0, .ref ar52, .int 0, .ref ar54, .int 0]) ∧ u.2 ar11 = .inl (g.2.1 0, 100, .inl (r11)) ∧ (∀ b, b ∈ L → b ≠ mo → b ≠ ar11 → u.2 b = f b) ∧ (∀ b, b ∈ L → b ∈ u.1)) := by
  refine MtV.of (by decide +kernel) (Nat.le_of_ble_eq_true rfl) ?_
  intro p e s m below meth c A hEn hP hD hS ls hl
  obtain ⟨hx, hb, hr, hml, hown, hlocks, hts, hG, hA, hE, hnm⟩ := hEn
  have hown : s.vm.findClass "RulerWordModel" = some m.cls := hown
  have hl : lv_has ls 3 [(0, .ref mo)] := hl
  have hfr0 : ∀ b, b ∈ L → b ≠ mo → b ≠ ar11 → f b = f b := fun b hb z0 z1 => rfl
  have hsb0 : ∀ b, b ∈ L → b ∈ L := fun b hb => hb
  refine lv_aload_n hx hb dX11_planLine_0 rfl (lv_at hl 0 rfl) ?_
  refine call_i (run_V (rm := { frames := 1, cells := 0, slots := 0, locals := 20 }) hx hb hml hown hts (k_X11_look l g _ _ _ mo ar1 ar7 ar10 ar11 ar24 ar26 ar27 ar28 ar29 ar30 ar31 ar32 ar33 ar34 ar35 ar41 ar42 ar43 ar44 ar49 ar52 ar54 (-1) 0 0 hm_mo hf_mo) cV_X11_look wg_1533 ⟨Nat.le_of_ble_eq_true rfl, Nat.le_of_ble_eq_true rfl⟩ hG hE hA hP hD hS hm_mo hf_mo rfl rfl hl.1 (As := []) (rest := []) rfl (Nat.le_of_ble_eq_true rfl) dX11_planLine_1 ⟨Nat.le_of_ble_eq_true rfl, Nat.le_of_ble_eq_true rfl⟩) hA hD hS (fun r1 L2 f3 H locs hp4 hP hD hS => ?_)
  obtain ⟨er5, fr6, sb7⟩ := hp4
  have hfr8 : ∀ b, b ∈ L → b ≠ mo → b ≠ ar11 → f3 b = f b := fun b hb z0 z1 => (fr6 b (hsb0 b hb) ).trans (hfr0 b hb z0 z1)
  have hsb9 : ∀ b, b ∈ L → b ∈ L2 := fun b hb => sb7 b (hsb0 b hb)
  have hf11 := (fr6 mo hm_mo ).trans hf_mo
  have hm10 := sb7 _ hm_mo
  have hf13 := (fr6 ar11 hm_ar11 ).trans hf_ar11
  have hm12 := sb7 _ hm_ar11
  subst er5
  refine lv_istore_n (lv' := [(1, .int (-1)), (0, .ref mo)]) hx hb dX11_planLine_4 rfl hl (by decide) rfl (fun ls hl => ?_)
  refine lv_aload_n hx hb dX11_planLine_5 rfl (lv_at hl 1 rfl) ?_
  refine pl_get (v := .int 0) hx hb hts (fun w h => mT (inX11 w h)) hown hG.1 hP hm10 hf11 rfl 13 (by decide) (hts _ (mT wg_1349)) (fun _ h => h) rfl dX11_planLine_6 ?_
  refine lv_bipush (v := 20) hx hb dX11_planLine_9 (by decide) ?_
  refine lv_icmp_ne (tgt := 23) hx hb dX11_planLine_11 (by decide) (fun c14 => ?_) (fun c14 => absurd c14 (by decide))
  refine lv_iconst (v := 5) hx hb dX11_planLine_23 (by decide) ?_
  refine lv_aload_n hx hb dX11_planLine_24 rfl (lv_at hl 1 rfl) ?_
  refine pl_get (v := .int 0) hx hb hts (fun w h => mT (inX11 w h)) hown hG.1 hP hm10 hf11 rfl 13 (by decide) (hts _ (mT wg_1349)) (fun _ h => h) rfl dX11_planLine_25 ?_
  refine lv_imul hx hb dX11_planLine_28 ?_
  refine lv_topi (fun x15 ex15 => ?_)
  obtain rfl : x15 = 0 := ex15.trans (by decide)
  refine lv_istore_n (lv' := [(2, .int 0), (1, .int (-1)), (0, .ref mo)]) hx hb dX11_planLine_29 rfl hl (by decide) rfl (fun ls hl => ?_)
  refine lv_aload_n hx hb dX11_planLine_30 rfl (lv_at hl 2 rfl) ?_
  refine pl_get (v := .ref ar11) hx hb hts (fun w h => mT (inX11 w h)) hown hG.1 hP hm10 hf11 rfl 11 (by decide) (hts _ (mT wg_1347)) (fun _ h => h) rfl dX11_planLine_31 ?_
  refine lv_iload_n hx hb dX11_planLine_34 rfl (lv_at hl 0 rfl) ?_
  refine lv_aload_n hx hb dX11_planLine_35 rfl (lv_at hl 2 rfl) ?_
  refine va_ldcS hx hb hown (hG.2.2.1 ("RulerWordModel", 187, "phase", 8) (by decide +kernel)) dX11_planLine_36 ?_
  refine call_i (run_V (rm := { frames := 2, cells := 0, slots := 0, locals := 40 }) hx hb hml hown hts (k_X11_takes l g _ _ _ mo ar1 ar7 ar10 ar11 ar24 ar26 ar27 ar28 ar29 ar30 ar31 ar32 ar33 ar34 ar35 ar41 ar42 ar43 ar44 ar49 ar52 ar54 8 (-1) 0 0 hm10 hf11 (by decide) (by decide)) cV_X11_takes wg_1542 ⟨Nat.le_of_ble_eq_true rfl, Nat.le_of_ble_eq_true rfl⟩ hG hE hA hP hD hS hm10 hf11 rfl rfl hl.1 (As := [.ref (g.2.2.1 8)]) (rest := [.int 0, .ref ar11]) rfl (Nat.le_of_ble_eq_true rfl) dX11_planLine_38 ⟨Nat.le_of_ble_eq_true rfl, Nat.le_of_ble_eq_true rfl⟩) hA hD hS (fun r16 L17 f18 H locs hp19 hP hD hS => ?_)
  obtain ⟨er20, fr21, sb22⟩ := hp19
  have hfr23 : ∀ b, b ∈ L → b ≠ mo → b ≠ ar11 → f18 b = f b := fun b hb z0 z1 => (fr21 b (hsb9 b hb) ).trans (hfr8 b hb z0 z1)
  have hsb24 : ∀ b, b ∈ L → b ∈ L17 := fun b hb => sb22 b (hsb9 b hb)
  have hf26 := (fr21 mo hm10 ).trans hf11
  have hm25 := sb22 _ hm10
  have hf28 := (fr21 ar11 hm12 ).trans hf13
  have hm27 := sb22 _ hm12
  subst er20
  refine lv_if_eq (tgt := 53) hx hb dX11_planLine_41 (by decide) (fun c29 => ?_) (fun c29 => absurd (by decide) c29)
  refine lv_iconst (v := (-1)) hx hb dX11_planLine_53 (by decide) ?_
  refine pl_iast hx hb hG.1 hP hD hS hm27 0 hf28 rfl (by unfold vp_in; decide) dX11_planLine_54 (fun H locs f30 hf32 ho31 hP hD hS => ?_)
  obtain ⟨r33, er33⟩ : ∃ r : Nat → Int32, r = upd (fun _ => 0) (0 : Int32).toNatClampNeg ((-1)) := ⟨_, rfl⟩
  rw [← er33] at hf32
  have hfr34 : ∀ b, b ∈ L → b ≠ mo → b ≠ ar11 → f30 b = f b := fun b hb z0 z1 => (ho31 b z1).trans (hfr23 b hb z0 z1)
  have hf35 := (ho31 mo (kno hf26 hf28)).trans hf26
  refine lv_aload_n hx hb dX11_planLine_55 rfl (lv_at hl 2 rfl) ?_
  refine pl_get (v := .ref ar11) hx hb hts (fun w h => mT (inX11 w h)) hown hG.1 hP hm25 hf35 rfl 11 (by decide) (hts _ (mT wg_1347)) (fun _ h => h) rfl dX11_planLine_56 ?_
  refine lv_iload_n hx hb dX11_planLine_59 rfl (lv_at hl 0 rfl) ?_
  refine lv_iconst (v := 1) hx hb dX11_planLine_60 (by decide) ?_
  refine lv_iadd hx hb dX11_planLine_61 ?_
  refine lv_topi (fun x36 ex36 => ?_)
  obtain rfl : x36 = 1 := ex36.trans (by decide)
  refine lv_aload_n hx hb dX11_planLine_62 rfl (lv_at hl 2 rfl) ?_
  refine pl_get (v := .int (-1)) hx hb hts (fun w h => mT (inX11 w h)) hown hG.1 hP hm25 hf35 rfl 4 (by decide) (hts _ (mT wg_1340)) (fun _ h => h) rfl dX11_planLine_63 ?_
  refine lv_iconst (v := (-1)) hx hb dX11_planLine_66 (by decide) ?_
  refine lv_icmp_ne (tgt := 88) hx hb dX11_planLine_67 (by decide) (fun c37 => absurd rfl c37) (fun c37 => ?_)
  refine lv_aload_n hx hb dX11_planLine_70 rfl (lv_at hl 2 rfl) ?_
  refine va_ldcS hx hb hown (hG.2.2.1 ("RulerWordModel", 189, "round", 9) (by decide +kernel)) dX11_planLine_71 ?_
  refine call_i (run_V (rm := { frames := 2, cells := 0, slots := 0, locals := 40 }) hx hb hml hown hts (k_X11_takes l g _ _ _ mo ar1 ar7 ar10 ar11 ar24 ar26 ar27 ar28 ar29 ar30 ar31 ar32 ar33 ar34 ar35 ar41 ar42 ar43 ar44 ar49 ar52 ar54 9 (-1) 0 0 hm25 hf35 (by decide) (by decide)) cV_X11_takes wg_1542 ⟨Nat.le_of_ble_eq_true rfl, Nat.le_of_ble_eq_true rfl⟩ hG hE hA hP hD hS hm25 hf35 rfl rfl hl.1 (As := [.ref (g.2.2.1 9)]) (rest := [.int 1, .ref ar11]) rfl (Nat.le_of_ble_eq_true rfl) dX11_planLine_73 ⟨Nat.le_of_ble_eq_true rfl, Nat.le_of_ble_eq_true rfl⟩) hA hD hS (fun r38 L39 f40 H locs hp41 hP hD hS => ?_)
  obtain ⟨er42, fr43, sb44⟩ := hp41
  have hfr45 : ∀ b, b ∈ L → b ≠ mo → b ≠ ar11 → f40 b = f b := fun b hb z0 z1 => (fr43 b (hsb24 b hb) ).trans (hfr34 b hb z0 z1)
  have hsb46 : ∀ b, b ∈ L → b ∈ L39 := fun b hb => sb44 b (hsb24 b hb)
  have hf48 := (fr43 mo hm25 ).trans hf35
  have hm47 := sb44 _ hm25
  have hf50 := (fr43 ar11 hm27 ).trans hf32
  have hm49 := sb44 _ hm27
  subst er42
  refine lv_if_eq (tgt := 88) hx hb dX11_planLine_76 (by decide) (fun c51 => ?_) (fun c51 => absurd (by decide) c51)
  refine lv_iconst (v := (-1)) hx hb dX11_planLine_88 (by decide) ?_
  refine pl_iast hx hb hG.1 hP hD hS hm49 0 hf50 rfl (by unfold vp_in; decide) dX11_planLine_89 (fun H locs f52 hf54 ho53 hP hD hS => ?_)
  obtain ⟨r55, er55⟩ : ∃ r : Nat → Int32, r = upd (r33) (1 : Int32).toNatClampNeg ((-1)) := ⟨_, rfl⟩
  rw [← er55] at hf54
  have hfr56 : ∀ b, b ∈ L → b ≠ mo → b ≠ ar11 → f52 b = f b := fun b hb z0 z1 => (ho53 b z1).trans (hfr45 b hb z0 z1)
  have hf57 := (ho53 mo (kno hf48 hf50)).trans hf48
  refine lv_aload_n hx hb dX11_planLine_90 rfl (lv_at hl 2 rfl) ?_
  refine pl_get (v := .ref ar11) hx hb hts (fun w h => mT (inX11 w h)) hown hG.1 hP hm47 hf57 rfl 11 (by decide) (hts _ (mT wg_1347)) (fun _ h => h) rfl dX11_planLine_91 ?_
  refine lv_iload_n hx hb dX11_planLine_94 rfl (lv_at hl 0 rfl) ?_
  refine lv_iconst (v := 2) hx hb dX11_planLine_95 (by decide) ?_
  refine lv_iadd hx hb dX11_planLine_96 ?_
  refine lv_topi (fun x58 ex58 => ?_)
  obtain rfl : x58 = 2 := ex58.trans (by decide)
  refine lv_aload_n hx hb dX11_planLine_97 rfl (lv_at hl 2 rfl) ?_
  refine pl_get (v := .int (-1)) hx hb hts (fun w h => mT (inX11 w h)) hown hG.1 hP hm47 hf57 rfl 4 (by decide) (hts _ (mT wg_1340)) (fun _ h => h) rfl dX11_planLine_98 ?_
  refine lv_iconst (v := (-1)) hx hb dX11_planLine_101 (by decide) ?_
  refine lv_icmp_ne (tgt := 124) hx hb dX11_planLine_102 (by decide) (fun c59 => absurd rfl c59) (fun c59 => ?_)
  refine lv_aload_n hx hb dX11_planLine_105 rfl (lv_at hl 2 rfl) ?_
  refine va_ldcS hx hb hown (hG.2.2.1 ("RulerWordModel", 191, "from", 10) (by decide +kernel)) dX11_planLine_106 ?_
  refine call_i (run_V (rm := { frames := 2, cells := 0, slots := 0, locals := 40 }) hx hb hml hown hts (k_X11_takes l g _ _ _ mo ar1 ar7 ar10 ar11 ar24 ar26 ar27 ar28 ar29 ar30 ar31 ar32 ar33 ar34 ar35 ar41 ar42 ar43 ar44 ar49 ar52 ar54 10 (-1) 0 0 hm47 hf57 (by decide) (by decide)) cV_X11_takes wg_1542 ⟨Nat.le_of_ble_eq_true rfl, Nat.le_of_ble_eq_true rfl⟩ hG hE hA hP hD hS hm47 hf57 rfl rfl hl.1 (As := [.ref (g.2.2.1 10)]) (rest := [.int 2, .ref ar11]) rfl (Nat.le_of_ble_eq_true rfl) dX11_planLine_108 ⟨Nat.le_of_ble_eq_true rfl, Nat.le_of_ble_eq_true rfl⟩) hA hD hS (fun r60 L61 f62 H locs hp63 hP hD hS => ?_)
  obtain ⟨er64, fr65, sb66⟩ := hp63
  have hfr67 : ∀ b, b ∈ L → b ≠ mo → b ≠ ar11 → f62 b = f b := fun b hb z0 z1 => (fr65 b (hsb46 b hb) ).trans (hfr56 b hb z0 z1)
  have hsb68 : ∀ b, b ∈ L → b ∈ L61 := fun b hb => sb66 b (hsb46 b hb)
  have hf70 := (fr65 mo hm47 ).trans hf57
  have hm69 := sb66 _ hm47
  have hf72 := (fr65 ar11 hm49 ).trans hf54
  have hm71 := sb66 _ hm49
  subst er64
  refine lv_if_eq (tgt := 124) hx hb dX11_planLine_111 (by decide) (fun c73 => ?_) (fun c73 => absurd (by decide) c73)
  refine lv_iconst (v := (-1)) hx hb dX11_planLine_124 (by decide) ?_
  refine pl_iast hx hb hG.1 hP hD hS hm71 0 hf72 rfl (by unfold vp_in; decide) dX11_planLine_125 (fun H locs f74 hf76 ho75 hP hD hS => ?_)
  obtain ⟨r77, er77⟩ : ∃ r : Nat → Int32, r = upd (r55) (2 : Int32).toNatClampNeg ((-1)) := ⟨_, rfl⟩
  rw [← er77] at hf76
  have hfr78 : ∀ b, b ∈ L → b ≠ mo → b ≠ ar11 → f74 b = f b := fun b hb z0 z1 => (ho75 b z1).trans (hfr67 b hb z0 z1)
  have hf79 := (ho75 mo (kno hf70 hf72)).trans hf70
  refine lv_aload_n hx hb dX11_planLine_126 rfl (lv_at hl 2 rfl) ?_
  refine pl_get (v := .ref ar11) hx hb hts (fun w h => mT (inX11 w h)) hown hG.1 hP hm69 hf79 rfl 11 (by decide) (hts _ (mT wg_1347)) (fun _ h => h) rfl dX11_planLine_127 ?_
  refine lv_iload_n hx hb dX11_planLine_130 rfl (lv_at hl 0 rfl) ?_
  refine lv_iconst (v := 3) hx hb dX11_planLine_131 (by decide) ?_
  refine lv_iadd hx hb dX11_planLine_132 ?_
  refine lv_topi (fun x80 ex80 => ?_)
  obtain rfl : x80 = 3 := ex80.trans (by decide)
  refine lv_aload_n hx hb dX11_planLine_133 rfl (lv_at hl 2 rfl) ?_
  refine pl_get (v := .int (-1)) hx hb hts (fun w h => mT (inX11 w h)) hown hG.1 hP hm69 hf79 rfl 4 (by decide) (hts _ (mT wg_1340)) (fun _ h => h) rfl dX11_planLine_134 ?_
  refine lv_iconst (v := (-1)) hx hb dX11_planLine_137 (by decide) ?_
  refine lv_icmp_ne (tgt := 160) hx hb dX11_planLine_138 (by decide) (fun c81 => absurd rfl c81) (fun c81 => ?_)
  refine lv_aload_n hx hb dX11_planLine_141 rfl (lv_at hl 2 rfl) ?_
  refine va_ldcS hx hb hown (hG.2.2.1 ("RulerWordModel", 193, "to", 11) (by decide +kernel)) dX11_planLine_142 ?_
  refine call_i (run_V (rm := { frames := 2, cells := 0, slots := 0, locals := 40 }) hx hb hml hown hts (k_X11_takes l g _ _ _ mo ar1 ar7 ar10 ar11 ar24 ar26 ar27 ar28 ar29 ar30 ar31 ar32 ar33 ar34 ar35 ar41 ar42 ar43 ar44 ar49 ar52 ar54 11 (-1) 0 0 hm69 hf79 (by decide) (by decide)) cV_X11_takes wg_1542 ⟨Nat.le_of_ble_eq_true rfl, Nat.le_of_ble_eq_true rfl⟩ hG hE hA hP hD hS hm69 hf79 rfl rfl hl.1 (As := [.ref (g.2.2.1 11)]) (rest := [.int 3, .ref ar11]) rfl (Nat.le_of_ble_eq_true rfl) dX11_planLine_144 ⟨Nat.le_of_ble_eq_true rfl, Nat.le_of_ble_eq_true rfl⟩) hA hD hS (fun r82 L83 f84 H locs hp85 hP hD hS => ?_)
  obtain ⟨er86, fr87, sb88⟩ := hp85
  have hfr89 : ∀ b, b ∈ L → b ≠ mo → b ≠ ar11 → f84 b = f b := fun b hb z0 z1 => (fr87 b (hsb68 b hb) ).trans (hfr78 b hb z0 z1)
  have hsb90 : ∀ b, b ∈ L → b ∈ L83 := fun b hb => sb88 b (hsb68 b hb)
  have hf92 := (fr87 mo hm69 ).trans hf79
  have hm91 := sb88 _ hm69
  have hf94 := (fr87 ar11 hm71 ).trans hf76
  have hm93 := sb88 _ hm71
  subst er86
  refine lv_if_eq (tgt := 160) hx hb dX11_planLine_147 (by decide) (fun c95 => ?_) (fun c95 => absurd (by decide) c95)
  refine lv_iconst (v := (-1)) hx hb dX11_planLine_160 (by decide) ?_
  refine pl_iast hx hb hG.1 hP hD hS hm93 0 hf94 rfl (by unfold vp_in; decide) dX11_planLine_161 (fun H locs f96 hf98 ho97 hP hD hS => ?_)
  obtain ⟨r99, er99⟩ : ∃ r : Nat → Int32, r = upd (r77) (3 : Int32).toNatClampNeg ((-1)) := ⟨_, rfl⟩
  rw [← er99] at hf98
  have hfr100 : ∀ b, b ∈ L → b ≠ mo → b ≠ ar11 → f96 b = f b := fun b hb z0 z1 => (ho97 b z1).trans (hfr89 b hb z0 z1)
  have hf101 := (ho97 mo (kno hf92 hf94)).trans hf92
  refine lv_aload_n hx hb dX11_planLine_162 rfl (lv_at hl 2 rfl) ?_
  refine pl_get (v := .int (-1)) hx hb hts (fun w h => mT (inX11 w h)) hown hG.1 hP hm91 hf101 rfl 4 (by decide) (hts _ (mT wg_1340)) (fun _ h => h) rfl dX11_planLine_163 ?_
  refine lv_iconst (v := (-1)) hx hb dX11_planLine_166 (by decide) ?_
  refine lv_icmp_eq (tgt := 171) hx hb dX11_planLine_167 (by decide) (fun c102 => ?_) (fun c102 => absurd (by decide) c102)
  refine lv_aload_n hx hb dX11_planLine_171 rfl (lv_at hl 2 rfl) ?_
  refine call_i (run_V (rm := { frames := 1, cells := 0, slots := 0, locals := 20 }) hx hb hml hown hts (k_X11_look l g _ _ _ mo ar1 ar7 ar10 ar11 ar24 ar26 ar27 ar28 ar29 ar30 ar31 ar32 ar33 ar34 ar35 ar41 ar42 ar43 ar44 ar49 ar52 ar54 (-1) 0 0 hm91 hf101) cV_X11_look wg_1533 ⟨Nat.le_of_ble_eq_true rfl, Nat.le_of_ble_eq_true rfl⟩ hG hE hA hP hD hS hm91 hf101 rfl rfl hl.1 (As := []) (rest := []) rfl (Nat.le_of_ble_eq_true rfl) dX11_planLine_172 ⟨Nat.le_of_ble_eq_true rfl, Nat.le_of_ble_eq_true rfl⟩) hA hD hS (fun r103 L104 f105 H locs hp106 hP hD hS => ?_)
  obtain ⟨er107, fr108, sb109⟩ := hp106
  have hfr110 : ∀ b, b ∈ L → b ≠ mo → b ≠ ar11 → f105 b = f b := fun b hb z0 z1 => (fr108 b (hsb90 b hb) ).trans (hfr100 b hb z0 z1)
  have hsb111 : ∀ b, b ∈ L → b ∈ L104 := fun b hb => sb109 b (hsb90 b hb)
  have hf113 := (fr108 mo hm91 ).trans hf101
  have hm112 := sb109 _ hm91
  have hf115 := (fr108 ar11 hm93 ).trans hf98
  have hm114 := sb109 _ hm93
  subst er107
  refine lv_istore_n (lv' := [(1, .int (-1)), (2, .int 0), (0, .ref mo)]) hx hb dX11_planLine_175 rfl hl (by decide) rfl (fun ls hl => ?_)
  refine lv_iload_n hx hb dX11_planLine_176 rfl (lv_at hl 0 rfl) ?_
  refine call_i (run_S (rm := { frames := 0, cells := 0, slots := 0, locals := 0 }) hx hb hml hown hts (k_X11_isDigit l g _ _ _ ) cS_X11_isDigit wg_1578 ⟨Nat.le_of_ble_eq_true rfl, Nat.le_of_ble_eq_true rfl⟩ hG hE hA hP hD hS rfl hl.1 (As := [.int (-1)]) (rest := []) rfl (Nat.le_of_ble_eq_true rfl) dX11_planLine_177 ⟨Nat.le_of_ble_eq_true rfl, Nat.le_of_ble_eq_true rfl⟩) hA hD hS (fun r116 L117 f118 H locs hp119 hP hD hS => ?_)
  obtain ⟨er120, fr121, sb122⟩ := hp119
  have hfr123 : ∀ b, b ∈ L → b ≠ mo → b ≠ ar11 → f118 b = f b := fun b hb z0 z1 => (fr121 b (hsb111 b hb) ).trans (hfr110 b hb z0 z1)
  have hsb124 : ∀ b, b ∈ L → b ∈ L117 := fun b hb => sb122 b (hsb111 b hb)
  have hf126 := (fr121 mo hm112 ).trans hf113
  have hm125 := sb122 _ hm112
  have hf128 := (fr121 ar11 hm114 ).trans hf115
  have hm127 := sb122 _ hm114
  subst er120
  refine lv_if_eq (tgt := 200) hx hb dX11_planLine_180 (by decide) (fun c129 => ?_) (fun c129 => absurd (by decide) c129)
  refine lv_aload_n hx hb dX11_planLine_200 rfl (lv_at hl 2 rfl) ?_
  refine va_ldcS hx hb hown (hG.2.2.1 ("RulerWordModel", 195, "same", 12) (by decide +kernel)) dX11_planLine_201 ?_
  refine call_i (run_V (rm := { frames := 2, cells := 0, slots := 0, locals := 40 }) hx hb hml hown hts (k_X11_takes l g _ _ _ mo ar1 ar7 ar10 ar11 ar24 ar26 ar27 ar28 ar29 ar30 ar31 ar32 ar33 ar34 ar35 ar41 ar42 ar43 ar44 ar49 ar52 ar54 12 (-1) 0 0 hm125 hf126 (by decide) (by decide)) cV_X11_takes wg_1542 ⟨Nat.le_of_ble_eq_true rfl, Nat.le_of_ble_eq_true rfl⟩ hG hE hA hP hD hS hm125 hf126 rfl rfl hl.1 (As := [.ref (g.2.2.1 12)]) (rest := []) rfl (Nat.le_of_ble_eq_true rfl) dX11_planLine_203 ⟨Nat.le_of_ble_eq_true rfl, Nat.le_of_ble_eq_true rfl⟩) hA hD hS (fun r130 L131 f132 H locs hp133 hP hD hS => ?_)
  obtain ⟨er134, fr135, sb136⟩ := hp133
  have hfr137 : ∀ b, b ∈ L → b ≠ mo → b ≠ ar11 → f132 b = f b := fun b hb z0 z1 => (fr135 b (hsb124 b hb) ).trans (hfr123 b hb z0 z1)
  have hsb138 : ∀ b, b ∈ L → b ∈ L131 := fun b hb => sb136 b (hsb124 b hb)
  have hf140 := (fr135 mo hm125 ).trans hf126
  have hm139 := sb136 _ hm125
  have hf142 := (fr135 ar11 hm127 ).trans hf128
  have hm141 := sb136 _ hm127
  subst er134
  refine lv_if_eq (tgt := 221) hx hb dX11_planLine_206 (by decide) (fun c143 => ?_) (fun c143 => absurd (by decide) c143)
  refine lv_aload_n hx hb dX11_planLine_221 rfl (lv_at hl 2 rfl) ?_
  refine va_ldcS hx hb hown (hG.2.2.1 ("RulerWordModel", 197, "turn", 13) (by decide +kernel)) dX11_planLine_222 ?_
  refine call_i (run_V (rm := { frames := 2, cells := 0, slots := 0, locals := 40 }) hx hb hml hown hts (k_X11_takes l g _ _ _ mo ar1 ar7 ar10 ar11 ar24 ar26 ar27 ar28 ar29 ar30 ar31 ar32 ar33 ar34 ar35 ar41 ar42 ar43 ar44 ar49 ar52 ar54 13 (-1) 0 0 hm139 hf140 (by decide) (by decide)) cV_X11_takes wg_1542 ⟨Nat.le_of_ble_eq_true rfl, Nat.le_of_ble_eq_true rfl⟩ hG hE hA hP hD hS hm139 hf140 rfl rfl hl.1 (As := [.ref (g.2.2.1 13)]) (rest := []) rfl (Nat.le_of_ble_eq_true rfl) dX11_planLine_224 ⟨Nat.le_of_ble_eq_true rfl, Nat.le_of_ble_eq_true rfl⟩) hA hD hS (fun r144 L145 f146 H locs hp147 hP hD hS => ?_)
  obtain ⟨er148, fr149, sb150⟩ := hp147
  have hfr151 : ∀ b, b ∈ L → b ≠ mo → b ≠ ar11 → f146 b = f b := fun b hb z0 z1 => (fr149 b (hsb138 b hb) ).trans (hfr137 b hb z0 z1)
  have hsb152 : ∀ b, b ∈ L → b ∈ L145 := fun b hb => sb150 b (hsb138 b hb)
  have hf154 := (fr149 mo hm139 ).trans hf140
  have hm153 := sb150 _ hm139
  have hf156 := (fr149 ar11 hm141 ).trans hf142
  have hm155 := sb150 _ hm141
  subst er148
  refine lv_if_eq (tgt := 242) hx hb dX11_planLine_227 (by decide) (fun c157 => ?_) (fun c157 => absurd (by decide) c157)
  refine lv_aload_n hx hb dX11_planLine_242 rfl (lv_at hl 2 rfl) ?_
  refine va_ldcS hx hb hown (hG.2.2.1 ("RulerWordModel", 199, "split", 14) (by decide +kernel)) dX11_planLine_243 ?_
  refine call_i (run_V (rm := { frames := 2, cells := 0, slots := 0, locals := 40 }) hx hb hml hown hts (k_X11_takes l g _ _ _ mo ar1 ar7 ar10 ar11 ar24 ar26 ar27 ar28 ar29 ar30 ar31 ar32 ar33 ar34 ar35 ar41 ar42 ar43 ar44 ar49 ar52 ar54 14 (-1) 0 0 hm153 hf154 (by decide) (by decide)) cV_X11_takes wg_1542 ⟨Nat.le_of_ble_eq_true rfl, Nat.le_of_ble_eq_true rfl⟩ hG hE hA hP hD hS hm153 hf154 rfl rfl hl.1 (As := [.ref (g.2.2.1 14)]) (rest := []) rfl (Nat.le_of_ble_eq_true rfl) dX11_planLine_245 ⟨Nat.le_of_ble_eq_true rfl, Nat.le_of_ble_eq_true rfl⟩) hA hD hS (fun r158 L159 f160 H locs hp161 hP hD hS => ?_)
  obtain ⟨er162, fr163, sb164⟩ := hp161
  have hfr165 : ∀ b, b ∈ L → b ≠ mo → b ≠ ar11 → f160 b = f b := fun b hb z0 z1 => (fr163 b (hsb152 b hb) ).trans (hfr151 b hb z0 z1)
  have hsb166 : ∀ b, b ∈ L → b ∈ L159 := fun b hb => sb164 b (hsb152 b hb)
  have hf168 := (fr163 mo hm153 ).trans hf154
  have hm167 := sb164 _ hm153
  have hf170 := (fr163 ar11 hm155 ).trans hf156
  have hm169 := sb164 _ hm155
  subst er162
  refine lv_if_eq (tgt := 263) hx hb dX11_planLine_248 (by decide) (fun c171 => ?_) (fun c171 => absurd (by decide) c171)
  refine lv_aload_n hx hb dX11_planLine_263 rfl (lv_at hl 2 rfl) ?_
  refine va_ldcS hx hb hown (hG.2.2.1 ("RulerWordModel", 201, "draw", 15) (by decide +kernel)) dX11_planLine_264 ?_
  refine call_i (run_V (rm := { frames := 2, cells := 0, slots := 0, locals := 40 }) hx hb hml hown hts (k_X11_takes l g _ _ _ mo ar1 ar7 ar10 ar11 ar24 ar26 ar27 ar28 ar29 ar30 ar31 ar32 ar33 ar34 ar35 ar41 ar42 ar43 ar44 ar49 ar52 ar54 15 (-1) 0 0 hm167 hf168 (by decide) (by decide)) cV_X11_takes wg_1542 ⟨Nat.le_of_ble_eq_true rfl, Nat.le_of_ble_eq_true rfl⟩ hG hE hA hP hD hS hm167 hf168 rfl rfl hl.1 (As := [.ref (g.2.2.1 15)]) (rest := []) rfl (Nat.le_of_ble_eq_true rfl) dX11_planLine_266 ⟨Nat.le_of_ble_eq_true rfl, Nat.le_of_ble_eq_true rfl⟩) hA hD hS (fun r172 L173 f174 H locs hp175 hP hD hS => ?_)
  obtain ⟨er176, fr177, sb178⟩ := hp175
  have hfr179 : ∀ b, b ∈ L → b ≠ mo → b ≠ ar11 → f174 b = f b := fun b hb z0 z1 => (fr177 b (hsb166 b hb) ).trans (hfr165 b hb z0 z1)
  have hsb180 : ∀ b, b ∈ L → b ∈ L173 := fun b hb => sb178 b (hsb166 b hb)
  have hf182 := (fr177 mo hm167 ).trans hf168
  have hm181 := sb178 _ hm167
  have hf184 := (fr177 ar11 hm169 ).trans hf170
  have hm183 := sb178 _ hm169
  subst er176
  refine lv_if_eq (tgt := 285) hx hb dX11_planLine_269 (by decide) (fun c185 => ?_) (fun c185 => absurd (by decide) c185)
  refine lv_aload_n hx hb dX11_planLine_285 rfl (lv_at hl 2 rfl) ?_
  refine lv_aload_n hx hb dX11_planLine_286 rfl (lv_at hl 2 rfl) ?_
  refine pl_get (v := .int 0) hx hb hts (fun w h => mT (inX11 w h)) hown hG.1 hP hm181 hf182 rfl 3 (by decide) (hts _ (mT wg_1339)) (fun _ h => h) rfl dX11_planLine_287 ?_
  refine call_v (run_V (rm := { frames := 0, cells := 0, slots := 0, locals := 0 }) hx hb hml hown hts (k_X11_fails l g _ _ _ mo ar1 ar7 ar10 ar11 ar24 ar26 ar27 ar28 ar29 ar30 ar31 ar32 ar33 ar34 ar35 ar41 ar42 ar43 ar44 ar49 ar52 ar54 0 0 0 hm181 hf182) cV_X11_fails wg_1549 ⟨Nat.le_of_ble_eq_true rfl, Nat.le_of_ble_eq_true rfl⟩ hG hE hA hP hD hS hm181 hf182 rfl rfl hl.1 (As := [.int 0]) (rest := []) rfl (Nat.le_of_ble_eq_true rfl) dX11_planLine_290 ⟨Nat.le_of_ble_eq_true rfl, Nat.le_of_ble_eq_true rfl⟩) hA hD hS (fun L187 f188 H locs hp189 hP hD hS => ?_)
  obtain ⟨hf190, fr191, sb192⟩ := hp189
  have hfr193 : ∀ b, b ∈ L → b ≠ mo → b ≠ ar11 → f188 b = f b := fun b hb z0 z1 => (fr191 b (hsb180 b hb) z0).trans (hfr179 b hb z0 z1)
  have hsb194 : ∀ b, b ∈ L → b ∈ L187 := fun b hb => sb192 b (hsb180 b hb)
  have hm195 := sb192 _ hm181
  have hf197 := (fr191 ar11 hm183 (kno hf182 hf184).symm).trans hf184
  have hm196 := sb192 _ hm183
  refine lv_aload_n hx hb dX11_planLine_293 rfl (lv_at hl 2 rfl) ?_
  refine lv_dup hx hb dX11_planLine_294 rfl ?_
  refine pl_get (v := .int 0) hx hb hts (fun w h => mT (inX11 w h)) hown hG.1 hP hm195 hf190 rfl 13 (by decide) (hts _ (mT wg_1349)) (fun _ h => h) rfl dX11_planLine_295 ?_
  refine lv_iconst (v := 1) hx hb dX11_planLine_298 (by decide) ?_
  refine lv_iadd hx hb dX11_planLine_299 ?_
  refine lv_topi (fun x198 ex198 => ?_)
  obtain rfl : x198 = 1 := ex198.trans (by decide)
  refine pl_put (ty := .int) (v := .int 1) (fs' := [.int 0, .ref ar1, .int 0, .int 0, .int 0, .int 0, .int 0, .ref ar7, .int 0, .int 0, .ref ar10, .ref ar11, .int 0, .int 1, .int 0, .int 0, .int 0, .int 0, .int 0, .int 0, .int 0, .long 0, .long 0, .int 0, .ref ar24, .int 0, .ref ar26, .ref ar27, .ref ar28, .ref ar29, .ref ar30, .ref ar31, .ref ar32, .ref ar33, .ref ar34, .ref ar35, .int 0, .int 0, .int 0, .int 0, .int 0, .ref ar41, .ref ar42, .ref ar43, .ref ar44, .long 0, .long 0, .int 0, .int 0, .ref ar49, .int 0, .int 0, .ref ar52, .int 0, .ref ar54, .int 0]) hx hb hts (fun w h => mT (inX11 w h)) tyX11 tyX11_ok nmX11 hown hG.1 hP hD hS hm195 hf190 rfl 13 (by decide) (hts _ (mT wg_1349)) (fun _ h => h) rfl (by decide +kernel) (rfl) (rfl) (Nat.le_of_ble_eq_true rfl) rfl dX11_planLine_300 (fun H locs f199 hf201 ho200 hP hD hS => ?_)
  have hfr202 : ∀ b, b ∈ L → b ≠ mo → b ≠ ar11 → f199 b = f b := fun b hb z0 z1 => (ho200 b z0).trans (hfr193 b hb z0 z1)
  have hf203 := (ho200 ar11 (kno hf190 hf197).symm).trans hf197
  exact ret_v hx hb hr hlocks hP hD hS (Nat.le_of_ble_eq_true rfl) (Nat.le_of_ble_eq_true rfl) (⟨r99, hf201, hf203, hfr202, hsb194⟩) dX11_planLine_303

set_option maxHeartbeats 4000000 in
set_option maxRecDepth 100000 in
theorem k_X11_readsPlan (l : Launch) (g : GG) (L : List Nat) (f : HP) (sz : Nat) (mo ar1 ar7 ar10 ar11 ar24 ar26 ar27 ar28 ar29 ar30 ar31 ar32 ar33 ar34 ar35 ar41 ar42 ar43 ar44 ar49 ar52 ar54 : Nat) (hm_mo : mo ∈ L) (hf_mo : f mo = .inr (10, [.int 0, .ref ar1, .int 0, .int 0, .int 0, .int 0, .int 0, .ref ar7, .int 0, .int 0, .ref ar10, .ref ar11, .int 0, .int 0, .int 0, .int 0, .int 0, .int 0, .int 0, .int 0, .int 0, .long 0, .long 0, .int 0, .ref ar24, .int 0, .ref ar26, .ref ar27, .ref ar28, .ref ar29, .ref ar30, .ref ar31, .ref ar32, .ref ar33, .ref ar34, .ref ar35, .int 0, .int 0, .int 0, .int 0, .int 0, .ref ar41, .ref ar42, .ref ar43, .ref ar44, .long 0, .long 0, .int 0, .int 0, .ref ar49, .int 0, .int 0, .ref ar52, .int 0, .ref ar54, .int 0])) (hm_ar11 : ar11 ∈ L) (hf_ar11 : f ar11 = .inl (g.2.1 0, 100, .inl (fun _ => 0))) : MtI l g yX11_readsPlan cX11_readsPlan 1 (some .int) ({ frames := 4, cells := 0, slots := 0, locals := 85 }) [.ref mo] L f sz (fun r u => ∃ (r11 : Nat → Int32), u.2 mo = .inr (10, [.int 0, .ref ar1, .int 0, .int 0, .int 0, .int 0, .int 0, .ref ar7, .int 0, .int 0, .ref ar10, .ref ar11, .int 0, .int 1, .int 0, .int 0, .int 0, .int 0, .int 0, .int 0, .int 0, .long 0, .long 0, .int 0, .ref ar24, .int 0, .ref ar26, .ref ar27, .ref ar28, .ref ar29, .ref ar30, .ref ar31, .ref ar32, .ref ar33, .ref ar34, .ref ar35, .int 0, .int 0, .int 0, .int 0, .int 0, .ref ar41, .ref ar42, .ref ar43, .ref ar44, .long 0, .long 0, .int 0, .int 0, .ref ar49, .int 0, .int 0, .ref ar52, .int 0, .ref ar54, .int 0]) ∧ u.2 ar11 = .inl (g.2.1 0, 100, .inl (r11)) ∧ r = 0 ∧ (∀ b, b ∈ L → b ≠ mo → b ≠ ar11 → u.2 b = f b) ∧ (∀ b, b ∈ L → b ∈ u.1)) := by
  refine MtI.of (by decide +kernel) (Nat.le_of_ble_eq_true rfl) ?_
  intro p e s m below meth c A hEn hP hD hS ls hl
  obtain ⟨hx, hb, hr, hml, hown, hlocks, hts, hG, hA, hE, hnm⟩ := hEn
  have hown : s.vm.findClass "RulerWordModel" = some m.cls := hown
  have hl : lv_has ls 1 [(0, .ref mo)] := hl
  have hfr0 : ∀ b, b ∈ L → b ≠ mo → b ≠ ar11 → f b = f b := fun b hb z0 z1 => rfl
  have hsb0 : ∀ b, b ∈ L → b ∈ L := fun b hb => hb
  refine lv_aload_n hx hb dX11_readsPlan_0 rfl (lv_at hl 0 rfl) ?_
  refine lv_iconst (v := 0) hx hb dX11_readsPlan_1 (by decide) ?_
  refine pl_put (ty := .int) (v := .int 0) (fs' := [.int 0, .ref ar1, .int 0, .int 0, .int 0, .int 0, .int 0, .ref ar7, .int 0, .int 0, .ref ar10, .ref ar11, .int 0, .int 0, .int 0, .int 0, .int 0, .int 0, .int 0, .int 0, .int 0, .long 0, .long 0, .int 0, .ref ar24, .int 0, .ref ar26, .ref ar27, .ref ar28, .ref ar29, .ref ar30, .ref ar31, .ref ar32, .ref ar33, .ref ar34, .ref ar35, .int 0, .int 0, .int 0, .int 0, .int 0, .ref ar41, .ref ar42, .ref ar43, .ref ar44, .long 0, .long 0, .int 0, .int 0, .ref ar49, .int 0, .int 0, .ref ar52, .int 0, .ref ar54, .int 0]) hx hb hts (fun w h => mT (inX11 w h)) tyX11 tyX11_ok nmX11 hown hG.1 hP hD hS hm_mo hf_mo rfl 3 (by decide) (hts _ (mT wg_1339)) (fun _ h => h) rfl (by decide +kernel) (rfl) (rfl) (Nat.le_of_ble_eq_true rfl) rfl dX11_readsPlan_2 (fun H locs f1 hf3 ho2 hP hD hS => ?_)
  have hfr4 : ∀ b, b ∈ L → b ≠ mo → b ≠ ar11 → f1 b = f b := fun b hb z0 z1 => (ho2 b z0).trans (hfr0 b hb z0 z1)
  have hf5 := (ho2 ar11 (kno hf_mo hf_ar11).symm).trans hf_ar11
  refine lv_aload_n hx hb dX11_readsPlan_5 rfl (lv_at hl 0 rfl) ?_
  refine lv_iconst (v := (-1)) hx hb dX11_readsPlan_6 (by decide) ?_
  refine pl_put (ty := .int) (v := .int (-1)) (fs' := [.int 0, .ref ar1, .int 0, .int 0, .int (-1), .int 0, .int 0, .ref ar7, .int 0, .int 0, .ref ar10, .ref ar11, .int 0, .int 0, .int 0, .int 0, .int 0, .int 0, .int 0, .int 0, .int 0, .long 0, .long 0, .int 0, .ref ar24, .int 0, .ref ar26, .ref ar27, .ref ar28, .ref ar29, .ref ar30, .ref ar31, .ref ar32, .ref ar33, .ref ar34, .ref ar35, .int 0, .int 0, .int 0, .int 0, .int 0, .ref ar41, .ref ar42, .ref ar43, .ref ar44, .long 0, .long 0, .int 0, .int 0, .ref ar49, .int 0, .int 0, .ref ar52, .int 0, .ref ar54, .int 0]) hx hb hts (fun w h => mT (inX11 w h)) tyX11 tyX11_ok nmX11 hown hG.1 hP hD hS hm_mo hf3 rfl 4 (by decide) (hts _ (mT wg_1340)) (fun _ h => h) rfl (by decide +kernel) (rfl) (rfl) (Nat.le_of_ble_eq_true rfl) rfl dX11_readsPlan_7 (fun H locs f6 hf8 ho7 hP hD hS => ?_)
  have hfr9 : ∀ b, b ∈ L → b ≠ mo → b ≠ ar11 → f6 b = f b := fun b hb z0 z1 => (ho7 b z0).trans (hfr4 b hb z0 z1)
  have hf10 := (ho7 ar11 (kno hf3 hf5).symm).trans hf5
  refine lv_aload_n hx hb dX11_readsPlan_10 rfl (lv_at hl 0 rfl) ?_
  refine lv_iconst (v := 0) hx hb dX11_readsPlan_11 (by decide) ?_
  refine pl_put (ty := .int) (v := .int 0) (fs' := [.int 0, .ref ar1, .int 0, .int 0, .int (-1), .int 0, .int 0, .ref ar7, .int 0, .int 0, .ref ar10, .ref ar11, .int 0, .int 0, .int 0, .int 0, .int 0, .int 0, .int 0, .int 0, .int 0, .long 0, .long 0, .int 0, .ref ar24, .int 0, .ref ar26, .ref ar27, .ref ar28, .ref ar29, .ref ar30, .ref ar31, .ref ar32, .ref ar33, .ref ar34, .ref ar35, .int 0, .int 0, .int 0, .int 0, .int 0, .ref ar41, .ref ar42, .ref ar43, .ref ar44, .long 0, .long 0, .int 0, .int 0, .ref ar49, .int 0, .int 0, .ref ar52, .int 0, .ref ar54, .int 0]) hx hb hts (fun w h => mT (inX11 w h)) tyX11 tyX11_ok nmX11 hown hG.1 hP hD hS hm_mo hf8 rfl 13 (by decide) (hts _ (mT wg_1349)) (fun _ h => h) rfl (by decide +kernel) (rfl) (rfl) (Nat.le_of_ble_eq_true rfl) rfl dX11_readsPlan_12 (fun H locs f11 hf13 ho12 hP hD hS => ?_)
  have hfr14 : ∀ b, b ∈ L → b ≠ mo → b ≠ ar11 → f11 b = f b := fun b hb z0 z1 => (ho12 b z0).trans (hfr9 b hb z0 z1)
  have hf15 := (ho12 ar11 (kno hf8 hf10).symm).trans hf10
  refine lv_aload_n hx hb dX11_readsPlan_15 rfl (lv_at hl 0 rfl) ?_
  refine call_v (run_V (rm := { frames := 3, cells := 0, slots := 0, locals := 63 }) hx hb hml hown hts (k_X11_planLine l g _ _ _ mo ar1 ar7 ar10 ar11 ar24 ar26 ar27 ar28 ar29 ar30 ar31 ar32 ar33 ar34 ar35 ar41 ar42 ar43 ar44 ar49 ar52 ar54 hm_mo hf13 hm_ar11 hf15) cV_X11_planLine wg_1600 ⟨Nat.le_of_ble_eq_true rfl, Nat.le_of_ble_eq_true rfl⟩ hG hE hA hP hD hS hm_mo hf13 rfl rfl hl.1 (As := []) (rest := []) rfl (Nat.le_of_ble_eq_true rfl) dX11_readsPlan_16 ⟨Nat.le_of_ble_eq_true rfl, Nat.le_of_ble_eq_true rfl⟩) hA hD hS (fun L17 f18 H locs hp19 hP hD hS => ?_)
  obtain ⟨r20, hf21, hf22, fr23, sb24⟩ := hp19
  have hfr25 : ∀ b, b ∈ L → b ≠ mo → b ≠ ar11 → f18 b = f b := fun b hb z0 z1 => (fr23 b (hsb0 b hb) z0 z1).trans (hfr14 b hb z0 z1)
  have hsb26 : ∀ b, b ∈ L → b ∈ L17 := fun b hb => sb24 b (hsb0 b hb)
  have hm27 := sb24 _ hm_mo
  have hm28 := sb24 _ hm_ar11
  refine lv_aload_n hx hb dX11_readsPlan_19 rfl (lv_at hl 0 rfl) ?_
  refine pl_get (v := .int 0) hx hb hts (fun w h => mT (inX11 w h)) hown hG.1 hP hm27 hf21 rfl 4 (by decide) (hts _ (mT wg_1340)) (fun _ h => h) rfl dX11_readsPlan_20 ?_
  refine lv_iconst (v := (-1)) hx hb dX11_readsPlan_23 (by decide) ?_
  refine lv_icmp_ne (tgt := 53) hx hb dX11_readsPlan_24 (by decide) (fun c29 => ?_) (fun c29 => absurd c29 (by decide))
  refine lv_aload_n hx hb dX11_readsPlan_53 rfl (lv_at hl 0 rfl) ?_
  refine pl_get (v := .int 0) hx hb hts (fun w h => mT (inX11 w h)) hown hG.1 hP hm27 hf21 rfl 4 (by decide) (hts _ (mT wg_1340)) (fun _ h => h) rfl dX11_readsPlan_54 ?_
  refine lv_iconst (v := (-1)) hx hb dX11_readsPlan_57 (by decide) ?_
  refine lv_icmp_ne (tgt := 77) hx hb dX11_readsPlan_58 (by decide) (fun c30 => ?_) (fun c30 => absurd c30 (by decide))
  refine lv_aload_n hx hb dX11_readsPlan_77 rfl (lv_at hl 0 rfl) ?_
  refine pl_get (v := .int 0) hx hb hts (fun w h => mT (inX11 w h)) hown hG.1 hP hm27 hf21 rfl 4 (by decide) (hts _ (mT wg_1340)) (fun _ h => h) rfl dX11_readsPlan_78 ?_
  exact ret_i (ty := .int) hx hb hr hlocks (rfl) hP hD hS (Nat.le_of_ble_eq_true rfl) (Nat.le_of_ble_eq_true rfl) (⟨r20, hf21, hf22, rfl, hfr25, hsb26⟩) dX11_readsPlan_81

set_option maxHeartbeats 4000000 in
set_option maxRecDepth 100000 in
theorem k_X11_over (l : Launch) (g : GG) (L : List Nat) (f : HP) (sz : Nat) (mo ar1 ar7 ar10 ar11 ar24 ar26 ar27 ar28 ar29 ar30 ar31 ar32 ar33 ar34 ar35 ar41 ar42 ar43 ar44 ar49 ar52 ar54 : Nat) (hm_mo : mo ∈ L) (hf_mo : f mo = .inr (10, [.int 0, .ref ar1, .int 0, .int 0, .int 0, .int 0, .int 0, .ref ar7, .int 0, .int 0, .ref ar10, .ref ar11, .int 0, .int 0, .int 0, .int 0, .int 0, .int 0, .int 0, .int 0, .int 0, .long 0, .long 0, .int 0, .ref ar24, .int 0, .ref ar26, .ref ar27, .ref ar28, .ref ar29, .ref ar30, .ref ar31, .ref ar32, .ref ar33, .ref ar34, .ref ar35, .int 0, .int 0, .int 0, .int 0, .int 0, .ref ar41, .ref ar42, .ref ar43, .ref ar44, .long 0, .long 0, .int 0, .int 0, .ref ar49, .int 0, .int 0, .ref ar52, .int 0, .ref ar54, .int 0])) : MtI l g yX11_over cX11_over 1 (some .int) ({ frames := 0, cells := 0, slots := 0, locals := 0 }) [.ref mo] L f sz (fun r u => r = 0 ∧ (∀ b, b ∈ L → u.2 b = f b) ∧ (∀ b, b ∈ L → b ∈ u.1)) := by
  refine MtI.of (by decide +kernel) (Nat.le_of_ble_eq_true rfl) ?_
  intro p e s m below meth c A hEn hP hD hS ls hl
  obtain ⟨hx, hb, hr, hml, hown, hlocks, hts, hG, hA, hE, hnm⟩ := hEn
  have hown : s.vm.findClass "RulerWordModel" = some m.cls := hown
  have hl : lv_has ls 1 [(0, .ref mo)] := hl
  have hfr0 : ∀ b, b ∈ L → f b = f b := fun b hb  => rfl
  have hsb0 : ∀ b, b ∈ L → b ∈ L := fun b hb => hb
  refine lv_aload_n hx hb dX11_over_0 rfl (lv_at hl 0 rfl) ?_
  refine pl_get (v := .int 0) hx hb hts (fun w h => mT (inX11 w h)) hown hG.1 hP hm_mo hf_mo rfl 23 (by decide) (hts _ (mT wg_1359)) (fun _ h => h) rfl dX11_over_1 ?_
  refine lv_if_eq (tgt := 22) hx hb dX11_over_4 (by decide) (fun c1 => ?_) (fun c1 => absurd (by decide) c1)
  refine lv_iconst (v := 0) hx hb dX11_over_22 (by decide) ?_
  exact ret_i (ty := .int) hx hb hr hlocks (rfl) hP hD hS (Nat.le_of_ble_eq_true rfl) (Nat.le_of_ble_eq_true rfl) (⟨rfl, hfr0, hsb0⟩) dX11_over_23

set_option maxHeartbeats 4000000 in
set_option maxRecDepth 100000 in
theorem k_X11_isPeer (l : Launch) (g : GG) (L : List Nat) (f : HP) (sz : Nat) (mo ar1 ar7 ar10 ar11 ar24 ar26 ar27 ar28 ar29 ar30 ar31 ar32 ar33 ar34 ar35 ar41 ar42 ar43 ar44 ar49 ar52 ar54 : Nat) (i : Int32) (hm_mo : mo ∈ L) (hf_mo : f mo = .inr (10, [.int 0, .ref ar1, .int 0, .int 0, .int 0, .int 0, .int 0, .ref ar7, .int 0, .int 0, .ref ar10, .ref ar11, .int 0, .int 0, .int 0, .int 0, .int 0, .int 0, .int 0, .int 0, .int 0, .long 0, .long 0, .int 0, .ref ar24, .int 0, .ref ar26, .ref ar27, .ref ar28, .ref ar29, .ref ar30, .ref ar31, .ref ar32, .ref ar33, .ref ar34, .ref ar35, .int 0, .int 0, .int 0, .int 0, .int 0, .ref ar41, .ref ar42, .ref ar43, .ref ar44, .long 0, .long 0, .int 0, .int 0, .ref ar49, .int 0, .int 0, .ref ar52, .int 0, .ref ar54, .int 0])) : MtI l g yX11_isPeer cX11_isPeer 2 (some .boolean) ({ frames := 0, cells := 0, slots := 0, locals := 0 }) [.ref mo, .int i] L f sz (fun r u => r = 0 ∧ (∀ b, b ∈ L → u.2 b = f b) ∧ (∀ b, b ∈ L → b ∈ u.1)) := by
  refine MtI.of (by decide +kernel) (Nat.le_of_ble_eq_true rfl) ?_
  intro p e s m below meth c A hEn hP hD hS ls hl
  obtain ⟨hx, hb, hr, hml, hown, hlocks, hts, hG, hA, hE, hnm⟩ := hEn
  have hown : s.vm.findClass "RulerWordModel" = some m.cls := hown
  have hl : lv_has ls 2 [(0, .ref mo), (1, .int i)] := hl
  have hfr0 : ∀ b, b ∈ L → f b = f b := fun b hb  => rfl
  have hsb0 : ∀ b, b ∈ L → b ∈ L := fun b hb => hb
  refine lv_aload_n hx hb dX11_isPeer_0 rfl (lv_at hl 0 rfl) ?_
  refine pl_get (v := .int 0) hx hb hts (fun w h => mT (inX11 w h)) hown hG.1 hP hm_mo hf_mo rfl 23 (by decide) (hts _ (mT wg_1359)) (fun _ h => h) rfl dX11_isPeer_1 ?_
  refine lv_if_eq (tgt := 27) hx hb dX11_isPeer_4 (by decide) (fun c1 => ?_) (fun c1 => absurd (by decide) c1)
  refine lv_iconst (v := 0) hx hb dX11_isPeer_27 (by decide) ?_
  exact ret_i (ty := .boolean) hx hb hr hlocks (rfl) hP hD hS (Nat.le_of_ble_eq_true rfl) (Nat.le_of_ble_eq_true rfl) (⟨rfl, hfr0, hsb0⟩) dX11_isPeer_28

set_option maxHeartbeats 4000000 in
set_option maxRecDepth 100000 in
theorem k_X11_isRound (l : Launch) (g : GG) (L : List Nat) (f : HP) (sz : Nat) (mo ar1 ar7 ar10 ar11 ar24 ar26 ar27 ar28 ar29 ar30 ar31 ar32 ar33 ar34 ar35 ar41 ar42 ar43 ar44 ar49 ar52 ar54 : Nat) (a : Int32) (b : Int32) (hm_mo : mo ∈ L) (hf_mo : f mo = .inr (10, [.int 0, .ref ar1, .int 0, .int 0, .int 0, .int 0, .int 0, .ref ar7, .int 0, .int 0, .ref ar10, .ref ar11, .int 0, .int 0, .int 0, .int 0, .int 0, .int 0, .int 0, .int 0, .int 0, .long 0, .long 0, .int 0, .ref ar24, .int 0, .ref ar26, .ref ar27, .ref ar28, .ref ar29, .ref ar30, .ref ar31, .ref ar32, .ref ar33, .ref ar34, .ref ar35, .int 0, .int 0, .int 0, .int 0, .int 0, .ref ar41, .ref ar42, .ref ar43, .ref ar44, .long 0, .long 0, .int 0, .int 0, .ref ar49, .int 0, .int 0, .ref ar52, .int 0, .ref ar54, .int 0])) : MtI l g yX11_isRound cX11_isRound 3 (some .boolean) ({ frames := 0, cells := 0, slots := 0, locals := 0 }) [.ref mo, .int a, .int b] L f sz (fun r u => r = 0 ∧ (∀ b, b ∈ L → u.2 b = f b) ∧ (∀ b, b ∈ L → b ∈ u.1)) := by
  refine MtI.of (by decide +kernel) (Nat.le_of_ble_eq_true rfl) ?_
  intro p e s m below meth c A hEn hP hD hS ls hl
  obtain ⟨hx, hb, hr, hml, hown, hlocks, hts, hG, hA, hE, hnm⟩ := hEn
  have hown : s.vm.findClass "RulerWordModel" = some m.cls := hown
  have hl : lv_has ls 3 [(0, .ref mo), (1, .int a), (2, .int b)] := hl
  have hfr0 : ∀ b, b ∈ L → f b = f b := fun b hb  => rfl
  have hsb0 : ∀ b, b ∈ L → b ∈ L := fun b hb => hb
  refine lv_aload_n hx hb dX11_isRound_0 rfl (lv_at hl 0 rfl) ?_
  refine pl_get (v := .int 0) hx hb hts (fun w h => mT (inX11 w h)) hown hG.1 hP hm_mo hf_mo rfl 23 (by decide) (hts _ (mT wg_1359)) (fun _ h => h) rfl dX11_isRound_1 ?_
  refine lv_if_eq (tgt := 43) hx hb dX11_isRound_4 (by decide) (fun c1 => ?_) (fun c1 => absurd (by decide) c1)
  refine lv_iconst (v := 0) hx hb dX11_isRound_43 (by decide) ?_
  exact ret_i (ty := .boolean) hx hb hr hlocks (rfl) hP hD hS (Nat.le_of_ble_eq_true rfl) (Nat.le_of_ble_eq_true rfl) (⟨rfl, hfr0, hsb0⟩) dX11_isRound_44

set_option maxHeartbeats 4000000 in
set_option maxRecDepth 100000 in
theorem k_X11_canSearch (l : Launch) (g : GG) (L : List Nat) (f : HP) (sz : Nat) (mo ar1 ar7 ar10 ar11 ar24 ar26 ar27 ar28 ar29 ar30 ar31 ar32 ar33 ar34 ar35 ar41 ar42 ar43 ar44 ar49 ar52 ar54 : Nat) (hm_mo : mo ∈ L) (hf_mo : f mo = .inr (10, [.int 0, .ref ar1, .int 0, .int 0, .int 0, .int 0, .int 0, .ref ar7, .int 0, .int 0, .ref ar10, .ref ar11, .int 0, .int 0, .int 0, .int 0, .int 0, .int 0, .int 0, .int 0, .int 0, .long 0, .long 0, .int 0, .ref ar24, .int 0, .ref ar26, .ref ar27, .ref ar28, .ref ar29, .ref ar30, .ref ar31, .ref ar32, .ref ar33, .ref ar34, .ref ar35, .int 0, .int 0, .int 0, .int 0, .int 0, .ref ar41, .ref ar42, .ref ar43, .ref ar44, .long 0, .long 0, .int 0, .int 0, .ref ar49, .int 0, .int 0, .ref ar52, .int 0, .ref ar54, .int 0])) : MtI l g yX11_canSearch cX11_canSearch 1 (some .boolean) ({ frames := 0, cells := 0, slots := 0, locals := 0 }) [.ref mo] L f sz (fun r u => r = 0 ∧ (∀ b, b ∈ L → u.2 b = f b) ∧ (∀ b, b ∈ L → b ∈ u.1)) := by
  refine MtI.of (by decide +kernel) (Nat.le_of_ble_eq_true rfl) ?_
  intro p e s m below meth c A hEn hP hD hS ls hl
  obtain ⟨hx, hb, hr, hml, hown, hlocks, hts, hG, hA, hE, hnm⟩ := hEn
  have hown : s.vm.findClass "RulerWordModel" = some m.cls := hown
  have hl : lv_has ls 1 [(0, .ref mo)] := hl
  have hfr0 : ∀ b, b ∈ L → f b = f b := fun b hb  => rfl
  have hsb0 : ∀ b, b ∈ L → b ∈ L := fun b hb => hb
  refine lv_aload_n hx hb dX11_canSearch_0 rfl (lv_at hl 0 rfl) ?_
  refine pl_get (v := .int 0) hx hb hts (fun w h => mT (inX11 w h)) hown hG.1 hP hm_mo hf_mo rfl 23 (by decide) (hts _ (mT wg_1359)) (fun _ h => h) rfl dX11_canSearch_1 ?_
  refine lv_if_ne (tgt := 9) hx hb dX11_canSearch_4 (by decide) (fun c1 => absurd rfl c1) (fun c1 => ?_)
  refine lv_iconst (v := 0) hx hb dX11_canSearch_7 (by decide) ?_
  exact ret_i (ty := .boolean) hx hb hr hlocks (rfl) hP hD hS (Nat.le_of_ble_eq_true rfl) (Nat.le_of_ble_eq_true rfl) (⟨rfl, hfr0, hsb0⟩) dX11_canSearch_8

set_option maxHeartbeats 4000000 in
set_option maxRecDepth 100000 in
theorem k_X11_isIn (l : Launch) (g : GG) (L : List Nat) (f : HP) (sz : Nat)  (v : Int64) (a : Int64) (b : Int64)  : MtI l g yX11_isIn cX11_isIn 6 (some .boolean) ({ frames := 0, cells := 0, slots := 0, locals := 0 }) [.long v, .long a, .long b] L f sz (fun r u => r = isInV v a b ∧ (∀ b, b ∈ L → u.2 b = f b) ∧ (∀ b, b ∈ L → b ∈ u.1)) := by
  refine MtI.of (by decide +kernel) (Nat.le_of_ble_eq_true rfl) ?_
  intro p e s m below meth c A hEn hP hD hS ls hl
  obtain ⟨hx, hb, hr, hml, hown, hlocks, hts, hG, hA, hE, hnm⟩ := hEn
  have hown : s.vm.findClass "RulerWordModel" = some m.cls := hown
  have hl : lv_has ls 6 [(0, .long v), (2, .long a), (4, .long b)] := hl
  have hfr0 : ∀ b, b ∈ L → f b = f b := fun b hb  => rfl
  have hsb0 : ∀ b, b ∈ L → b ∈ L := fun b hb => hb
  refine lv_lload_n hx hb dX11_isIn_0 rfl (lv_at hl 0 rfl) ?_
  refine lv_lload_n hx hb dX11_isIn_1 rfl (lv_at hl 1 rfl) ?_
  refine W.lcmp hx hb dX11_isIn_2 ?_
  refine lv_topi (fun x1 ex1 => ?_)
  refine lv_if_lt (tgt := 17) hx hb dX11_isIn_3 (by decide) (fun c2 => ?_) (fun c2 => ?_)
  ·
    refine lv_iconst (v := 0) hx hb dX11_isIn_17 (by decide) ?_
    exact ret_i (ty := .boolean) hx hb hr hlocks (rfl) hP hD hS (Nat.le_of_ble_eq_true rfl) (Nat.le_of_ble_eq_true rfl) (⟨by simp [isInV, c2, ← ex1], hfr0, hsb0⟩) dX11_isIn_18
  ·
    refine lv_lload_n hx hb dX11_isIn_6 rfl (lv_at hl 0 rfl) ?_
    refine lv_lload hx hb dX11_isIn_7 (lv_at hl 2 rfl) ?_
    refine W.lcmp hx hb dX11_isIn_9 ?_
    refine lv_topi (fun x3 ex3 => ?_)
    refine lv_if_gt (tgt := 17) hx hb dX11_isIn_10 (by decide) (fun c4 => ?_) (fun c4 => ?_)
    ·
      refine lv_iconst (v := 0) hx hb dX11_isIn_17 (by decide) ?_
      exact ret_i (ty := .boolean) hx hb hr hlocks (rfl) hP hD hS (Nat.le_of_ble_eq_true rfl) (Nat.le_of_ble_eq_true rfl) (⟨by simp [isInV, c2, c4, ← ex1, ← ex3], hfr0, hsb0⟩) dX11_isIn_18
    ·
      refine lv_iconst (v := 1) hx hb dX11_isIn_13 (by decide) ?_
      refine lv_goto (tgt := 18) hx hb dX11_isIn_14 (by decide) ?_
      exact ret_i (ty := .boolean) hx hb hr hlocks (rfl) hP hD hS (Nat.le_of_ble_eq_true rfl) (Nat.le_of_ble_eq_true rfl) (⟨by simp [isInV, c2, c4, ← ex1, ← ex3], hfr0, hsb0⟩) dX11_isIn_18

set_option maxHeartbeats 4000000 in
set_option maxRecDepth 100000 in
theorem k_X11_refuse (l : Launch) (g : GG) (L : List Nat) (f : HP) (sz : Nat) (mo ar1 ar7 ar10 ar11 ar24 ar26 ar27 ar28 ar29 ar30 ar31 ar32 ar33 ar34 ar35 ar41 ar42 ar43 ar44 ar49 ar52 ar54 : Nat) (hm_mo : mo ∈ L) (hf_mo : f mo = .inr (10, [.int 0, .ref ar1, .int 0, .int 0, .int 0, .int 0, .int 0, .ref ar7, .int 0, .int 0, .ref ar10, .ref ar11, .int 0, .int 0, .int 0, .int 0, .int 0, .int 0, .int 0, .int 0, .int 0, .long 0, .long 0, .int 0, .ref ar24, .int 0, .ref ar26, .ref ar27, .ref ar28, .ref ar29, .ref ar30, .ref ar31, .ref ar32, .ref ar33, .ref ar34, .ref ar35, .int 0, .int 0, .int 0, .int 0, .int 0, .ref ar41, .ref ar42, .ref ar43, .ref ar44, .long 0, .long 0, .int 0, .int 0, .ref ar49, .int 0, .int 0, .ref ar52, .int 0, .ref ar54, .int 0])) (hm_ar49 : ar49 ∈ L) (hf_ar49 : f ar49 = .inl (g.2.1 0, 5, .inl (fun _ => 0))) : MtI l g yX11_refuse cX11_refuse 2 (some .int) ({ frames := 0, cells := 0, slots := 0, locals := 0 }) [.ref mo, .int 0] L f sz (fun r u => ∃ (r49 : Nat → Int32), u.2 ar49 = .inl (g.2.1 0, 5, .inl (r49)) ∧ r = (-1) ∧ (∀ b, b ∈ L → b ≠ ar49 → u.2 b = f b) ∧ (∀ b, b ∈ L → b ∈ u.1)) := by
  refine MtI.of (by decide +kernel) (Nat.le_of_ble_eq_true rfl) ?_
  intro p e s m below meth c A hEn hP hD hS ls hl
  obtain ⟨hx, hb, hr, hml, hown, hlocks, hts, hG, hA, hE, hnm⟩ := hEn
  have hown : s.vm.findClass "RulerWordModel" = some m.cls := hown
  have hl : lv_has ls 2 [(0, .ref mo), (1, .int 0)] := hl
  have hfr0 : ∀ b, b ∈ L → b ≠ ar49 → f b = f b := fun b hb z0 => rfl
  have hsb0 : ∀ b, b ∈ L → b ∈ L := fun b hb => hb
  refine lv_aload_n hx hb dX11_refuse_0 rfl (lv_at hl 0 rfl) ?_
  refine pl_get (v := .ref ar49) hx hb hts (fun w h => mT (inX11 w h)) hown hG.1 hP hm_mo hf_mo rfl 49 (by decide) (hts _ (mT wg_1385)) (fun _ h => h) rfl dX11_refuse_1 ?_
  refine lv_iload_n hx hb dX11_refuse_4 rfl (lv_at hl 1 rfl) ?_
  refine lv_dup2_11 hx hb dX11_refuse_5 rfl rfl ?_
  refine pl_iald hx hb hG.1 hP hm_ar49 0 hf_ar49 rfl (by unfold vp_in; decide) dX11_refuse_6 ?_
  refine lv_topi (fun x1 ex1 => ?_)
  obtain rfl : x1 = 0 := ex1.trans (rfl)
  refine lv_iconst (v := 1) hx hb dX11_refuse_7 (by decide) ?_
  refine lv_iadd hx hb dX11_refuse_8 ?_
  refine lv_topi (fun x2 ex2 => ?_)
  obtain rfl : x2 = 1 := ex2.trans (by decide)
  refine pl_iast hx hb hG.1 hP hD hS hm_ar49 0 hf_ar49 rfl (by unfold vp_in; decide) dX11_refuse_9 (fun H locs f3 hf5 ho4 hP hD hS => ?_)
  obtain ⟨r6, er6⟩ : ∃ r : Nat → Int32, r = upd (fun _ => 0) (0 : Int32).toNatClampNeg (1) := ⟨_, rfl⟩
  rw [← er6] at hf5
  have hfr7 : ∀ b, b ∈ L → b ≠ ar49 → f3 b = f b := fun b hb z0 => (ho4 b z0).trans (hfr0 b hb z0)
  have hf8 := (ho4 mo (kno hf_mo hf_ar49)).trans hf_mo
  refine lv_iconst (v := (-1)) hx hb dX11_refuse_10 (by decide) ?_
  exact ret_i (ty := .int) hx hb hr hlocks (rfl) hP hD hS (Nat.le_of_ble_eq_true rfl) (Nat.le_of_ble_eq_true rfl) (⟨r6, hf5, rfl, hfr7, hsb0⟩) dX11_refuse_11
