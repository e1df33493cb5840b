set_option maxHeartbeats 4000000 in
set_option maxRecDepth 100000 in
theorem k_X10_fault (l : Launch) (g : GG) (L : List Nat) (f : HP) (sz : Nat) (x t dr co ot dp pn ch fr nw kp tr ac se tx rf tb pa : Nat) (w : Int32) (hm_x : x ∈ L) (hf_x : f x = .inr (9, [.ref t, .ref dr, .ref co, .ref ot, .ref dp, .ref pn, .ref ch, .ref fr, .ref nw, .ref kp, .ref tr, .ref ac, .ref se, .ref tx, .ref rf, .int 0, .int 0, .long 0])) (hm_t : t ∈ L) (hf_t : f t = .inr (8, [.ref tb, .int 0, .int 0, .int 0, .int 0])) (hm_dr : dr ∈ L) (hf_dr : f dr = .inr (2, [.int 0, .int 0, .int 0, .int 0, .int 0, .int 0, .int 0, .int 0])) (hm_dp : dp ∈ L) (hf_dp : f dp = .inr (5, [.ref pa, .int 0])) (hm_pa : pa ∈ L) (hf_pa : f pa = .inl (g.2.1 0, 100, .inl (fun _ => 0))) : MtI l g yX10_fault cX10_fault 2 (some .int) ({ frames := 5, cells := 0, slots := 0, locals := 109 }) [.ref x, .int w] L f sz (fun r _ => r = fltV w) := by
  refine MtI.of (by decide +kernel) (Nat.le_of_ble_eq_true rfl) ?_
  intro p e s m below meth c A hEn hP hD hS ls hl
  obtain ⟨hx, hb, hr, hml, hown, hlocks, hts, hG, hA, hE, hnm⟩ := hEn
  have hown : s.vm.findClass "RulerWord" = some m.cls := hown
  have hl : lv_has ls 2 [(0, .ref x), (1, .int w)] := hl
  refine lv_iload_n hx hb dX10_fault_0 rfl (lv_at hl 1 rfl) ?_
  by_cases c1 : w = 0
  ·
    subst c1
    refine lv_lookup (off := 27) (tgt := 28) hx hb dX10_fault_1 (by decide) (by decide) (by decide) ?_
    refine lv_aload_n hx hb dX10_fault_28 rfl (lv_at hl 0 rfl) ?_
    refine pl_get (v := .ref dr) hx hb hts (fun w h => mT (inX10 w h)) hown hG.1 hP hm_x hf_x rfl 1 (by decide) (hts _ (mT wg_476)) (fun _ h => h) rfl dX10_fault_29 ?_
    refine lv_aload_n hx hb dX10_fault_32 rfl (lv_at hl 0 rfl) ?_
    refine pl_get (v := .ref t) hx hb hts (fun w h => mT (inX10 w h)) hown hG.1 hP hm_x hf_x rfl 0 (by decide) (hts _ (mT wg_475)) (fun _ h => h) rfl dX10_fault_33 ?_
    refine call_i (run_VN (rm := { frames := 2, cells := 0, slots := 0, locals := 42 }) hx hb hml hown hts (k_X2_readFrom l g _ _ _ dr t tb hm_dr hf_dr hm_t hf_t) cV_X2_readFrom wn_550 ⟨Nat.le_of_ble_eq_true rfl, Nat.le_of_ble_eq_true rfl⟩ hG hE hA hP hD hS hm_dr hf_dr rfl rfl hl.1 (As := [.ref t]) (rest := []) rfl (Nat.le_of_ble_eq_true rfl) dX10_fault_36 ⟨Nat.le_of_ble_eq_true rfl, Nat.le_of_ble_eq_true rfl⟩) hA hD hS (fun r2 L3 f4 H locs hp5 hP hD hS => ?_)
    obtain ⟨hf6, hf7, er8, fr9, sb10⟩ := hp5
    have hf12 := (fr9 x hm_x (kne hf_x hf_dr (by decide)) (kne hf_x hf_t (by decide))).trans hf_x
    have hm11 := sb10 _ hm_x
    have hm13 := sb10 _ hm_t
    have hm14 := sb10 _ hm_dr
    have hf16 := (fr9 dp hm_dp (kne hf_dp hf_dr (by decide)) (kne hf_dp hf_t (by decide))).trans hf_dp
    have hm15 := sb10 _ hm_dp
    have hf18 := (fr9 pa hm_pa (kno hf_dr hf_pa).symm (kno hf_t hf_pa).symm).trans hf_pa
    have hm17 := sb10 _ hm_pa
    subst er8
    exact ret_i (ty := .int) hx hb hr hlocks (rfl) hP hD hS (Nat.le_of_ble_eq_true rfl) (Nat.le_of_ble_eq_true rfl) (by simp [fltV]) dX10_fault_39
  by_cases c19 : w = 1
  ·
    subst c19
    refine lv_lookup (off := 39) (tgt := 40) hx hb dX10_fault_1 (by decide) (by decide) (by decide) ?_
    refine lv_aload_n hx hb dX10_fault_40 rfl (lv_at hl 0 rfl) ?_
    refine pl_get (v := .ref dp) hx hb hts (fun w h => mT (inX10 w h)) hown hG.1 hP hm_x hf_x rfl 4 (by decide) (hts _ (mT wg_479)) (fun _ h => h) rfl dX10_fault_41 ?_
    refine lv_aload_n hx hb dX10_fault_44 rfl (lv_at hl 0 rfl) ?_
    refine pl_get (v := .ref t) hx hb hts (fun w h => mT (inX10 w h)) hown hG.1 hP hm_x hf_x rfl 0 (by decide) (hts _ (mT wg_475)) (fun _ h => h) rfl dX10_fault_45 ?_
    refine call_i (run_VN (rm := { frames := 4, cells := 0, slots := 0, locals := 87 }) hx hb hml hown hts (k_X5_readFrom l g _ _ _ dp t pa tb (fun _ => 0) hm_dp hf_dp hm_pa hf_pa hm_t hf_t) cV_X5_readFrom wn_676 ⟨Nat.le_of_ble_eq_true rfl, Nat.le_of_ble_eq_true rfl⟩ hG hE hA hP hD hS hm_dp hf_dp rfl rfl hl.1 (As := [.ref t]) (rest := []) rfl (Nat.le_of_ble_eq_true rfl) dX10_fault_48 ⟨Nat.le_of_ble_eq_true rfl, Nat.le_of_ble_eq_true rfl⟩) hA hD hS (fun r20 L21 f22 H locs hp23 hP hD hS => ?_)
    obtain ⟨r24, hf25, hf26, hf27, er28, fr29, sb30⟩ := hp23
    have hf32 := (fr29 x hm_x (kne hf_x hf_dp (by decide)) (kno hf_x hf_pa) (kne hf_x hf_t (by decide))).trans hf_x
    have hm31 := sb30 _ hm_x
    have hm33 := sb30 _ hm_t
    have hf35 := (fr29 dr hm_dr (kne hf_dr hf_dp (by decide)) (kno hf_dr hf_pa) (kne hf_dr hf_t (by decide))).trans hf_dr
    have hm34 := sb30 _ hm_dr
    have hm36 := sb30 _ hm_dp
    have hm37 := sb30 _ hm_pa
    subst er28
    exact ret_i (ty := .int) hx hb hr hlocks (rfl) hP hD hS (Nat.le_of_ble_eq_true rfl) (Nat.le_of_ble_eq_true rfl) (by simp [fltV]) dX10_fault_51
  refine lv_lookup (off := 51) (tgt := 52) hx hb dX10_fault_1 (by decide) (by simp [Op.lookupswitch.offset, ne_ti2 (k := 0) c1 (by decide), ne_ti2 (k := 1) c19 (by decide)]) (by decide) ?_
  refine lv_bipush (v := (-2)) hx hb dX10_fault_52 (by decide) ?_
  exact ret_i (ty := .int) hx hb hr hlocks (rfl) hP hD hS (Nat.le_of_ble_eq_true rfl) (Nat.le_of_ble_eq_true rfl) (by simp [fltV, c1, c19]) dX10_fault_54

set_option maxHeartbeats 4000000 in
set_option maxRecDepth 100000 in
theorem k_X10_council (l : Launch) (g : GG) (L : List Nat) (f : HP) (sz : Nat) (x t dr co ot dp pn ch fr nw kp tr ac se tx rf tb : Nat) (sd : Int64) (hm_x : x ∈ L) (hf_x : f x = .inr (9, [.ref t, .ref dr, .ref co, .ref ot, .ref dp, .ref pn, .ref ch, .ref fr, .ref nw, .ref kp, .ref tr, .ref ac, .ref se, .ref tx, .ref rf, .int 0, .int 0, .long 0])) (hm_t : t ∈ L) (hf_t : f t = .inr (8, [.ref tb, .int 0, .int 0, .int 0, .int 0])) (hm_dr : dr ∈ L) (hf_dr : f dr = .inr (2, [.int 0, .int 0, .int 0, .int 0, .int 0, .int 0, .int 0, .int 0])) : MtI l g yX10_council cX10_council 3 (some .int) ({ frames := 3, cells := 0, slots := 0, locals := 64 }) [.ref x, .long sd] L f sz (fun r _ => r = (-1)) := by
  refine MtI.of (by decide +kernel) (Nat.le_of_ble_eq_true rfl) ?_
  intro p e s m below meth c A hEn hP hD hS ls hl
  obtain ⟨hx, hb, hr, hml, hown, hlocks, hts, hG, hA, hE, hnm⟩ := hEn
  have hown : s.vm.findClass "RulerWord" = some m.cls := hown
  have hl : lv_has ls 3 [(0, .ref x), (1, .long sd)] := hl
  refine lv_aload_n hx hb dX10_council_0 rfl (lv_at hl 0 rfl) ?_
  refine pl_get (v := .ref dr) hx hb hts (fun w h => mT (inX10 w h)) hown hG.1 hP hm_x hf_x rfl 1 (by decide) (hts _ (mT wg_476)) (fun _ h => h) rfl dX10_council_1 ?_
  refine lv_aload_n hx hb dX10_council_4 rfl (lv_at hl 0 rfl) ?_
  refine pl_get (v := .ref t) hx hb hts (fun w h => mT (inX10 w h)) hown hG.1 hP hm_x hf_x rfl 0 (by decide) (hts _ (mT wg_475)) (fun _ h => h) rfl dX10_council_5 ?_
  refine call_i (run_VN (rm := { frames := 2, cells := 0, slots := 0, locals := 42 }) hx hb hml hown hts (k_X2_readFrom l g _ _ _ dr t tb hm_dr hf_dr hm_t hf_t) cV_X2_readFrom wn_550 ⟨Nat.le_of_ble_eq_true rfl, Nat.le_of_ble_eq_true rfl⟩ hG hE hA hP hD hS hm_dr hf_dr rfl rfl hl.1 (As := [.ref t]) (rest := []) rfl (Nat.le_of_ble_eq_true rfl) dX10_council_8 ⟨Nat.le_of_ble_eq_true rfl, Nat.le_of_ble_eq_true rfl⟩) hA hD hS (fun r1 L2 f3 H locs hp4 hP hD hS => ?_)
  obtain ⟨hf5, hf6, er7, fr8, sb9⟩ := hp4
  have hf11 := (fr8 x hm_x (kne hf_x hf_dr (by decide)) (kne hf_x hf_t (by decide))).trans hf_x
  have hm10 := sb9 _ hm_x
  have hm12 := sb9 _ hm_t
  have hm13 := sb9 _ hm_dr
  subst er7
  refine lv_iconst (v := (-1)) hx hb dX10_council_11 (by decide) ?_
  refine lv_icmp_eq (tgt := 17) hx hb dX10_council_12 (by decide) (fun c14 => absurd c14 (by decide)) (fun c14 => ?_)
  refine lv_iconst (v := (-1)) hx hb dX10_council_15 (by decide) ?_
  exact ret_i (ty := .int) hx hb hr hlocks (rfl) hP hD hS (Nat.le_of_ble_eq_true rfl) (Nat.le_of_ble_eq_true rfl) (rfl) dX10_council_16

set_option maxHeartbeats 4000000 in
set_option maxRecDepth 100000 in
theorem k_X10_plan (l : Launch) (g : GG) (L : List Nat) (f : HP) (sz : Nat) (x t dr co ot dp pn ch fr nw kp tr ac se tx rf tb pa : Nat) (hm_x : x ∈ L) (hf_x : f x = .inr (9, [.ref t, .ref dr, .ref co, .ref ot, .ref dp, .ref pn, .ref ch, .ref fr, .ref nw, .ref kp, .ref tr, .ref ac, .ref se, .ref tx, .ref rf, .int 0, .int 0, .long 0])) (hm_t : t ∈ L) (hf_t : f t = .inr (8, [.ref tb, .int 0, .int 0, .int 0, .int 0])) (hm_dp : dp ∈ L) (hf_dp : f dp = .inr (5, [.ref pa, .int 0])) (hm_pa : pa ∈ L) (hf_pa : f pa = .inl (g.2.1 0, 100, .inl (fun _ => 0))) : MtI l g yX10_plan cX10_plan 1 (some .int) ({ frames := 5, cells := 0, slots := 0, locals := 109 }) [.ref x] L f sz (fun r _ => r = (-1)) := by
  refine MtI.of (by decide +kernel) (Nat.le_of_ble_eq_true rfl) ?_
  intro p e s m below meth c A hEn hP hD hS ls hl
  obtain ⟨hx, hb, hr, hml, hown, hlocks, hts, hG, hA, hE, hnm⟩ := hEn
  have hown : s.vm.findClass "RulerWord" = some m.cls := hown
  have hl : lv_has ls 1 [(0, .ref x)] := hl
  refine lv_aload_n hx hb dX10_plan_0 rfl (lv_at hl 0 rfl) ?_
  refine pl_get (v := .ref dp) hx hb hts (fun w h => mT (inX10 w h)) hown hG.1 hP hm_x hf_x rfl 4 (by decide) (hts _ (mT wg_479)) (fun _ h => h) rfl dX10_plan_1 ?_
  refine lv_aload_n hx hb dX10_plan_4 rfl (lv_at hl 0 rfl) ?_
  refine pl_get (v := .ref t) hx hb hts (fun w h => mT (inX10 w h)) hown hG.1 hP hm_x hf_x rfl 0 (by decide) (hts _ (mT wg_475)) (fun _ h => h) rfl dX10_plan_5 ?_
  refine call_i (run_VN (rm := { frames := 4, cells := 0, slots := 0, locals := 87 }) hx hb hml hown hts (k_X5_readFrom l g _ _ _ dp t pa tb (fun _ => 0) hm_dp hf_dp hm_pa hf_pa hm_t hf_t) cV_X5_readFrom wn_676 ⟨Nat.le_of_ble_eq_true rfl, Nat.le_of_ble_eq_true rfl⟩ hG hE hA hP hD hS hm_dp hf_dp rfl rfl hl.1 (As := [.ref t]) (rest := []) rfl (Nat.le_of_ble_eq_true rfl) dX10_plan_8 ⟨Nat.le_of_ble_eq_true rfl, Nat.le_of_ble_eq_true rfl⟩) hA hD hS (fun r1 L2 f3 H locs hp4 hP hD hS => ?_)
  obtain ⟨r5, hf6, hf7, hf8, er9, fr10, sb11⟩ := hp4
  have hf13 := (fr10 x hm_x (kne hf_x hf_dp (by decide)) (kno hf_x hf_pa) (kne hf_x hf_t (by decide))).trans hf_x
  have hm12 := sb11 _ hm_x
  have hm14 := sb11 _ hm_t
  have hm15 := sb11 _ hm_dp
  have hm16 := sb11 _ hm_pa
  subst er9
  refine lv_iconst (v := (-1)) hx hb dX10_plan_11 (by decide) ?_
  refine lv_icmp_eq (tgt := 17) hx hb dX10_plan_12 (by decide) (fun c17 => absurd c17 (by decide)) (fun c17 => ?_)
  refine lv_iconst (v := (-1)) hx hb dX10_plan_15 (by decide) ?_
  exact ret_i (ty := .int) hx hb hr hlocks (rfl) hP hD hS (Nat.le_of_ble_eq_true rfl) (Nat.le_of_ble_eq_true rfl) (rfl) dX10_plan_16
