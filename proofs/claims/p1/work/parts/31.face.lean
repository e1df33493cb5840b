set_option maxHeartbeats 4000000 in
set_option maxRecDepth 100000 in
theorem k_X10_fault (l : Launch) (g : GG) (L : List Nat) (f : HP) (sz : Nat) (x t dr co ot dp pn ch fr nw kp tr ac se tx rf tb pa : Nat) (w : Int32) (hm_x : x ∈ L) (hf_x : f x = .inr (9, [.ref t, .ref dr, .ref co, .ref ot, .ref dp, .ref pn, .ref ch, .ref fr, .ref nw, .ref kp, .ref tr, .ref ac, .ref se, .ref tx, .ref rf, .int 0, .int 0, .long 0])) (hm_t : t ∈ L) (hf_t : f t = .inr (8, [.ref tb, .int 0, .int 0, .int 0, .int 0])) (hm_dr : dr ∈ L) (hf_dr : f dr = .inr (2, [.int 0, .int 0, .int 0, .int 0, .int 0, .int 0, .int 0, .int 0])) (hm_dp : dp ∈ L) (hf_dp : f dp = .inr (5, [.ref pa, .int 0])) (hm_pa : pa ∈ L) (hf_pa : f pa = .inl (g.2.1 0, 100, .inl (fun _ => 0))) : MtI l g yX10_fault cX10_fault 2 (some .int) ({ frames := 5, cells := 0, slots := 0, locals := 109 }) [.ref x, .int w] L f sz (fun r _ => r = fltV w) := by
  refine MtI.of (by decide +kernel) (Nat.le_of_ble_eq_true rfl) ?_
  intro p e s m below meth c A hEn hP hD hS ls hl
  obtain ⟨hx, hb, hr, hml, hown, hlocks, hts, hG, hA, hE, hnm⟩ := hEn
  have hown : s.vm.findClass "RulerWord" = some m.cls := hown
  have hl : lv_has ls 2 [(0, .ref x), (1, .int w)] := hl
  refine lv_iload_n hx hb dX10_fault_0 rfl (lv_at hl 1 rfl) ?_
  by_cases c1 : w = 0
  ·
    subst c1
    refine lv_lookup (off := 27) (tgt := 28) hx hb dX10_fault_1 (by decide) (by decide) (by decide) ?_
    refine lv_aload_n hx hb dX10_fault_28 rfl (lv_at hl 0 rfl) ?_
    refine pl_get (v := .ref dr) hx hb hts (fun w h => mT (inX10 w h)) hown hG.1 hP hm_x hf_x rfl 1 (by decide) (hts _ (mT wg_476)) (fun _ h => h) rfl dX10_fault_29 ?_
    refine lv_aload_n hx hb dX10_fault_32 rfl (lv_at hl 0 rfl) ?_
    refine pl_get (v := .ref t) hx hb hts (fun w h => mT (inX10 w h)) hown hG.1 hP hm_x hf_x rfl 0 (by decide) (hts _ (mT wg_475)) (fun _ h => h) rfl dX10_fault_33 ?_
    refine call_i (run_VN (rm := { frames := 2, cells := 0, slots := 0, locals := 42 }) hx hb hml hown hts (k_X2_readFrom l g _ _ _ dr t tb hm_dr hf_dr hm_t hf_t) cV_X2_readFrom wn_550 ⟨Nat.le_of_ble_eq_true rfl, Nat.le_of_ble_eq_true rfl⟩ hG hE hA hP hD hS hm_dr hf_dr rfl rfl hl.1 (As := [.ref t]) (rest := []) rfl (Nat.le_of_ble_eq_true rfl) dX10_fault_36 ⟨Nat.le_of_ble_eq_true rfl, Nat.le_of_ble_eq_true rfl⟩) hA hD hS (fun r2 L3 f4 H locs hp5 hP hD hS => ?_)
    obtain ⟨hf6, hf7, er8, fr9, sb10⟩ := hp5
    have hf12 := (fr9 x hm_x (kne hf_x hf_dr (by decide)) (kne hf_x hf_t (by decide))).trans hf_x
    have hm11 := sb10 _ hm_x
    have hm13 := sb10 _ hm_t
    have hm14 := sb10 _ hm_dr
    have hf16 := (fr9 dp hm_dp (kne hf_dp hf_dr (by decide)) (kne hf_dp hf_t (by decide))).trans hf_dp
    have hm15 := sb10 _ hm_dp
    have hf18 := (fr9 pa hm_pa (kno hf_dr hf_pa).symm (kno hf_t hf_pa).symm).trans hf_pa
    have hm17 := sb10 _ hm_pa
    subst er8
    exact ret_i (ty := .int) hx hb hr hlocks (rfl) hP hD hS (Nat.le_of_ble_eq_true rfl) (Nat.le_of_ble_eq_true rfl) (by simp [fltV]) dX10_fault_39
  by_cases c19 : w = 1
  ·
    subst c19
    refine lv_lookup (off := 39) (tgt := 40) hx hb dX10_fault_1 (by decide) (by decide) (by decide) ?_
    refine lv_aload_n hx hb dX10_fault_40 rfl (lv_at hl 0 rfl) ?_
    refine pl_get (v := .ref dp) hx hb hts (fun w h => mT (inX10 w h)) hown hG.1 hP hm_x hf_x rfl 4 (by decide) (hts _ (mT wg_479)) (fun _ h => h) rfl dX10_fault_41 ?_
    refine lv_aload_n hx hb dX10_fault_44 rfl (lv_at hl 0 rfl) ?_
    refine pl_get (v := .ref t) hx hb hts (fun w h => mT (inX10 w h)) hown hG.1 hP hm_x hf_x rfl 0 (by decide) (hts _ (mT wg_475)) (fun _ h => h) rfl dX10_fault_45 ?_
    refine call_i (run_VN (rm := { frames := 4, cells := 0, slots := 0, locals := 87 }) hx hb hml hown hts (k_X5_readFrom l g _ _ _ dp t pa tb (fun _ => 0) hm_dp hf_dp hm_pa hf_pa hm_t hf_t) cV_X5_readFrom wn_676 ⟨Nat.le_of_ble_eq_true rfl, Nat.le_of_ble_eq_true rfl⟩ hG hE hA hP hD hS hm_dp hf_dp rfl rfl hl.1 (As := [.ref t]) (rest := []) rfl (Nat.le_of_ble_eq_true rfl) dX10_fault_48 ⟨Nat.le_of_ble_eq_true rfl, Nat.le_of_ble_eq_true rfl⟩) hA hD hS (fun r20 L21 f22 H locs hp23 hP hD hS => ?_)
    obtain ⟨r24, hf25, hf26, hf27, er28, fr29, sb30⟩ := hp23
    have hf32 := (fr29 x hm_x (kne hf_x hf_dp (by decide)) (kno hf_x hf_pa) (kne hf_x hf_t (by decide))).trans hf_x
    have hm31 := sb30 _ hm_x
    have hm33 := sb30 _ hm_t
    have hf35 := (fr29 dr hm_dr (kne hf_dr hf_dp (by decide)) (kno hf_dr hf_pa) (kne hf_dr hf_t (by decide))).trans hf_dr
    have hm34 := sb30 _ hm_dr
    have hm36 := sb30 _ hm_dp
    have hm37 := sb30 _ hm_pa
    subst er28
    exact ret_i (ty := .int) hx hb hr hlocks (rfl) hP hD hS (Nat.le_of_ble_eq_true rfl) (Nat.le_of_ble_eq_true rfl) (by simp [fltV]) dX10_fault_51
  refine lv_lookup (off := 51) (tgt := 52) hx hb dX10_fault_1 (by decide) (by simp [Op.lookupswitch.offset, ne_ti2 (k := 0) c1 (by decide), ne_ti2 (k := 1) c19 (by decide)]) (by decide) ?_
  refine lv_bipush (v := (-2)) hx hb dX10_fault_52 (by decide) ?_
  exact ret_i (ty := .int) hx hb hr hlocks (rfl) hP hD hS (Nat.le_of_ble_eq_true rfl) (Nat.le_of_ble_eq_true rfl) (by simp [fltV, c1, c19]) dX10_fault_54

set_option maxHeartbeats 4000000 in
set_option maxRecDepth 100000 in
theorem k_X10_council (l : Launch) (g : GG) (L : List Nat) (f : HP) (sz : Nat) (x t dr co ot dp pn ch fr nw kp tr ac se tx rf tb : Nat) (sd : Int64) (hm_x : x ∈ L) (hf_x : f x = .inr (9, [.ref t, .ref dr, .ref co, .ref ot, .ref dp, .ref pn, .ref ch, .ref fr, .ref nw, .ref kp, .ref tr, .ref ac, .ref se, .ref tx, .ref rf, .int 0, .int 0, .long 0])) (hm_t : t ∈ L) (hf_t : f t = .inr (8, [.ref tb, .int 0, .int 0, .int 0, .int 0])) (hm_dr : dr ∈ L) (hf_dr : f dr = .inr (2, [.int 0, .int 0, .int 0, .int 0, .int 0, .int 0, .int 0, .int 0])) : MtI l g yX10_council cX10_council 3 (some .int) ({ frames := 3, cells := 0, slots := 0, locals := 64 }) [.ref x, .long sd] L f sz (fun r _ => r = (-1)) := by
  refine MtI.of (by decide +kernel) (Nat.le_of_ble_eq_true rfl) ?_
  intro p e s m below meth c A hEn hP hD hS ls hl
  obtain ⟨hx, hb, hr, hml, hown, hlocks, hts, hG, hA, hE, hnm⟩ := hEn
  have hown : s.vm.findClass "RulerWord" = some m.cls := hown
  have hl : lv_has ls 3 [(0, .ref x), (1, .long sd)] := hl
  refine lv_aload_n hx hb dX10_council_0 rfl (lv_at hl 0 rfl) ?_
  refine pl_get (v := .ref dr) hx hb hts (fun w h => mT (inX10 w h)) hown hG.1 hP hm_x hf_x rfl 1 (by decide) (hts _ (mT wg_476)) (fun _ h => h) rfl dX10_council_1 ?_
  refine lv_aload_n hx hb dX10_council_4 rfl (lv_at hl 0 rfl) ?_
  refine pl_get (v := .ref t) hx hb hts (fun w h => mT (inX10 w h)) hown hG.1 hP hm_x hf_x rfl 0 (by decide) (hts _ (mT wg_475)) (fun _ h => h) rfl dX10_council_5 ?_
  refine call_i (run_VN (rm := { frames := 2, cells := 0, slots := 0, locals := 42 }) hx hb hml hown hts (k_X2_readFrom l g _ _ _ dr t tb hm_dr hf_dr hm_t hf_t) cV_X2_readFrom wn_550 ⟨Nat.le_of_ble_eq_true rfl, Nat.le_of_ble_eq_true rfl⟩ hG hE hA hP hD hS hm_dr hf_dr rfl rfl hl.1 (As := [.ref t]) (rest := []) rfl (Nat.le_of_ble_eq_true rfl) dX10_council_8 ⟨Nat.le_of_ble_eq_true rfl, Nat.le_of_ble_eq_true rfl⟩) hA hD hS (fun r1 L2 f3 H locs hp4 hP hD hS => ?_)
  obtain ⟨hf5, hf6, er7, fr8, sb9⟩ := hp4
  have hf11 := (fr8 x hm_x (kne hf_x hf_dr (by decide)) (kne hf_x hf_t (by decide))).trans hf_x
  have hm10 := sb9 _ hm_x
  have hm12 := sb9 _ hm_t
  have hm13 := sb9 _ hm_dr
  subst er7
  refine lv_iconst (v := (-1)) hx hb dX10_council_11 (by decide) ?_
  refine lv_icmp_eq (tgt := 17) hx hb dX10_council_12 (by decide) (fun c14 => absurd c14 (by decide)) (fun c14 => ?_)
  refine lv_iconst (v := (-1)) hx hb dX10_council_15 (by decide) ?_
  exact ret_i (ty := .int) hx hb hr hlocks (rfl) hP hD hS (Nat.le_of_ble_eq_true rfl) (Nat.le_of_ble_eq_true rfl) (rfl) dX10_council_16

set_option maxHeartbeats 4000000 in
set_option maxRecDepth 100000 in
theorem k_X10_feed (l : Launch) (g : GG) (L : List Nat) (f : HP) (sz : Nat) (x t dr co ot dp pn ch fr nw kp tr ac se tx rf tb : Nat) (a : Int32) (b : Int32) (c0 : Int32) (d : Int32) (e0 : Int32) (hm_x : x ∈ L) (hf_x : f x = .inr (9, [.ref t, .ref dr, .ref co, .ref ot, .ref dp, .ref pn, .ref ch, .ref fr, .ref nw, .ref kp, .ref tr, .ref ac, .ref se, .ref tx, .ref rf, .int 0, .int 0, .long 0])) (hm_t : t ∈ L) (hf_t : f t = .inr (8, [.ref tb, .int 0, .int 0, .int 0, .int 0])) (hm_tb : tb ∈ L) (hf_tb : f tb = .inl (g.2.1 0, 520, .inl (fun _ => 0))) : MtI l g yX10_feed cX10_feed 6 (some .int) ({ frames := 2, cells := 0, slots := 0, locals := 44 }) [.ref x, .int a, .int b, .int c0, .int d, .int e0] L f sz (fun r _ => r = fdU a b c0 d e0) := by
  refine MtI.of (by decide +kernel) (Nat.le_of_ble_eq_true rfl) ?_
  intro p e s m below meth c A hEn hP hD hS ls hl
  obtain ⟨hx, hb, hr, hml, hown, hlocks, hts, hG, hA, hE, hnm⟩ := hEn
  have hown : s.vm.findClass "RulerWord" = some m.cls := hown
  have hl : lv_has ls 6 [(0, .ref x), (1, .int a), (2, .int b), (3, .int c0), (4, .int d), (5, .int e0)] := hl
  refine lv_aload_n hx hb dX10_feed_0 rfl (lv_at hl 0 rfl) ?_
  refine pl_get (v := .ref t) hx hb hts (fun w h => mT (inX10 w h)) hown hG.1 hP hm_x hf_x rfl 0 (by decide) (hts _ (mT wg_475)) (fun _ h => h) rfl dX10_feed_1 ?_
  refine pl_getN (v := .int 0) hx hb hts (fun w h => mT (inX8 w h)) hown hG.1 hP hm_t hf_t rfl 1 (by decide) (hG.2.1 _ wn_197) (fun _ h => h) rfl dX10_feed_4 ?_
  refine lv_sipush (v := 500) hx hb dX10_feed_7 (by decide) ?_
  refine lv_icmp_le (tgt := 15) hx hb dX10_feed_10 (by decide) (fun c1 => ?_) (fun c1 => absurd (by decide) c1)
  refine lv_aload_n hx hb dX10_feed_15 rfl (lv_at hl 0 rfl) ?_
  refine pl_get (v := .ref t) hx hb hts (fun w h => mT (inX10 w h)) hown hG.1 hP hm_x hf_x rfl 0 (by decide) (hts _ (mT wg_475)) (fun _ h => h) rfl dX10_feed_16 ?_
  refine lv_iload_n hx hb dX10_feed_19 rfl (lv_at hl 1 rfl) ?_
  refine call_v (run_VN (rm := { frames := 1, cells := 0, slots := 0, locals := 21 }) hx hb hml hown hts (k_X8_put l g _ _ _ t tb a 0 0 0 0 (fun _ => 0) hm_t hf_t hm_tb hf_tb ((Bd.z).mono (by decide))) cV_X8_put wn_534 ⟨Nat.le_of_ble_eq_true rfl, Nat.le_of_ble_eq_true rfl⟩ hG hE hA hP hD hS hm_t hf_t rfl rfl hl.1 (As := [.int a]) (rest := []) rfl (Nat.le_of_ble_eq_true rfl) dX10_feed_20 ⟨Nat.le_of_ble_eq_true rfl, Nat.le_of_ble_eq_true rfl⟩) hA hD hS (fun L3 f4 H locs hp5 hP hD hS => ?_)
  obtain ⟨r6, hf7, hf8, fr9, sb10⟩ := hp5
  have hf12 := (fr9 x hm_x (kne hf_x hf_t (by decide)) (kno hf_x hf_tb)).trans hf_x
  have hm11 := sb10 _ hm_x
  have hm13 := sb10 _ hm_t
  have hm14 := sb10 _ hm_tb
  refine lv_aload_n hx hb dX10_feed_23 rfl (lv_at hl 0 rfl) ?_
  refine pl_get (v := .ref t) hx hb hts (fun w h => mT (inX10 w h)) hown hG.1 hP hm11 hf12 rfl 0 (by decide) (hts _ (mT wg_475)) (fun _ h => h) rfl dX10_feed_24 ?_
  refine lv_iload_n hx hb dX10_feed_27 rfl (lv_at hl 2 rfl) ?_
  refine call_v (run_VN (rm := { frames := 1, cells := 0, slots := 0, locals := 21 }) hx hb hml hown hts (k_X8_put l g _ _ _ t tb b (l4U 0 a) 0 0 0 (r6) hm13 hf7 hm14 hf8 (((Bd.lU Bd.z (by omega))).mono (by decide))) cV_X8_put wn_534 ⟨Nat.le_of_ble_eq_true rfl, Nat.le_of_ble_eq_true rfl⟩ hG hE hA hP hD hS hm13 hf7 rfl rfl hl.1 (As := [.int b]) (rest := []) rfl (Nat.le_of_ble_eq_true rfl) dX10_feed_28 ⟨Nat.le_of_ble_eq_true rfl, Nat.le_of_ble_eq_true rfl⟩) hA hD hS (fun L16 f17 H locs hp18 hP hD hS => ?_)
  obtain ⟨r19, hf20, hf21, fr22, sb23⟩ := hp18
  have hf25 := (fr22 x hm11 (kne hf12 hf7 (by decide)) (kno hf12 hf8)).trans hf12
  have hm24 := sb23 _ hm11
  have hm26 := sb23 _ hm13
  have hm27 := sb23 _ hm14
  refine lv_aload_n hx hb dX10_feed_31 rfl (lv_at hl 0 rfl) ?_
  refine pl_get (v := .ref t) hx hb hts (fun w h => mT (inX10 w h)) hown hG.1 hP hm24 hf25 rfl 0 (by decide) (hts _ (mT wg_475)) (fun _ h => h) rfl dX10_feed_32 ?_
  refine lv_iload_n hx hb dX10_feed_35 rfl (lv_at hl 3 rfl) ?_
  refine call_v (run_VN (rm := { frames := 1, cells := 0, slots := 0, locals := 21 }) hx hb hml hown hts (k_X8_put l g _ _ _ t tb c0 (l4U (l4U 0 a) b) 0 0 0 (r19) hm26 hf20 hm27 hf21 (((Bd.lU (Bd.lU Bd.z (by omega)) (by omega))).mono (by decide))) cV_X8_put wn_534 ⟨Nat.le_of_ble_eq_true rfl, Nat.le_of_ble_eq_true rfl⟩ hG hE hA hP hD hS hm26 hf20 rfl rfl hl.1 (As := [.int c0]) (rest := []) rfl (Nat.le_of_ble_eq_true rfl) dX10_feed_36 ⟨Nat.le_of_ble_eq_true rfl, Nat.le_of_ble_eq_true rfl⟩) hA hD hS (fun L29 f30 H locs hp31 hP hD hS => ?_)
  obtain ⟨r32, hf33, hf34, fr35, sb36⟩ := hp31
  have hf38 := (fr35 x hm24 (kne hf25 hf20 (by decide)) (kno hf25 hf21)).trans hf25
  have hm37 := sb36 _ hm24
  have hm39 := sb36 _ hm26
  have hm40 := sb36 _ hm27
  refine lv_aload_n hx hb dX10_feed_39 rfl (lv_at hl 0 rfl) ?_
  refine pl_get (v := .ref t) hx hb hts (fun w h => mT (inX10 w h)) hown hG.1 hP hm37 hf38 rfl 0 (by decide) (hts _ (mT wg_475)) (fun _ h => h) rfl dX10_feed_40 ?_
  refine lv_iload hx hb dX10_feed_43 (lv_at hl 4 rfl) ?_
  refine call_v (run_VN (rm := { frames := 1, cells := 0, slots := 0, locals := 21 }) hx hb hml hown hts (k_X8_put l g _ _ _ t tb d (l4U (l4U (l4U 0 a) b) c0) 0 0 0 (r32) hm39 hf33 hm40 hf34 (((Bd.lU (Bd.lU (Bd.lU Bd.z (by omega)) (by omega)) (by omega))).mono (by decide))) cV_X8_put wn_534 ⟨Nat.le_of_ble_eq_true rfl, Nat.le_of_ble_eq_true rfl⟩ hG hE hA hP hD hS hm39 hf33 rfl rfl hl.1 (As := [.int d]) (rest := []) rfl (Nat.le_of_ble_eq_true rfl) dX10_feed_45 ⟨Nat.le_of_ble_eq_true rfl, Nat.le_of_ble_eq_true rfl⟩) hA hD hS (fun L42 f43 H locs hp44 hP hD hS => ?_)
  obtain ⟨r45, hf46, hf47, fr48, sb49⟩ := hp44
  have hf51 := (fr48 x hm37 (kne hf38 hf33 (by decide)) (kno hf38 hf34)).trans hf38
  have hm50 := sb49 _ hm37
  have hm52 := sb49 _ hm39
  have hm53 := sb49 _ hm40
  refine lv_aload_n hx hb dX10_feed_48 rfl (lv_at hl 0 rfl) ?_
  refine pl_get (v := .ref t) hx hb hts (fun w h => mT (inX10 w h)) hown hG.1 hP hm50 hf51 rfl 0 (by decide) (hts _ (mT wg_475)) (fun _ h => h) rfl dX10_feed_49 ?_
  refine lv_iload hx hb dX10_feed_52 (lv_at hl 5 rfl) ?_
  refine call_v (run_VN (rm := { frames := 1, cells := 0, slots := 0, locals := 21 }) hx hb hml hown hts (k_X8_put l g _ _ _ t tb e0 (l4U (l4U (l4U (l4U 0 a) b) c0) d) 0 0 0 (r45) hm52 hf46 hm53 hf47 (((Bd.lU (Bd.lU (Bd.lU (Bd.lU Bd.z (by omega)) (by omega)) (by omega)) (by omega))).mono (by decide))) cV_X8_put wn_534 ⟨Nat.le_of_ble_eq_true rfl, Nat.le_of_ble_eq_true rfl⟩ hG hE hA hP hD hS hm52 hf46 rfl rfl hl.1 (As := [.int e0]) (rest := []) rfl (Nat.le_of_ble_eq_true rfl) dX10_feed_54 ⟨Nat.le_of_ble_eq_true rfl, Nat.le_of_ble_eq_true rfl⟩) hA hD hS (fun L55 f56 H locs hp57 hP hD hS => ?_)
  obtain ⟨r58, hf59, hf60, fr61, sb62⟩ := hp57
  have hf64 := (fr61 x hm50 (kne hf51 hf46 (by decide)) (kno hf51 hf47)).trans hf51
  have hm63 := sb62 _ hm50
  have hm65 := sb62 _ hm52
  have hm66 := sb62 _ hm53
  refine lv_aload_n hx hb dX10_feed_57 rfl (lv_at hl 0 rfl) ?_
  refine pl_get (v := .ref t) hx hb hts (fun w h => mT (inX10 w h)) hown hG.1 hP hm63 hf64 rfl 0 (by decide) (hts _ (mT wg_475)) (fun _ h => h) rfl dX10_feed_58 ?_
  refine pl_getN (v := .int (l4U (l4U (l4U (l4U (l4U 0 a) b) c0) d) e0)) hx hb hts (fun w h => mT (inX8 w h)) hown hG.1 hP hm65 hf59 rfl 1 (by decide) (hG.2.1 _ wn_197) (fun _ h => h) rfl dX10_feed_61 ?_
  exact ret_i (ty := .int) hx hb hr hlocks (rfl) hP hD hS (Nat.le_of_ble_eq_true rfl) (Nat.le_of_ble_eq_true rfl) (rfl) dX10_feed_64

set_option maxHeartbeats 4000000 in
set_option maxRecDepth 100000 in
theorem k_X10_plan (l : Launch) (g : GG) (L : List Nat) (f : HP) (sz : Nat) (x t dr co ot dp pn ch fr nw kp tr ac se tx rf tb pa : Nat) (hm_x : x ∈ L) (hf_x : f x = .inr (9, [.ref t, .ref dr, .ref co, .ref ot, .ref dp, .ref pn, .ref ch, .ref fr, .ref nw, .ref kp, .ref tr, .ref ac, .ref se, .ref tx, .ref rf, .int 0, .int 0, .long 0])) (hm_t : t ∈ L) (hf_t : f t = .inr (8, [.ref tb, .int 0, .int 0, .int 0, .int 0])) (hm_dp : dp ∈ L) (hf_dp : f dp = .inr (5, [.ref pa, .int 0])) (hm_pa : pa ∈ L) (hf_pa : f pa = .inl (g.2.1 0, 100, .inl (fun _ => 0))) : MtI l g yX10_plan cX10_plan 1 (some .int) ({ frames := 5, cells := 0, slots := 0, locals := 109 }) [.ref x] L f sz (fun r _ => r = (-1)) := by
  refine MtI.of (by decide +kernel) (Nat.le_of_ble_eq_true rfl) ?_
  intro p e s m below meth c A hEn hP hD hS ls hl
  obtain ⟨hx, hb, hr, hml, hown, hlocks, hts, hG, hA, hE, hnm⟩ := hEn
  have hown : s.vm.findClass "RulerWord" = some m.cls := hown
  have hl : lv_has ls 1 [(0, .ref x)] := hl
  refine lv_aload_n hx hb dX10_plan_0 rfl (lv_at hl 0 rfl) ?_
  refine pl_get (v := .ref dp) hx hb hts (fun w h => mT (inX10 w h)) hown hG.1 hP hm_x hf_x rfl 4 (by decide) (hts _ (mT wg_479)) (fun _ h => h) rfl dX10_plan_1 ?_
  refine lv_aload_n hx hb dX10_plan_4 rfl (lv_at hl 0 rfl) ?_
  refine pl_get (v := .ref t) hx hb hts (fun w h => mT (inX10 w h)) hown hG.1 hP hm_x hf_x rfl 0 (by decide) (hts _ (mT wg_475)) (fun _ h => h) rfl dX10_plan_5 ?_
  refine call_i (run_VN (rm := { frames := 4, cells := 0, slots := 0, locals := 87 }) hx hb hml hown hts (k_X5_readFrom l g _ _ _ dp t pa tb (fun _ => 0) hm_dp hf_dp hm_pa hf_pa hm_t hf_t) cV_X5_readFrom wn_676 ⟨Nat.le_of_ble_eq_true rfl, Nat.le_of_ble_eq_true rfl⟩ hG hE hA hP hD hS hm_dp hf_dp rfl rfl hl.1 (As := [.ref t]) (rest := []) rfl (Nat.le_of_ble_eq_true rfl) dX10_plan_8 ⟨Nat.le_of_ble_eq_true rfl, Nat.le_of_ble_eq_true rfl⟩) hA hD hS (fun r1 L2 f3 H locs hp4 hP hD hS => ?_)
  obtain ⟨r5, hf6, hf7, hf8, er9, fr10, sb11⟩ := hp4
  have hf13 := (fr10 x hm_x (kne hf_x hf_dp (by decide)) (kno hf_x hf_pa) (kne hf_x hf_t (by decide))).trans hf_x
  have hm12 := sb11 _ hm_x
  have hm14 := sb11 _ hm_t
  have hm15 := sb11 _ hm_dp
  have hm16 := sb11 _ hm_pa
  subst er9
  refine lv_iconst (v := (-1)) hx hb dX10_plan_11 (by decide) ?_
  refine lv_icmp_eq (tgt := 17) hx hb dX10_plan_12 (by decide) (fun c17 => absurd c17 (by decide)) (fun c17 => ?_)
  refine lv_iconst (v := (-1)) hx hb dX10_plan_15 (by decide) ?_
  exact ret_i (ty := .int) hx hb hr hlocks (rfl) hP hD hS (Nat.le_of_ble_eq_true rfl) (Nat.le_of_ble_eq_true rfl) (rfl) dX10_plan_16
