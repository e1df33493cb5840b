set_option maxHeartbeats 4000000 in
set_option maxRecDepth 100000 in
theorem k_X10_round (l : Launch) (g : GG) (L : List Nat) (f : HP) (sz : Nat) (x t dr co ot dp pn ch fr nw kp tr ac se tx rf : Nat) (hm_x : x ∈ L) (hf_x : f x = .inr (9, [.ref t, .ref dr, .ref co, .ref ot, .ref dp, .ref pn, .ref ch, .ref fr, .ref nw, .ref kp, .ref tr, .ref ac, .ref se, .ref tx, .ref rf, .int 0, .int 0, .long 0])) : MtI l g yX10_round cX10_round 1 (some .int) ({ frames := 1, cells := 0, slots := 0, locals := 20 }) [.ref x] L f sz (fun r _ => r = (-1)) := by
  refine MtI.of (by decide +kernel) (Nat.le_of_ble_eq_true rfl) ?_
  intro p e s m below meth c A hEn hP hD hS ls hl
  obtain ⟨hx, hb, hr, hml, hown, hlocks, hts, hG, hA, hE, hnm⟩ := hEn
  have hown : s.vm.findClass "RulerWord" = some m.cls := hown
  have hl : lv_has ls 1 [(0, .ref x)] := hl
  refine lv_aload_n hx hb dX10_round_0 rfl (lv_at hl 0 rfl) ?_
  refine call_i (run_V (rm := { frames := 0, cells := 0, slots := 0, locals := 0 }) hx hb hml hown hts (k_X10_roundsLeft l g _ _ _ x t dr co ot dp pn ch fr nw kp tr ac se tx rf hm_x hf_x) cV_X10_roundsLeft wg_751 ⟨Nat.le_of_ble_eq_true rfl, Nat.le_of_ble_eq_true rfl⟩ hG hE hA hP hD hS hm_x hf_x rfl rfl hl.1 (As := []) (rest := []) rfl (Nat.le_of_ble_eq_true rfl) dX10_round_1 ⟨Nat.le_of_ble_eq_true rfl, Nat.le_of_ble_eq_true rfl⟩) hA hD hS (fun r1 L2 f3 H locs hp4 hP hD hS => ?_)
  obtain ⟨er5a, er5b, er5⟩ : L2 = _ ∧ f3 = _ ∧ r1 = 0 := hp4
  rw [er5a, er5b] at hP hD
  subst er5
  refine lv_iconst (v := 1) hx hb dX10_round_4 (by decide) ?_
  refine lv_icmp_ge (tgt := 10) hx hb dX10_round_5 (by decide) (fun c6 => absurd c6 (by decide)) (fun c6 => ?_)
  refine lv_iconst (v := (-1)) hx hb dX10_round_8 (by decide) ?_
  exact ret_i (ty := .int) hx hb hr hlocks (rfl) hP hD hS (Nat.le_of_ble_eq_true rfl) (Nat.le_of_ble_eq_true rfl) (rfl) dX10_round_9

set_option maxHeartbeats 4000000 in
set_option maxRecDepth 100000 in
theorem k_X10_run (l : Launch) (g : GG) (L : List Nat) (f : HP) (sz : Nat) (x t dr co ot dp pn ch fr nw kp tr ac se tx rf : Nat) (hm_x : x ∈ L) (hf_x : f x = .inr (9, [.ref t, .ref dr, .ref co, .ref ot, .ref dp, .ref pn, .ref ch, .ref fr, .ref nw, .ref kp, .ref tr, .ref ac, .ref se, .ref tx, .ref rf, .int 0, .int 0, .long 0])) : MtI l g yX10_run cX10_run 3 (some .int) ({ frames := 1, cells := 0, slots := 0, locals := 20 }) [.ref x] L f sz (fun r _ => r = (-1)) := by
  refine MtI.of (by decide +kernel) (Nat.le_of_ble_eq_true rfl) ?_
  intro p e s m below meth c A hEn hP hD hS ls hl
  obtain ⟨hx, hb, hr, hml, hown, hlocks, hts, hG, hA, hE, hnm⟩ := hEn
  have hown : s.vm.findClass "RulerWord" = some m.cls := hown
  have hl : lv_has ls 3 [(0, .ref x)] := hl
  refine lv_aload_n hx hb dX10_run_0 rfl (lv_at hl 0 rfl) ?_
  refine call_i (run_V (rm := { frames := 0, cells := 0, slots := 0, locals := 0 }) hx hb hml hown hts (k_X10_roundsLeft l g _ _ _ x t dr co ot dp pn ch fr nw kp tr ac se tx rf hm_x hf_x) cV_X10_roundsLeft wg_751 ⟨Nat.le_of_ble_eq_true rfl, Nat.le_of_ble_eq_true rfl⟩ hG hE hA hP hD hS hm_x hf_x rfl rfl hl.1 (As := []) (rest := []) rfl (Nat.le_of_ble_eq_true rfl) dX10_run_1 ⟨Nat.le_of_ble_eq_true rfl, Nat.le_of_ble_eq_true rfl⟩) hA hD hS (fun r1 L2 f3 H locs hp4 hP hD hS => ?_)
  obtain ⟨er5a, er5b, er5⟩ : L2 = _ ∧ f3 = _ ∧ r1 = 0 := hp4
  rw [er5a, er5b] at hP hD
  subst er5
  refine lv_istore_n (lv' := [(1, .int 0), (0, .ref x)]) hx hb dX10_run_4 rfl hl (by decide) rfl (fun ls hl => ?_)
  refine lv_iload_n hx hb dX10_run_5 rfl (lv_at hl 0 rfl) ?_
  refine lv_iconst (v := 1) hx hb dX10_run_6 (by decide) ?_
  refine lv_icmp_ge (tgt := 12) hx hb dX10_run_7 (by decide) (fun c6 => absurd c6 (by decide)) (fun c6 => ?_)
  refine lv_iconst (v := (-1)) hx hb dX10_run_10 (by decide) ?_
  exact ret_i (ty := .int) hx hb hr hlocks (rfl) hP hD hS (Nat.le_of_ble_eq_true rfl) (Nat.le_of_ble_eq_true rfl) (rfl) dX10_run_11

set_option maxHeartbeats 4000000 in
set_option maxRecDepth 100000 in
theorem k_X10_peer (l : Launch) (g : GG) (L : List Nat) (f : HP) (sz : Nat) (x t dr co ot dp pn ch fr nw kp tr ac se tx rf : Nat) (i : Int32) (w : Int32) (hm_x : x ∈ L) (hf_x : f x = .inr (9, [.ref t, .ref dr, .ref co, .ref ot, .ref dp, .ref pn, .ref ch, .ref fr, .ref nw, .ref kp, .ref tr, .ref ac, .ref se, .ref tx, .ref rf, .int 0, .int 0, .long 0])) : MtI l g yX10_peer cX10_peer 3 (some .int) ({ frames := 1, cells := 0, slots := 0, locals := 21 }) [.ref x, .int i, .int w] L f sz (fun r _ => r = (-1)) := by
  refine MtI.of (by decide +kernel) (Nat.le_of_ble_eq_true rfl) ?_
  intro p e s m below meth c A hEn hP hD hS ls hl
  obtain ⟨hx, hb, hr, hml, hown, hlocks, hts, hG, hA, hE, hnm⟩ := hEn
  have hown : s.vm.findClass "RulerWord" = some m.cls := hown
  have hl : lv_has ls 3 [(0, .ref x), (1, .int i), (2, .int w)] := hl
  refine lv_aload_n hx hb dX10_peer_0 rfl (lv_at hl 0 rfl) ?_
  refine lv_iload_n hx hb dX10_peer_1 rfl (lv_at hl 1 rfl) ?_
  refine call_i (run_V (rm := { frames := 0, cells := 0, slots := 0, locals := 0 }) hx hb hml hown hts (k_X10_isPeer l g _ _ _ x t dr co ot dp pn ch fr nw kp tr ac se tx rf i hm_x hf_x) cV_X10_isPeer wg_897 ⟨Nat.le_of_ble_eq_true rfl, Nat.le_of_ble_eq_true rfl⟩ hG hE hA hP hD hS hm_x hf_x rfl rfl hl.1 (As := [.int i]) (rest := []) rfl (Nat.le_of_ble_eq_true rfl) dX10_peer_2 ⟨Nat.le_of_ble_eq_true rfl, Nat.le_of_ble_eq_true rfl⟩) hA hD hS (fun r1 L2 f3 H locs hp4 hP hD hS => ?_)
  obtain ⟨er5a, er5b, er5⟩ : L2 = _ ∧ f3 = _ ∧ r1 = 0 := hp4
  rw [er5a, er5b] at hP hD
  subst er5
  refine lv_if_ne (tgt := 10) hx hb dX10_peer_5 (by decide) (fun c6 => absurd rfl c6) (fun c6 => ?_)
  refine lv_iconst (v := (-1)) hx hb dX10_peer_8 (by decide) ?_
  exact ret_i (ty := .int) hx hb hr hlocks (rfl) hP hD hS (Nat.le_of_ble_eq_true rfl) (Nat.le_of_ble_eq_true rfl) (rfl) dX10_peer_9

set_option maxHeartbeats 4000000 in
set_option maxRecDepth 100000 in
theorem k_X10_end (l : Launch) (g : GG) (L : List Nat) (f : HP) (sz : Nat) (x t dr co ot dp pn ch fr nw kp tr ac se tx rf tb : Nat) (n : Int32) (hm_x : x ∈ L) (hf_x : f x = .inr (9, [.ref t, .ref dr, .ref co, .ref ot, .ref dp, .ref pn, .ref ch, .ref fr, .ref nw, .ref kp, .ref tr, .ref ac, .ref se, .ref tx, .ref rf, .int 0, .int 0, .long 0])) (hm_t : t ∈ L) (hf_t : f t = .inr (8, [.ref tb, .int 0, .int 0, .int 0, .int 0])) : MtI l g yX10_end cX10_end 2 (some .boolean) ({ frames := 0, cells := 0, slots := 0, locals := 0 }) [.ref x, .int n] L f sz (fun r _ => r = endV n) := by
  refine MtI.of (by decide +kernel) (Nat.le_of_ble_eq_true rfl) ?_
  intro p e s m below meth c A hEn hP hD hS ls hl
  obtain ⟨hx, hb, hr, hml, hown, hlocks, hts, hG, hA, hE, hnm⟩ := hEn
  have hown : s.vm.findClass "RulerWord" = some m.cls := hown
  have hl : lv_has ls 2 [(0, .ref x), (1, .int n)] := hl
  refine lv_iload_n hx hb dX10_end_0 rfl (lv_at hl 1 rfl) ?_
  refine lv_if_lt (tgt := 15) hx hb dX10_end_1 (by decide) (fun c1 => ?_) (fun c1 => ?_)
  ·
    refine lv_iconst (v := 0) hx hb dX10_end_15 (by decide) ?_
    exact ret_i (ty := .boolean) hx hb hr hlocks (rfl) hP hD hS (Nat.le_of_ble_eq_true rfl) (Nat.le_of_ble_eq_true rfl) (by simp [endV, c1]) dX10_end_16
  ·
    refine lv_iload_n hx hb dX10_end_4 rfl (lv_at hl 1 rfl) ?_
    refine lv_aload_n hx hb dX10_end_5 rfl (lv_at hl 0 rfl) ?_
    refine pl_get (v := .ref t) hx hb hts (fun w h => mT (inX10 w h)) hown hG.1 hP hm_x hf_x rfl 0 (by decide) (hts _ (mT wg_475)) (fun _ h => h) rfl dX10_end_6 ?_
    refine pl_getN (v := .int 0) hx hb hts (fun w h => mT (inX8 w h)) hown hG.1 hP hm_t hf_t rfl 1 (by decide) (hG.2.1 _ wn_197) (fun _ h => h) rfl dX10_end_9 ?_
    refine lv_icmp_le (tgt := 17) hx hb dX10_end_12 (by decide) (fun c2 => ?_) (fun c2 => ?_)
    ·
      refine lv_aload_n hx hb dX10_end_17 rfl (lv_at hl 0 rfl) ?_
      refine pl_get (v := .ref t) hx hb hts (fun w h => mT (inX10 w h)) hown hG.1 hP hm_x hf_x rfl 0 (by decide) (hts _ (mT wg_475)) (fun _ h => h) rfl dX10_end_18 ?_
      refine lv_iload_n hx hb dX10_end_21 rfl (lv_at hl 1 rfl) ?_
      refine pl_putN (ty := .int) (v := .int n) (fs' := [.ref tb, .int n, .int 0, .int 0, .int 0]) hx hb hts (fun w h => mT (inX8 w h)) tyX8 tyX8_ok nmX8 hown hG.1 hP hD hS hm_t hf_t rfl 1 (by decide) (hG.2.1 _ wn_197) (fun _ h => h) rfl (by decide +kernel) (rfl) (rfl) (Nat.le_of_ble_eq_true rfl) rfl dX10_end_22 (fun H locs f3 hf5 ho4 hP hD hS => ?_)
      have hf6 := (ho4 x (kne hf_x hf_t (by decide))).trans hf_x
      refine lv_iconst (v := 1) hx hb dX10_end_25 (by decide) ?_
      exact ret_i (ty := .boolean) hx hb hr hlocks (rfl) hP hD hS (Nat.le_of_ble_eq_true rfl) (Nat.le_of_ble_eq_true rfl) (by simp [endV, c1, c2]) dX10_end_26
    ·
      refine lv_iconst (v := 0) hx hb dX10_end_15 (by decide) ?_
      exact ret_i (ty := .boolean) hx hb hr hlocks (rfl) hP hD hS (Nat.le_of_ble_eq_true rfl) (Nat.le_of_ble_eq_true rfl) (by simp [endV, c1, c2]) dX10_end_16

set_option maxHeartbeats 4000000 in
set_option maxRecDepth 100000 in
theorem k_X10_rule (l : Launch) (g : GG) (L : List Nat) (f : HP) (sz : Nat) (x t dr co ot dp pn ch fr nw kp tr ac se tx rf pl pb : Nat) (w : Int32) (hm_x : x ∈ L) (hf_x : f x = .inr (9, [.ref t, .ref dr, .ref co, .ref ot, .ref dp, .ref pn, .ref ch, .ref fr, .ref nw, .ref kp, .ref tr, .ref ac, .ref se, .ref tx, .ref rf, .int 0, .int 0, .long 0])) (hm_pn : pn ∈ L) (hf_pn : f pn = .inr (6, [.int 0, .int 0, .ref pl])) (hm_pl : pl ∈ L) (hf_pl : f pl = .inr (5, [.ref pb, .int 0])) : MtI l g yX10_rule cX10_rule 2 (some .int) ({ frames := 0, cells := 0, slots := 0, locals := 0 }) [.ref x, .int w] L f sz (fun r _ => r = ruleV w) := by
  refine MtI.of (by decide +kernel) (Nat.le_of_ble_eq_true rfl) ?_
  intro p e s m below meth c A hEn hP hD hS ls hl
  obtain ⟨hx, hb, hr, hml, hown, hlocks, hts, hG, hA, hE, hnm⟩ := hEn
  have hown : s.vm.findClass "RulerWord" = some m.cls := hown
  have hl : lv_has ls 2 [(0, .ref x), (1, .int w)] := hl
  refine lv_iload_n hx hb dX10_rule_0 rfl (lv_at hl 1 rfl) ?_
  refine lv_bipush (v := 10) hx hb dX10_rule_1 (by decide) ?_
  refine lv_icmp_ne (tgt := 17) hx hb dX10_rule_3 (by decide) (fun c1 => ?_) (fun c1 => ?_)
  ·
    refine lv_aload_n hx hb dX10_rule_17 rfl (lv_at hl 0 rfl) ?_
    refine pl_get (v := .int 0) hx hb hts (fun w h => mT (inX10 w h)) hown hG.1 hP hm_x hf_x rfl 15 (by decide) (hts _ (mT wg_490)) (fun _ h => h) rfl dX10_rule_18 ?_
    refine lv_if_ne (tgt := 27) hx hb dX10_rule_21 (by decide) (fun c2 => absurd rfl c2) (fun c2 => ?_)
    refine lv_ldc hx hb hown (hts _ (mT wg_733)) dX10_rule_24 ?_
    exact ret_i (ty := .int) hx hb hr hlocks (rfl) hP hD hS (Nat.le_of_ble_eq_true rfl) (Nat.le_of_ble_eq_true rfl) (by simp [ruleV, c1]) dX10_rule_26
  ·
    refine lv_aload_n hx hb dX10_rule_6 rfl (lv_at hl 0 rfl) ?_
    refine pl_get (v := .ref pn) hx hb hts (fun w h => mT (inX10 w h)) hown hG.1 hP hm_x hf_x rfl 5 (by decide) (hts _ (mT wg_480)) (fun _ h => h) rfl dX10_rule_7 ?_
    refine pl_getN (v := .ref pl) hx hb hts (fun w h => mT (inX6 w h)) hown hG.1 hP hm_pn hf_pn rfl 2 (by decide) (hG.2.1 _ wn_289) (fun _ h => h) rfl dX10_rule_10 ?_
    refine pl_getN (v := .int 0) hx hb hts (fun w h => mT (inX5 w h)) hown hG.1 hP hm_pl hf_pl rfl 1 (by decide) (hG.2.1 _ wn_271) (fun _ h => h) rfl dX10_rule_13 ?_
    exact ret_i (ty := .int) hx hb hr hlocks (rfl) hP hD hS (Nat.le_of_ble_eq_true rfl) (Nat.le_of_ble_eq_true rfl) (by simp [ruleV, c1]) dX10_rule_16

set_option maxHeartbeats 4000000 in
set_option maxRecDepth 100000 in
theorem k_X10_say (l : Launch) (g : GG) (L : List Nat) (f : HP) (sz : Nat) (x t dr co ot dp pn ch fr nw kp tr ac se tx rf : Nat) (a1 : Int32) (a2 : Int32) (a3 : Int32) (a4 : Int32) (a5 : Int32) (hm_x : x ∈ L) (hf_x : f x = .inr (9, [.ref t, .ref dr, .ref co, .ref ot, .ref dp, .ref pn, .ref ch, .ref fr, .ref nw, .ref kp, .ref tr, .ref ac, .ref se, .ref tx, .ref rf, .int 0, .int 0, .long 0])) (hm_rf : rf ∈ L) (hf_rf : f rf = .inl (g.2.1 0, 5, .inl (fun _ => 0))) : MtI l g yX10_say cX10_say 7 (some .int) ({ frames := 1, cells := 0, slots := 0, locals := 25 }) [.ref x, .int a1, .int a2, .int a3, .int a4, .int a5] L f sz (fun r _ => r = (-1)) := by
  refine MtI.of (by decide +kernel) (Nat.le_of_ble_eq_true rfl) ?_
  intro p e s m below meth c A hEn hP hD hS ls hl
  obtain ⟨hx, hb, hr, hml, hown, hlocks, hts, hG, hA, hE, hnm⟩ := hEn
  have hown : s.vm.findClass "RulerWord" = some m.cls := hown
  have hl : lv_has ls 7 [(0, .ref x), (1, .int a1), (2, .int a2), (3, .int a3), (4, .int a4), (5, .int a5)] := hl
  refine lv_aload_n hx hb dX10_say_0 rfl (lv_at hl 0 rfl) ?_
  refine lv_iload_n hx hb dX10_say_1 rfl (lv_at hl 1 rfl) ?_
  refine lv_iload_n hx hb dX10_say_2 rfl (lv_at hl 2 rfl) ?_
  refine lv_iload_n hx hb dX10_say_3 rfl (lv_at hl 3 rfl) ?_
  refine lv_iload hx hb dX10_say_4 (lv_at hl 4 rfl) ?_
  refine lv_iload hx hb dX10_say_6 (lv_at hl 5 rfl) ?_
  refine call_i (run_V (rm := { frames := 0, cells := 0, slots := 0, locals := 0 }) hx hb hml hown hts (k_X10_whyNotSaid l g _ _ _ x t dr co ot dp pn ch fr nw kp tr ac se tx rf a1 a2 a3 a4 a5 hm_x hf_x) cV_X10_whyNotSaid wg_889 ⟨Nat.le_of_ble_eq_true rfl, Nat.le_of_ble_eq_true rfl⟩ hG hE hA hP hD hS hm_x hf_x rfl rfl hl.1 (As := [.int a1, .int a2, .int a3, .int a4, .int a5]) (rest := []) rfl (Nat.le_of_ble_eq_true rfl) dX10_say_8 ⟨Nat.le_of_ble_eq_true rfl, Nat.le_of_ble_eq_true rfl⟩) hA hD hS (fun r1 L2 f3 H locs hp4 hP hD hS => ?_)
  obtain ⟨er5a, er5b, er5⟩ : L2 = _ ∧ f3 = _ ∧ r1 = 0 := hp4
  rw [er5a, er5b] at hP hD
  subst er5
  refine lv_istore (lv' := [(6, .int 0), (0, .ref x), (1, .int a1), (2, .int a2), (3, .int a3), (4, .int a4), (5, .int a5)]) hx hb dX10_say_11 hl (by decide) rfl (fun ls hl => ?_)
  refine lv_iload hx hb dX10_say_13 (lv_at hl 0 rfl) ?_
  refine lv_iconst (v := (-1)) hx hb dX10_say_15 (by decide) ?_
  refine lv_icmp_eq (tgt := 26) hx hb dX10_say_16 (by decide) (fun c6 => absurd c6 (by decide)) (fun c6 => ?_)
  refine lv_aload_n hx hb dX10_say_19 rfl (lv_at hl 1 rfl) ?_
  refine lv_iload hx hb dX10_say_20 (lv_at hl 0 rfl) ?_
  refine call_i (run_V (rm := { frames := 0, cells := 0, slots := 0, locals := 0 }) hx hb hml hown hts (k_X10_refuse l g _ _ _ x t dr co ot dp pn ch fr nw kp tr ac se tx rf hm_x hf_x hm_rf hf_rf) cV_X10_refuse wg_906 ⟨Nat.le_of_ble_eq_true rfl, Nat.le_of_ble_eq_true rfl⟩ hG hE hA hP hD hS hm_x hf_x rfl rfl hl.1 (As := [.int 0]) (rest := []) rfl (Nat.le_of_ble_eq_true rfl) dX10_say_22 ⟨Nat.le_of_ble_eq_true rfl, Nat.le_of_ble_eq_true rfl⟩) hA hD hS (fun r7 L8 f9 H locs hp10 hP hD hS => ?_)
  have er11 : r7 = (-1) := hp10
  subst er11
  exact ret_i (ty := .int) hx hb hr hlocks (rfl) hP hD hS (Nat.le_of_ble_eq_true rfl) (Nat.le_of_ble_eq_true rfl) (rfl) dX10_say_25

set_option maxHeartbeats 4000000 in
set_option maxRecDepth 100000 in
theorem k_X10_starts (l : Launch) (g : GG) (L : List Nat) (f : HP) (sz : Nat) (x t dr co ot dp pn ch fr nw kp tr ac se tx rf : Nat) (b : Int32) (hm_x : x ∈ L) (hf_x : f x = .inr (9, [.ref t, .ref dr, .ref co, .ref ot, .ref dp, .ref pn, .ref ch, .ref fr, .ref nw, .ref kp, .ref tr, .ref ac, .ref se, .ref tx, .ref rf, .int 0, .int 0, .long 0])) (hm_co : co ∈ L) (hf_co : f co = .inr (2, [.int 0, .int 0, .int 0, .int 0, .int 0, .int 0, .int 0, .int 0])) (hm_rf : rf ∈ L) (hf_rf : f rf = .inl (g.2.1 0, 5, .inl (fun _ => 0))) : MtI l g yX10_starts cX10_starts 4 (some .int) ({ frames := 1, cells := 0, slots := 0, locals := 22 }) [.ref x, .int b] L f sz (fun r _ => r = (-1)) := by
  refine MtI.of (by decide +kernel) (Nat.le_of_ble_eq_true rfl) ?_
  intro p e s m below meth c A hEn hP hD hS ls hl
  obtain ⟨hx, hb, hr, hml, hown, hlocks, hts, hG, hA, hE, hnm⟩ := hEn
  have hown : s.vm.findClass "RulerWord" = some m.cls := hown
  have hl : lv_has ls 4 [(0, .ref x), (1, .int b)] := hl
  refine lv_aload_n hx hb dX10_starts_0 rfl (lv_at hl 0 rfl) ?_
  refine lv_iload_n hx hb dX10_starts_1 rfl (lv_at hl 1 rfl) ?_
  refine lv_aload_n hx hb dX10_starts_2 rfl (lv_at hl 0 rfl) ?_
  refine pl_get (v := .ref co) hx hb hts (fun w h => mT (inX10 w h)) hown hG.1 hP hm_x hf_x rfl 2 (by decide) (hts _ (mT wg_477)) (fun _ h => h) rfl dX10_starts_3 ?_
  refine call_i (run_VN (rm := { frames := 0, cells := 0, slots := 0, locals := 0 }) hx hb hml hown hts (k_X2_everybody l g _ _ _ co hm_co hf_co) cV_X2_everybody wn_918 ⟨Nat.le_of_ble_eq_true rfl, Nat.le_of_ble_eq_true rfl⟩ hG hE hA hP hD hS hm_co hf_co rfl rfl hl.1 (As := []) (rest := [.int b, .ref x]) rfl (Nat.le_of_ble_eq_true rfl) dX10_starts_6 ⟨Nat.le_of_ble_eq_true rfl, Nat.le_of_ble_eq_true rfl⟩) hA hD hS (fun r1 L2 f3 H locs hp4 hP hD hS => ?_)
  obtain ⟨er5a, er5b, er5⟩ : L2 = _ ∧ f3 = _ ∧ r1 = 0 := hp4
  rw [er5a, er5b] at hP hD
  subst er5
  refine call_i (run_V (rm := { frames := 0, cells := 0, slots := 0, locals := 0 }) hx hb hml hown hts (k_X10_whyNotTold l g _ _ _ x t dr co ot dp pn ch fr nw kp tr ac se tx rf b 0 hm_x hf_x) cV_X10_whyNotTold wg_922 ⟨Nat.le_of_ble_eq_true rfl, Nat.le_of_ble_eq_true rfl⟩ hG hE hA hP hD hS hm_x hf_x rfl rfl hl.1 (As := [.int b, .int 0]) (rest := []) rfl (Nat.le_of_ble_eq_true rfl) dX10_starts_9 ⟨Nat.le_of_ble_eq_true rfl, Nat.le_of_ble_eq_true rfl⟩) hA hD hS (fun r6 L7 f8 H locs hp9 hP hD hS => ?_)
  obtain ⟨er10a, er10b, er10⟩ : L7 = _ ∧ f8 = _ ∧ r6 = 0 := hp9
  rw [er10a, er10b] at hP hD
  subst er10
  refine lv_istore_n (lv' := [(2, .int 0), (0, .ref x), (1, .int b)]) hx hb dX10_starts_12 rfl hl (by decide) rfl (fun ls hl => ?_)
  refine lv_iload_n hx hb dX10_starts_13 rfl (lv_at hl 0 rfl) ?_
  refine lv_iconst (v := (-1)) hx hb dX10_starts_14 (by decide) ?_
  refine lv_icmp_eq (tgt := 24) hx hb dX10_starts_15 (by decide) (fun c11 => absurd c11 (by decide)) (fun c11 => ?_)
  refine lv_aload_n hx hb dX10_starts_18 rfl (lv_at hl 1 rfl) ?_
  refine lv_iload_n hx hb dX10_starts_19 rfl (lv_at hl 0 rfl) ?_
  refine call_i (run_V (rm := { frames := 0, cells := 0, slots := 0, locals := 0 }) hx hb hml hown hts (k_X10_refuse l g _ _ _ x t dr co ot dp pn ch fr nw kp tr ac se tx rf hm_x hf_x hm_rf hf_rf) cV_X10_refuse wg_906 ⟨Nat.le_of_ble_eq_true rfl, Nat.le_of_ble_eq_true rfl⟩ hG hE hA hP hD hS hm_x hf_x rfl rfl hl.1 (As := [.int 0]) (rest := []) rfl (Nat.le_of_ble_eq_true rfl) dX10_starts_20 ⟨Nat.le_of_ble_eq_true rfl, Nat.le_of_ble_eq_true rfl⟩) hA hD hS (fun r12 L13 f14 H locs hp15 hP hD hS => ?_)
  have er16 : r12 = (-1) := hp15
  subst er16
  exact ret_i (ty := .int) hx hb hr hlocks (rfl) hP hD hS (Nat.le_of_ble_eq_true rfl) (Nat.le_of_ble_eq_true rfl) (rfl) dX10_starts_23

set_option maxHeartbeats 4000000 in
set_option maxRecDepth 100000 in
theorem k_X10_falseOnes (l : Launch) (g : GG) (L : List Nat) (f : HP) (sz : Nat) (x t dr co ot dp pn ch fr nw kp tr ac se tx rf : Nat) (b : Int32) (hm_x : x ∈ L) (hf_x : f x = .inr (9, [.ref t, .ref dr, .ref co, .ref ot, .ref dp, .ref pn, .ref ch, .ref fr, .ref nw, .ref kp, .ref tr, .ref ac, .ref se, .ref tx, .ref rf, .int 0, .int 0, .long 0])) (hm_co : co ∈ L) (hf_co : f co = .inr (2, [.int 0, .int 0, .int 0, .int 0, .int 0, .int 0, .int 0, .int 0])) (hm_rf : rf ∈ L) (hf_rf : f rf = .inl (g.2.1 0, 5, .inl (fun _ => 0))) : MtI l g yX10_falseOnes cX10_falseOnes 4 (some .int) ({ frames := 1, cells := 0, slots := 0, locals := 22 }) [.ref x, .int b] L f sz (fun r _ => r = (-1)) := by
  refine MtI.of (by decide +kernel) (Nat.le_of_ble_eq_true rfl) ?_
  intro p e s m below meth c A hEn hP hD hS ls hl
  obtain ⟨hx, hb, hr, hml, hown, hlocks, hts, hG, hA, hE, hnm⟩ := hEn
  have hown : s.vm.findClass "RulerWord" = some m.cls := hown
  have hl : lv_has ls 4 [(0, .ref x), (1, .int b)] := hl
  refine lv_aload_n hx hb dX10_falseOnes_0 rfl (lv_at hl 0 rfl) ?_
  refine lv_iload_n hx hb dX10_falseOnes_1 rfl (lv_at hl 1 rfl) ?_
  refine lv_aload_n hx hb dX10_falseOnes_2 rfl (lv_at hl 0 rfl) ?_
  refine pl_get (v := .ref co) hx hb hts (fun w h => mT (inX10 w h)) hown hG.1 hP hm_x hf_x rfl 2 (by decide) (hts _ (mT wg_477)) (fun _ h => h) rfl dX10_falseOnes_3 ?_
  refine call_i (run_VN (rm := { frames := 0, cells := 0, slots := 0, locals := 0 }) hx hb hml hown hts (k_X2_everybody l g _ _ _ co hm_co hf_co) cV_X2_everybody wn_918 ⟨Nat.le_of_ble_eq_true rfl, Nat.le_of_ble_eq_true rfl⟩ hG hE hA hP hD hS hm_co hf_co rfl rfl hl.1 (As := []) (rest := [.int b, .ref x]) rfl (Nat.le_of_ble_eq_true rfl) dX10_falseOnes_6 ⟨Nat.le_of_ble_eq_true rfl, Nat.le_of_ble_eq_true rfl⟩) hA hD hS (fun r1 L2 f3 H locs hp4 hP hD hS => ?_)
  obtain ⟨er5a, er5b, er5⟩ : L2 = _ ∧ f3 = _ ∧ r1 = 0 := hp4
  rw [er5a, er5b] at hP hD
  subst er5
  refine lv_iconst (v := 1) hx hb dX10_falseOnes_9 (by decide) ?_
  refine lv_isub hx hb dX10_falseOnes_10 ?_
  refine lv_topi (fun x6 ex6 => ?_)
  obtain rfl : x6 = (-1) := ex6.trans (by decide)
  refine call_i (run_V (rm := { frames := 0, cells := 0, slots := 0, locals := 0 }) hx hb hml hown hts (k_X10_whyNotTold l g _ _ _ x t dr co ot dp pn ch fr nw kp tr ac se tx rf b ((-1)) hm_x hf_x) cV_X10_whyNotTold wg_922 ⟨Nat.le_of_ble_eq_true rfl, Nat.le_of_ble_eq_true rfl⟩ hG hE hA hP hD hS hm_x hf_x rfl rfl hl.1 (As := [.int b, .int (-1)]) (rest := []) rfl (Nat.le_of_ble_eq_true rfl) dX10_falseOnes_11 ⟨Nat.le_of_ble_eq_true rfl, Nat.le_of_ble_eq_true rfl⟩) hA hD hS (fun r7 L8 f9 H locs hp10 hP hD hS => ?_)
  obtain ⟨er11a, er11b, er11⟩ : L8 = _ ∧ f9 = _ ∧ r7 = 0 := hp10
  rw [er11a, er11b] at hP hD
  subst er11
  refine lv_istore_n (lv' := [(2, .int 0), (0, .ref x), (1, .int b)]) hx hb dX10_falseOnes_14 rfl hl (by decide) rfl (fun ls hl => ?_)
  refine lv_iload_n hx hb dX10_falseOnes_15 rfl (lv_at hl 0 rfl) ?_
  refine lv_iconst (v := (-1)) hx hb dX10_falseOnes_16 (by decide) ?_
  refine lv_icmp_eq (tgt := 26) hx hb dX10_falseOnes_17 (by decide) (fun c12 => absurd c12 (by decide)) (fun c12 => ?_)
  refine lv_aload_n hx hb dX10_falseOnes_20 rfl (lv_at hl 1 rfl) ?_
  refine lv_iload_n hx hb dX10_falseOnes_21 rfl (lv_at hl 0 rfl) ?_
  refine call_i (run_V (rm := { frames := 0, cells := 0, slots := 0, locals := 0 }) hx hb hml hown hts (k_X10_refuse l g _ _ _ x t dr co ot dp pn ch fr nw kp tr ac se tx rf hm_x hf_x hm_rf hf_rf) cV_X10_refuse wg_906 ⟨Nat.le_of_ble_eq_true rfl, Nat.le_of_ble_eq_true rfl⟩ hG hE hA hP hD hS hm_x hf_x rfl rfl hl.1 (As := [.int 0]) (rest := []) rfl (Nat.le_of_ble_eq_true rfl) dX10_falseOnes_22 ⟨Nat.le_of_ble_eq_true rfl, Nat.le_of_ble_eq_true rfl⟩) hA hD hS (fun r13 L14 f15 H locs hp16 hP hD hS => ?_)
  have er17 : r13 = (-1) := hp16
  subst er17
  exact ret_i (ty := .int) hx hb hr hlocks (rfl) hP hD hS (Nat.le_of_ble_eq_true rfl) (Nat.le_of_ble_eq_true rfl) (rfl) dX10_falseOnes_25

set_option maxHeartbeats 4000000 in
set_option maxRecDepth 100000 in
theorem k_X10_heard (l : Launch) (g : GG) (L : List Nat) (f : HP) (sz : Nat) (x t dr co ot dp pn ch fr nw kp tr ac se tx rf : Nat) (a1 : Int32) (a2 : Int32) (a3 : Int32) (a4 : Int32) (hm_x : x ∈ L) (hf_x : f x = .inr (9, [.ref t, .ref dr, .ref co, .ref ot, .ref dp, .ref pn, .ref ch, .ref fr, .ref nw, .ref kp, .ref tr, .ref ac, .ref se, .ref tx, .ref rf, .int 0, .int 0, .long 0])) : MtI l g yX10_heard cX10_heard 6 (some .int) ({ frames := 1, cells := 0, slots := 0, locals := 21 }) [.ref x, .int a1, .int a2, .int a3, .int a4] L f sz (fun r _ => r = (-1)) := by
  refine MtI.of (by decide +kernel) (Nat.le_of_ble_eq_true rfl) ?_
  intro p e s m below meth c A hEn hP hD hS ls hl
  obtain ⟨hx, hb, hr, hml, hown, hlocks, hts, hG, hA, hE, hnm⟩ := hEn
  have hown : s.vm.findClass "RulerWord" = some m.cls := hown
  have hl : lv_has ls 6 [(0, .ref x), (1, .int a1), (2, .int a2), (3, .int a3), (4, .int a4)] := hl
  refine lv_aload_n hx hb dX10_heard_0 rfl (lv_at hl 0 rfl) ?_
  refine lv_iload_n hx hb dX10_heard_1 rfl (lv_at hl 3 rfl) ?_
  refine call_i (run_V (rm := { frames := 0, cells := 0, slots := 0, locals := 0 }) hx hb hml hown hts (k_X10_isPeer l g _ _ _ x t dr co ot dp pn ch fr nw kp tr ac se tx rf a3 hm_x hf_x) cV_X10_isPeer wg_897 ⟨Nat.le_of_ble_eq_true rfl, Nat.le_of_ble_eq_true rfl⟩ hG hE hA hP hD hS hm_x hf_x rfl rfl hl.1 (As := [.int a3]) (rest := []) rfl (Nat.le_of_ble_eq_true rfl) dX10_heard_2 ⟨Nat.le_of_ble_eq_true rfl, Nat.le_of_ble_eq_true rfl⟩) hA hD hS (fun r1 L2 f3 H locs hp4 hP hD hS => ?_)
  obtain ⟨er5a, er5b, er5⟩ : L2 = _ ∧ f3 = _ ∧ r1 = 0 := hp4
  rw [er5a, er5b] at hP hD
  subst er5
  refine lv_if_eq (tgt := 26) hx hb dX10_heard_5 (by decide) (fun c6 => ?_) (fun c6 => absurd (by decide) c6)
  refine lv_iconst (v := (-1)) hx hb dX10_heard_26 (by decide) ?_
  exact ret_i (ty := .int) hx hb hr hlocks (rfl) hP hD hS (Nat.le_of_ble_eq_true rfl) (Nat.le_of_ble_eq_true rfl) (rfl) dX10_heard_27

set_option maxHeartbeats 4000000 in
set_option maxRecDepth 100000 in
theorem k_X10_told (l : Launch) (g : GG) (L : List Nat) (f : HP) (sz : Nat) (x t dr co ot dp pn ch fr nw kp tr ac se tx rf : Nat) (i : Int32) (p0 : Int32) (w : Int32) (hm_x : x ∈ L) (hf_x : f x = .inr (9, [.ref t, .ref dr, .ref co, .ref ot, .ref dp, .ref pn, .ref ch, .ref fr, .ref nw, .ref kp, .ref tr, .ref ac, .ref se, .ref tx, .ref rf, .int 0, .int 0, .long 0])) : MtI l g yX10_told cX10_told 5 (some .int) ({ frames := 1, cells := 0, slots := 0, locals := 21 }) [.ref x, .int i, .int p0, .int w] L f sz (fun r _ => r = (-1)) := by
  refine MtI.of (by decide +kernel) (Nat.le_of_ble_eq_true rfl) ?_
  intro p e s m below meth c A hEn hP hD hS ls hl
  obtain ⟨hx, hb, hr, hml, hown, hlocks, hts, hG, hA, hE, hnm⟩ := hEn
  have hown : s.vm.findClass "RulerWord" = some m.cls := hown
  have hl : lv_has ls 5 [(0, .ref x), (1, .int i), (2, .int p0), (3, .int w)] := hl
  refine lv_aload_n hx hb dX10_told_0 rfl (lv_at hl 0 rfl) ?_
  refine lv_iload_n hx hb dX10_told_1 rfl (lv_at hl 1 rfl) ?_
  refine call_i (run_V (rm := { frames := 0, cells := 0, slots := 0, locals := 0 }) hx hb hml hown hts (k_X10_isPeer l g _ _ _ x t dr co ot dp pn ch fr nw kp tr ac se tx rf i hm_x hf_x) cV_X10_isPeer wg_897 ⟨Nat.le_of_ble_eq_true rfl, Nat.le_of_ble_eq_true rfl⟩ hG hE hA hP hD hS hm_x hf_x rfl rfl hl.1 (As := [.int i]) (rest := []) rfl (Nat.le_of_ble_eq_true rfl) dX10_told_2 ⟨Nat.le_of_ble_eq_true rfl, Nat.le_of_ble_eq_true rfl⟩) hA hD hS (fun r1 L2 f3 H locs hp4 hP hD hS => ?_)
  obtain ⟨er5a, er5b, er5⟩ : L2 = _ ∧ f3 = _ ∧ r1 = 0 := hp4
  rw [er5a, er5b] at hP hD
  subst er5
  refine lv_if_eq (tgt := 16) hx hb dX10_told_5 (by decide) (fun c6 => ?_) (fun c6 => absurd (by decide) c6)
  refine lv_iconst (v := (-1)) hx hb dX10_told_16 (by decide) ?_
  exact ret_i (ty := .int) hx hb hr hlocks (rfl) hP hD hS (Nat.le_of_ble_eq_true rfl) (Nat.le_of_ble_eq_true rfl) (rfl) dX10_told_17

set_option maxHeartbeats 4000000 in
set_option maxRecDepth 100000 in
theorem k_X10_agreed (l : Launch) (g : GG) (L : List Nat) (f : HP) (sz : Nat) (x t dr co ot dp pn ch fr nw kp tr ac se tx rf n0 n1 n2 n3 n4 n5 n6 n7 n8 : Nat) (hm_x : x ∈ L) (hf_x : f x = .inr (9, [.ref t, .ref dr, .ref co, .ref ot, .ref dp, .ref pn, .ref ch, .ref fr, .ref nw, .ref kp, .ref tr, .ref ac, .ref se, .ref tx, .ref rf, .int 0, .int 0, .long 0])) (hm_nw : nw ∈ L) (hf_nw : f nw = .inr (3, [.int 0, .int 0, .int 0, .int 0, .int 0, .int 0, .int 0, .long 0, .long 0, .ref n0, .ref n1, .ref n2, .ref n3, .ref n4, .ref n5, .ref n6, .ref n7, .ref n8])) (hm_co : co ∈ L) (hf_co : f co = .inr (2, [.int 0, .int 0, .int 0, .int 0, .int 0, .int 0, .int 0, .int 0])) : MtI l g yX10_agreed cX10_agreed 1 (some .int) ({ frames := 3, cells := 0, slots := 0, locals := 64 }) [.ref x] L f sz (fun r _ => r = (-1)) := by
  refine MtI.of (by decide +kernel) (Nat.le_of_ble_eq_true rfl) ?_
  intro p e s m below meth c A hEn hP hD hS ls hl
  obtain ⟨hx, hb, hr, hml, hown, hlocks, hts, hG, hA, hE, hnm⟩ := hEn
  have hown : s.vm.findClass "RulerWord" = some m.cls := hown
  have hl : lv_has ls 1 [(0, .ref x)] := hl
  refine lv_aload_n hx hb dX10_agreed_0 rfl (lv_at hl 0 rfl) ?_
  refine pl_get (v := .ref nw) hx hb hts (fun w h => mT (inX10 w h)) hown hG.1 hP hm_x hf_x rfl 8 (by decide) (hts _ (mT wg_483)) (fun _ h => h) rfl dX10_agreed_1 ?_
  refine lv_aload_n hx hb dX10_agreed_4 rfl (lv_at hl 0 rfl) ?_
  refine pl_get (v := .ref co) hx hb hts (fun w h => mT (inX10 w h)) hown hG.1 hP hm_x hf_x rfl 2 (by decide) (hts _ (mT wg_477)) (fun _ h => h) rfl dX10_agreed_5 ?_
  refine call_i (run_VN (rm := { frames := 2, cells := 0, slots := 0, locals := 41 }) hx hb hml hown hts (k_X3_agreedFrom l g _ _ _ nw n0 n1 n2 n3 n4 n5 n6 n7 n8 co hm_nw hf_nw hm_co hf_co) cV_X3_agreedFrom wn_968 ⟨Nat.le_of_ble_eq_true rfl, Nat.le_of_ble_eq_true rfl⟩ hG hE hA hP hD hS hm_nw hf_nw rfl rfl hl.1 (As := [.ref co]) (rest := []) rfl (Nat.le_of_ble_eq_true rfl) dX10_agreed_8 ⟨Nat.le_of_ble_eq_true rfl, Nat.le_of_ble_eq_true rfl⟩) hA hD hS (fun r1 L2 f3 H locs hp4 hP hD hS => ?_)
  obtain ⟨er5a, er5b, er5⟩ : L2 = _ ∧ f3 = _ ∧ r1 = (-1) := hp4
  rw [er5a, er5b] at hP hD
  subst er5
  exact ret_i (ty := .int) hx hb hr hlocks (rfl) hP hD hS (Nat.le_of_ble_eq_true rfl) (Nat.le_of_ble_eq_true rfl) (rfl) dX10_agreed_11

set_option maxHeartbeats 4000000 in
set_option maxRecDepth 100000 in
theorem k_X10_state (l : Launch) (g : GG) (L : List Nat) (f : HP) (sz : Nat) (x t dr co ot dp pn ch fr nw kp tr ac se tx rf : Nat) (w : Int32) (hm_x : x ∈ L) (hf_x : f x = .inr (9, [.ref t, .ref dr, .ref co, .ref ot, .ref dp, .ref pn, .ref ch, .ref fr, .ref nw, .ref kp, .ref tr, .ref ac, .ref se, .ref tx, .ref rf, .int 0, .int 0, .long 0])) : MtI l g yX10_state cX10_state 4 (some .int) ({ frames := 0, cells := 0, slots := 0, locals := 0 }) [.ref x, .int w] L f sz (fun r _ => r = (-1)) := by
  refine MtI.of (by decide +kernel) (Nat.le_of_ble_eq_true rfl) ?_
  intro p e s m below meth c A hEn hP hD hS ls hl
  obtain ⟨hx, hb, hr, hml, hown, hlocks, hts, hG, hA, hE, hnm⟩ := hEn
  have hown : s.vm.findClass "RulerWord" = some m.cls := hown
  have hl : lv_has ls 4 [(0, .ref x), (1, .int w)] := hl
  refine lv_aload_n hx hb dX10_state_0 rfl (lv_at hl 0 rfl) ?_
  refine pl_get (v := .int 0) hx hb hts (fun w h => mT (inX10 w h)) hown hG.1 hP hm_x hf_x rfl 15 (by decide) (hts _ (mT wg_490)) (fun _ h => h) rfl dX10_state_1 ?_
  refine lv_if_ne (tgt := 9) hx hb dX10_state_4 (by decide) (fun c1 => absurd rfl c1) (fun c1 => ?_)
  refine lv_iconst (v := (-1)) hx hb dX10_state_7 (by decide) ?_
  exact ret_i (ty := .int) hx hb hr hlocks (rfl) hP hD hS (Nat.le_of_ble_eq_true rfl) (Nat.le_of_ble_eq_true rfl) (rfl) dX10_state_8

set_option maxHeartbeats 4000000 in
set_option maxRecDepth 100000 in
theorem k_X10_letters (l : Launch) (g : GG) (L : List Nat) (f : HP) (sz : Nat) (x t dr co ot dp pn ch fr nw kp tr ac se tx rf : Nat) (w : Int32) (hm_x : x ∈ L) (hf_x : f x = .inr (9, [.ref t, .ref dr, .ref co, .ref ot, .ref dp, .ref pn, .ref ch, .ref fr, .ref nw, .ref kp, .ref tr, .ref ac, .ref se, .ref tx, .ref rf, .int 0, .int 0, .long 0])) : MtI l g yX10_letters cX10_letters 3 (some .int) ({ frames := 0, cells := 0, slots := 0, locals := 0 }) [.ref x, .int w] L f sz (fun r _ => r = (-1)) := by
  refine MtI.of (by decide +kernel) (Nat.le_of_ble_eq_true rfl) ?_
  intro p e s m below meth c A hEn hP hD hS ls hl
  obtain ⟨hx, hb, hr, hml, hown, hlocks, hts, hG, hA, hE, hnm⟩ := hEn
  have hown : s.vm.findClass "RulerWord" = some m.cls := hown
  have hl : lv_has ls 3 [(0, .ref x), (1, .int w)] := hl
  refine lv_aload_n hx hb dX10_letters_0 rfl (lv_at hl 0 rfl) ?_
  refine pl_get (v := .int 0) hx hb hts (fun w h => mT (inX10 w h)) hown hG.1 hP hm_x hf_x rfl 15 (by decide) (hts _ (mT wg_490)) (fun _ h => h) rfl dX10_letters_1 ?_
  refine lv_if_ne (tgt := 9) hx hb dX10_letters_4 (by decide) (fun c1 => absurd rfl c1) (fun c1 => ?_)
  refine lv_iconst (v := (-1)) hx hb dX10_letters_7 (by decide) ?_
  exact ret_i (ty := .int) hx hb hr hlocks (rfl) hP hD hS (Nat.le_of_ble_eq_true rfl) (Nat.le_of_ble_eq_true rfl) (rfl) dX10_letters_8

set_option maxHeartbeats 4000000 in
set_option maxRecDepth 100000 in
theorem k_X10_trueRuler (l : Launch) (g : GG) (L : List Nat) (f : HP) (sz : Nat) (x t dr co ot dp pn ch fr nw kp tr ac se tx rf : Nat) (hm_x : x ∈ L) (hf_x : f x = .inr (9, [.ref t, .ref dr, .ref co, .ref ot, .ref dp, .ref pn, .ref ch, .ref fr, .ref nw, .ref kp, .ref tr, .ref ac, .ref se, .ref tx, .ref rf, .int 0, .int 0, .long 0])) : MtI l g yX10_trueRuler cX10_trueRuler 2 (some .int) ({ frames := 0, cells := 0, slots := 0, locals := 0 }) [.ref x] L f sz (fun r _ => r = (-1)) := by
  refine MtI.of (by decide +kernel) (Nat.le_of_ble_eq_true rfl) ?_
  intro p e s m below meth c A hEn hP hD hS ls hl
  obtain ⟨hx, hb, hr, hml, hown, hlocks, hts, hG, hA, hE, hnm⟩ := hEn
  have hown : s.vm.findClass "RulerWord" = some m.cls := hown
  have hl : lv_has ls 2 [(0, .ref x)] := hl
  refine lv_iconst (v := 0) hx hb dX10_trueRuler_0 (by decide) ?_
  refine lv_istore_n (lv' := [(1, .int 0), (0, .ref x)]) hx hb dX10_trueRuler_1 rfl hl (by decide) rfl (fun ls hl => ?_)
  refine lv_aload_n hx hb dX10_trueRuler_2 rfl (lv_at hl 1 rfl) ?_
  refine pl_get (v := .int 0) hx hb hts (fun w h => mT (inX10 w h)) hown hG.1 hP hm_x hf_x rfl 15 (by decide) (hts _ (mT wg_490)) (fun _ h => h) rfl dX10_trueRuler_3 ?_
  refine lv_if_eq (tgt := 49) hx hb dX10_trueRuler_6 (by decide) (fun c1 => ?_) (fun c1 => absurd (by decide) c1)
  refine lv_iconst (v := (-1)) hx hb dX10_trueRuler_49 (by decide) ?_
  exact ret_i (ty := .int) hx hb hr hlocks (rfl) hP hD hS (Nat.le_of_ble_eq_true rfl) (Nat.le_of_ble_eq_true rfl) (rfl) dX10_trueRuler_50

set_option maxHeartbeats 4000000 in
set_option maxRecDepth 100000 in
theorem k_X10_greatest (l : Launch) (g : GG) (L : List Nat) (f : HP) (sz : Nat) (x : Nat) (form : Int32) (n : Int32)  : MtI l g yX10_greatest cX10_greatest 3 (some .int) ({ frames := 1, cells := 0, slots := 0, locals := 21 }) [.ref x, .int form, .int n] L f sz (fun r _ => r = grV form n) := by
  refine MtI.of (by decide +kernel) (Nat.le_of_ble_eq_true rfl) ?_
  intro p e s m below meth c A hEn hP hD hS ls hl
  obtain ⟨hx, hb, hr, hml, hown, hlocks, hts, hG, hA, hE, hnm⟩ := hEn
  have hown : s.vm.findClass "RulerWord" = some m.cls := hown
  have hl : lv_has ls 3 [(0, .ref x), (1, .int form), (2, .int n)] := hl
  refine lv_iload_n hx hb dX10_greatest_0 rfl (lv_at hl 1 rfl) ?_
  refine lv_if_lt (tgt := 20) hx hb dX10_greatest_1 (by decide) (fun c1 => ?_) (fun c1 => ?_)
  ·
    refine lv_iconst (v := (-1)) hx hb dX10_greatest_20 (by decide) ?_
    exact ret_i (ty := .int) hx hb hr hlocks (rfl) hP hD hS (Nat.le_of_ble_eq_true rfl) (Nat.le_of_ble_eq_true rfl) (by simp [grV, c1]) dX10_greatest_21
  ·
    refine lv_iload_n hx hb dX10_greatest_4 rfl (lv_at hl 1 rfl) ?_
    refine lv_iconst (v := 1) hx hb dX10_greatest_5 (by decide) ?_
    refine lv_icmp_gt (tgt := 20) hx hb dX10_greatest_6 (by decide) (fun c2 => ?_) (fun c2 => ?_)
    ·
      refine lv_iconst (v := (-1)) hx hb dX10_greatest_20 (by decide) ?_
      exact ret_i (ty := .int) hx hb hr hlocks (rfl) hP hD hS (Nat.le_of_ble_eq_true rfl) (Nat.le_of_ble_eq_true rfl) (by simp [grV, c1, c2]) dX10_greatest_21
    ·
      refine lv_iload_n hx hb dX10_greatest_9 rfl (lv_at hl 2 rfl) ?_
      refine lv_iconst (v := 1) hx hb dX10_greatest_10 (by decide) ?_
      refine lv_icmp_lt (tgt := 20) hx hb dX10_greatest_11 (by decide) (fun c3 => ?_) (fun c3 => ?_)
      ·
        refine lv_iconst (v := (-1)) hx hb dX10_greatest_20 (by decide) ?_
        exact ret_i (ty := .int) hx hb hr hlocks (rfl) hP hD hS (Nat.le_of_ble_eq_true rfl) (Nat.le_of_ble_eq_true rfl) (by simp [grV, c1, c2, c3]) dX10_greatest_21
      ·
        refine lv_iload_n hx hb dX10_greatest_14 rfl (lv_at hl 2 rfl) ?_
        refine lv_bipush (v := 100) hx hb dX10_greatest_15 (by decide) ?_
        refine lv_icmp_le (tgt := 22) hx hb dX10_greatest_17 (by decide) (fun c4 => ?_) (fun c4 => ?_)
        ·
          refine lv_iload_n hx hb dX10_greatest_22 rfl (lv_at hl 1 rfl) ?_
          refine lv_iload_n hx hb dX10_greatest_23 rfl (lv_at hl 2 rfl) ?_
          refine call_i (run_S (rm := { frames := 0, cells := 0, slots := 0, locals := 0 }) hx hb hml hown hts (k_X10_greatestBound l g _ _ _ form n) cS_X10_greatestBound wg_1013 ⟨Nat.le_of_ble_eq_true rfl, Nat.le_of_ble_eq_true rfl⟩ hG hE hA hP hD hS rfl hl.1 (As := [.int form, .int n]) (rest := []) rfl (Nat.le_of_ble_eq_true rfl) dX10_greatest_24 ⟨Nat.le_of_ble_eq_true rfl, Nat.le_of_ble_eq_true rfl⟩) hA hD hS (fun r5 L6 f7 H locs hp8 hP hD hS => ?_)
          obtain ⟨er9a, er9b, er9⟩ : L6 = _ ∧ f7 = _ ∧ r5 = grB form n := hp8
          rw [er9a, er9b] at hP hD
          exact ret_i (ty := .int) hx hb hr hlocks (rfl) hP hD hS (Nat.le_of_ble_eq_true rfl) (Nat.le_of_ble_eq_true rfl) (by simp [grV, c1, c2, c3, c4, er9]) dX10_greatest_27
        ·
          refine lv_iconst (v := (-1)) hx hb dX10_greatest_20 (by decide) ?_
          exact ret_i (ty := .int) hx hb hr hlocks (rfl) hP hD hS (Nat.le_of_ble_eq_true rfl) (Nat.le_of_ble_eq_true rfl) (by simp [grV, c1, c2, c3, c4]) dX10_greatest_21

set_option maxHeartbeats 4000000 in
set_option maxRecDepth 100000 in
theorem k_X10_free (l : Launch) (g : GG) (L : List Nat) (f : HP) (sz : Nat) (x t dr co ot dp pn ch fr nw kp tr ac se tx rf : Nat) (hm_x : x ∈ L) (hf_x : f x = .inr (9, [.ref t, .ref dr, .ref co, .ref ot, .ref dp, .ref pn, .ref ch, .ref fr, .ref nw, .ref kp, .ref tr, .ref ac, .ref se, .ref tx, .ref rf, .int 0, .int 0, .long 0])) : MtI l g yX10_free cX10_free 1 (some .int) ({ frames := 0, cells := 0, slots := 0, locals := 0 }) [.ref x] L f sz (fun r _ => r = (-1)) := by
  refine MtI.of (by decide +kernel) (Nat.le_of_ble_eq_true rfl) ?_
  intro p e s m below meth c A hEn hP hD hS ls hl
  obtain ⟨hx, hb, hr, hml, hown, hlocks, hts, hG, hA, hE, hnm⟩ := hEn
  have hown : s.vm.findClass "RulerWord" = some m.cls := hown
  have hl : lv_has ls 1 [(0, .ref x)] := hl
  refine lv_aload_n hx hb dX10_free_0 rfl (lv_at hl 0 rfl) ?_
  refine pl_get (v := .int 0) hx hb hts (fun w h => mT (inX10 w h)) hown hG.1 hP hm_x hf_x rfl 15 (by decide) (hts _ (mT wg_490)) (fun _ h => h) rfl dX10_free_1 ?_
  refine lv_if_eq (tgt := 21) hx hb dX10_free_4 (by decide) (fun c1 => ?_) (fun c1 => absurd (by decide) c1)
  refine lv_iconst (v := (-1)) hx hb dX10_free_21 (by decide) ?_
  exact ret_i (ty := .int) hx hb hr hlocks (rfl) hP hD hS (Nat.le_of_ble_eq_true rfl) (Nat.le_of_ble_eq_true rfl) (rfl) dX10_free_22

set_option maxHeartbeats 4000000 in
set_option maxRecDepth 100000 in
theorem k_X10_broken (l : Launch) (g : GG) (L : List Nat) (f : HP) (sz : Nat) (x t dr co ot dp pn ch fr nw kp tr ac se tx rf n0 n1 n2 n3 n4 n5 n6 n7 n8 : Nat) (hm_x : x ∈ L) (hf_x : f x = .inr (9, [.ref t, .ref dr, .ref co, .ref ot, .ref dp, .ref pn, .ref ch, .ref fr, .ref nw, .ref kp, .ref tr, .ref ac, .ref se, .ref tx, .ref rf, .int 0, .int 0, .long 0])) (hm_nw : nw ∈ L) (hf_nw : f nw = .inr (3, [.int 0, .int 0, .int 0, .int 0, .int 0, .int 0, .int 0, .long 0, .long 0, .ref n0, .ref n1, .ref n2, .ref n3, .ref n4, .ref n5, .ref n6, .ref n7, .ref n8])) : MtI l g yX10_broken cX10_broken 1 (some .int) ({ frames := 1, cells := 0, slots := 0, locals := 21 }) [.ref x] L f sz (fun r _ => r = (-2)) := by
  refine MtI.of (by decide +kernel) (Nat.le_of_ble_eq_true rfl) ?_
  intro p e s m below meth c A hEn hP hD hS ls hl
  obtain ⟨hx, hb, hr, hml, hown, hlocks, hts, hG, hA, hE, hnm⟩ := hEn
  have hown : s.vm.findClass "RulerWord" = some m.cls := hown
  have hl : lv_has ls 1 [(0, .ref x)] := hl
  refine lv_aload_n hx hb dX10_broken_0 rfl (lv_at hl 0 rfl) ?_
  refine lv_aload_n hx hb dX10_broken_1 rfl (lv_at hl 0 rfl) ?_
  refine pl_get (v := .ref nw) hx hb hts (fun w h => mT (inX10 w h)) hown hG.1 hP hm_x hf_x rfl 8 (by decide) (hts _ (mT wg_483)) (fun _ h => h) rfl dX10_broken_2 ?_
  refine pl_getN (v := .int 0) hx hb hts (fun w h => mT (inX3 w h)) hown hG.1 hP hm_nw hf_nw rfl 1 (by decide) (hG.2.1 _ wn_339) (fun _ h => h) rfl dX10_broken_5 ?_
  refine call_i (run_V (rm := { frames := 0, cells := 0, slots := 0, locals := 0 }) hx hb hml hown hts (k_X10_isAsked l g _ _ _ x t dr co ot dp pn ch fr nw kp tr ac se tx rf 0 hm_x hf_x) cV_X10_isAsked wg_1032 ⟨Nat.le_of_ble_eq_true rfl, Nat.le_of_ble_eq_true rfl⟩ hG hE hA hP hD hS hm_x hf_x rfl rfl hl.1 (As := [.int 0]) (rest := []) rfl (Nat.le_of_ble_eq_true rfl) dX10_broken_8 ⟨Nat.le_of_ble_eq_true rfl, Nat.le_of_ble_eq_true rfl⟩) hA hD hS (fun r1 L2 f3 H locs hp4 hP hD hS => ?_)
  obtain ⟨er5a, er5b, er5⟩ : L2 = _ ∧ f3 = _ ∧ r1 = 0 := hp4
  rw [er5a, er5b] at hP hD
  subst er5
  refine lv_if_ne (tgt := 17) hx hb dX10_broken_11 (by decide) (fun c6 => absurd rfl c6) (fun c6 => ?_)
  refine lv_bipush (v := (-2)) hx hb dX10_broken_14 (by decide) ?_
  exact ret_i (ty := .int) hx hb hr hlocks (rfl) hP hD hS (Nat.le_of_ble_eq_true rfl) (Nat.le_of_ble_eq_true rfl) (rfl) dX10_broken_16

set_option maxHeartbeats 4000000 in
set_option maxRecDepth 100000 in
theorem k_X10_brokenStarts (l : Launch) (g : GG) (L : List Nat) (f : HP) (sz : Nat) (x t dr co ot dp pn ch fr nw kp tr ac se tx rf n0 n1 n2 n3 n4 n5 n6 n7 n8 : Nat) (w : Int32) (hm_x : x ∈ L) (hf_x : f x = .inr (9, [.ref t, .ref dr, .ref co, .ref ot, .ref dp, .ref pn, .ref ch, .ref fr, .ref nw, .ref kp, .ref tr, .ref ac, .ref se, .ref tx, .ref rf, .int 0, .int 0, .long 0])) (hm_nw : nw ∈ L) (hf_nw : f nw = .inr (3, [.int 0, .int 0, .int 0, .int 0, .int 0, .int 0, .int 0, .long 0, .long 0, .ref n0, .ref n1, .ref n2, .ref n3, .ref n4, .ref n5, .ref n6, .ref n7, .ref n8])) : MtI l g yX10_brokenStarts cX10_brokenStarts 2 (some .int) ({ frames := 1, cells := 0, slots := 0, locals := 21 }) [.ref x, .int w] L f sz (fun r _ => r = (-2)) := by
  refine MtI.of (by decide +kernel) (Nat.le_of_ble_eq_true rfl) ?_
  intro p e s m below meth c A hEn hP hD hS ls hl
  obtain ⟨hx, hb, hr, hml, hown, hlocks, hts, hG, hA, hE, hnm⟩ := hEn
  have hown : s.vm.findClass "RulerWord" = some m.cls := hown
  have hl : lv_has ls 2 [(0, .ref x), (1, .int w)] := hl
  refine lv_iload_n hx hb dX10_brokenStarts_0 rfl (lv_at hl 1 rfl) ?_
  refine lv_if_lt (tgt := 23) hx hb dX10_brokenStarts_1 (by decide) (fun c1 => ?_) (fun c1 => ?_)
  ·
    refine lv_bipush (v := (-2)) hx hb dX10_brokenStarts_23 (by decide) ?_
    exact ret_i (ty := .int) hx hb hr hlocks (rfl) hP hD hS (Nat.le_of_ble_eq_true rfl) (Nat.le_of_ble_eq_true rfl) (rfl) dX10_brokenStarts_25
  ·
    refine lv_iload_n hx hb dX10_brokenStarts_4 rfl (lv_at hl 1 rfl) ?_
    refine lv_iconst (v := 1) hx hb dX10_brokenStarts_5 (by decide) ?_
    refine lv_icmp_gt (tgt := 23) hx hb dX10_brokenStarts_6 (by decide) (fun c2 => ?_) (fun c2 => ?_)
    ·
      refine lv_bipush (v := (-2)) hx hb dX10_brokenStarts_23 (by decide) ?_
      exact ret_i (ty := .int) hx hb hr hlocks (rfl) hP hD hS (Nat.le_of_ble_eq_true rfl) (Nat.le_of_ble_eq_true rfl) (rfl) dX10_brokenStarts_25
    ·
      refine lv_aload_n hx hb dX10_brokenStarts_9 rfl (lv_at hl 0 rfl) ?_
      refine lv_aload_n hx hb dX10_brokenStarts_10 rfl (lv_at hl 0 rfl) ?_
      refine pl_get (v := .ref nw) hx hb hts (fun w h => mT (inX10 w h)) hown hG.1 hP hm_x hf_x rfl 8 (by decide) (hts _ (mT wg_483)) (fun _ h => h) rfl dX10_brokenStarts_11 ?_
      refine pl_getN (v := .int 0) hx hb hts (fun w h => mT (inX3 w h)) hown hG.1 hP hm_nw hf_nw rfl 1 (by decide) (hG.2.1 _ wn_339) (fun _ h => h) rfl dX10_brokenStarts_14 ?_
      refine call_i (run_V (rm := { frames := 0, cells := 0, slots := 0, locals := 0 }) hx hb hml hown hts (k_X10_isAsked l g _ _ _ x t dr co ot dp pn ch fr nw kp tr ac se tx rf 0 hm_x hf_x) cV_X10_isAsked wg_1032 ⟨Nat.le_of_ble_eq_true rfl, Nat.le_of_ble_eq_true rfl⟩ hG hE hA hP hD hS hm_x hf_x rfl rfl hl.1 (As := [.int 0]) (rest := []) rfl (Nat.le_of_ble_eq_true rfl) dX10_brokenStarts_17 ⟨Nat.le_of_ble_eq_true rfl, Nat.le_of_ble_eq_true rfl⟩) hA hD hS (fun r3 L4 f5 H locs hp6 hP hD hS => ?_)
      obtain ⟨er7a, er7b, er7⟩ : L4 = _ ∧ f5 = _ ∧ r3 = 0 := hp6
      rw [er7a, er7b] at hP hD
      subst er7
      refine lv_if_ne (tgt := 26) hx hb dX10_brokenStarts_20 (by decide) (fun c8 => absurd rfl c8) (fun c8 => ?_)
      refine lv_bipush (v := (-2)) hx hb dX10_brokenStarts_23 (by decide) ?_
      exact ret_i (ty := .int) hx hb hr hlocks (rfl) hP hD hS (Nat.le_of_ble_eq_true rfl) (Nat.le_of_ble_eq_true rfl) (rfl) dX10_brokenStarts_25

set_option maxHeartbeats 4000000 in
set_option maxRecDepth 100000 in
theorem k_X10_canBreak (l : Launch) (g : GG) (L : List Nat) (f : HP) (sz : Nat) (x t dr co ot dp pn ch fr nw kp tr ac se tx rf : Nat) (w : Int32) (hm_x : x ∈ L) (hf_x : f x = .inr (9, [.ref t, .ref dr, .ref co, .ref ot, .ref dp, .ref pn, .ref ch, .ref fr, .ref nw, .ref kp, .ref tr, .ref ac, .ref se, .ref tx, .ref rf, .int 0, .int 0, .long 0])) : MtI l g yX10_canBreak cX10_canBreak 5 (some .int) ({ frames := 0, cells := 0, slots := 0, locals := 0 }) [.ref x, .int w] L f sz (fun r _ => r = (-2)) := by
  refine MtI.of (by decide +kernel) (Nat.le_of_ble_eq_true rfl) ?_
  intro p e s m below meth c A hEn hP hD hS ls hl
  obtain ⟨hx, hb, hr, hml, hown, hlocks, hts, hG, hA, hE, hnm⟩ := hEn
  have hown : s.vm.findClass "RulerWord" = some m.cls := hown
  have hl : lv_has ls 5 [(0, .ref x), (1, .int w)] := hl
  refine lv_iload_n hx hb dX10_canBreak_0 rfl (lv_at hl 1 rfl) ?_
  refine lv_if_lt (tgt := 27) hx hb dX10_canBreak_1 (by decide) (fun c1 => ?_) (fun c1 => ?_)
  ·
    refine lv_bipush (v := (-2)) hx hb dX10_canBreak_27 (by decide) ?_
    exact ret_i (ty := .int) hx hb hr hlocks (rfl) hP hD hS (Nat.le_of_ble_eq_true rfl) (Nat.le_of_ble_eq_true rfl) (rfl) dX10_canBreak_29
  ·
    refine lv_iload_n hx hb dX10_canBreak_4 rfl (lv_at hl 1 rfl) ?_
    refine lv_iconst (v := 1) hx hb dX10_canBreak_5 (by decide) ?_
    refine lv_icmp_gt (tgt := 27) hx hb dX10_canBreak_6 (by decide) (fun c2 => ?_) (fun c2 => ?_)
    ·
      refine lv_bipush (v := (-2)) hx hb dX10_canBreak_27 (by decide) ?_
      exact ret_i (ty := .int) hx hb hr hlocks (rfl) hP hD hS (Nat.le_of_ble_eq_true rfl) (Nat.le_of_ble_eq_true rfl) (rfl) dX10_canBreak_29
    ·
      refine lv_aload_n hx hb dX10_canBreak_9 rfl (lv_at hl 0 rfl) ?_
      refine pl_get (v := .int 0) hx hb hts (fun w h => mT (inX10 w h)) hown hG.1 hP hm_x hf_x rfl 15 (by decide) (hts _ (mT wg_490)) (fun _ h => h) rfl dX10_canBreak_10 ?_
      refine lv_if_eq (tgt := 27) hx hb dX10_canBreak_13 (by decide) (fun c3 => ?_) (fun c3 => absurd (by decide) c3)
      refine lv_bipush (v := (-2)) hx hb dX10_canBreak_27 (by decide) ?_
      exact ret_i (ty := .int) hx hb hr hlocks (rfl) hP hD hS (Nat.le_of_ble_eq_true rfl) (Nat.le_of_ble_eq_true rfl) (rfl) dX10_canBreak_29

set_option maxHeartbeats 4000000 in
set_option maxRecDepth 100000 in
theorem k_X10_brokenPlan (l : Launch) (g : GG) (L : List Nat) (f : HP) (sz : Nat) (x t dr co ot dp pn ch fr nw kp tr ac se tx rf n0 n1 n2 n3 n4 n5 n6 n7 n8 : Nat) (k : Int32) (hm_x : x ∈ L) (hf_x : f x = .inr (9, [.ref t, .ref dr, .ref co, .ref ot, .ref dp, .ref pn, .ref ch, .ref fr, .ref nw, .ref kp, .ref tr, .ref ac, .ref se, .ref tx, .ref rf, .int 0, .int 0, .long 0])) (hm_nw : nw ∈ L) (hf_nw : f nw = .inr (3, [.int 0, .int 0, .int 0, .int 0, .int 0, .int 0, .int 0, .long 0, .long 0, .ref n0, .ref n1, .ref n2, .ref n3, .ref n4, .ref n5, .ref n6, .ref n7, .ref n8])) : MtI l g yX10_brokenPlan cX10_brokenPlan 5 (some .int) ({ frames := 2, cells := 0, slots := 0, locals := 41 }) [.ref x, .int k] L f sz (fun r _ => r = (-2)) := by
  refine MtI.of (by decide +kernel) (Nat.le_of_ble_eq_true rfl) ?_
  intro p e s m below meth c A hEn hP hD hS ls hl
  obtain ⟨hx, hb, hr, hml, hown, hlocks, hts, hG, hA, hE, hnm⟩ := hEn
  have hown : s.vm.findClass "RulerWord" = some m.cls := hown
  have hl : lv_has ls 5 [(0, .ref x), (1, .int k)] := hl
  refine lv_aload_n hx hb dX10_brokenPlan_0 rfl (lv_at hl 0 rfl) ?_
  refine call_i (run_V (rm := { frames := 1, cells := 0, slots := 0, locals := 21 }) hx hb hml hown hts (k_X10_broken l g _ _ _ x t dr co ot dp pn ch fr nw kp tr ac se tx rf n0 n1 n2 n3 n4 n5 n6 n7 n8 hm_x hf_x hm_nw hf_nw) cV_X10_broken wg_1126 ⟨Nat.le_of_ble_eq_true rfl, Nat.le_of_ble_eq_true rfl⟩ hG hE hA hP hD hS hm_x hf_x rfl rfl hl.1 (As := []) (rest := []) rfl (Nat.le_of_ble_eq_true rfl) dX10_brokenPlan_1 ⟨Nat.le_of_ble_eq_true rfl, Nat.le_of_ble_eq_true rfl⟩) hA hD hS (fun r1 L2 f3 H locs hp4 hP hD hS => ?_)
  have er5 : r1 = (-2) := hp4
  subst er5
  refine lv_istore_n (lv' := [(2, .int (-2)), (0, .ref x), (1, .int k)]) hx hb dX10_brokenPlan_4 rfl hl (by decide) rfl (fun ls hl => ?_)
  refine lv_iload_n hx hb dX10_brokenPlan_5 rfl (lv_at hl 0 rfl) ?_
  refine lv_if_ge (tgt := 11) hx hb dX10_brokenPlan_6 (by decide) (fun c6 => absurd c6 (by decide)) (fun c6 => ?_)
  refine lv_iload_n hx hb dX10_brokenPlan_9 rfl (lv_at hl 0 rfl) ?_
  exact ret_i (ty := .int) hx hb hr hlocks (rfl) hP hD hS (Nat.le_of_ble_eq_true rfl) (Nat.le_of_ble_eq_true rfl) (rfl) dX10_brokenPlan_10

set_option maxHeartbeats 4000000 in
set_option maxRecDepth 100000 in
theorem k_X10_weakest (l : Launch) (g : GG) (L : List Nat) (f : HP) (sz : Nat) (x t dr co ot dp pn ch fr nw kp tr ac se tx rf : Nat) (hm_x : x ∈ L) (hf_x : f x = .inr (9, [.ref t, .ref dr, .ref co, .ref ot, .ref dp, .ref pn, .ref ch, .ref fr, .ref nw, .ref kp, .ref tr, .ref ac, .ref se, .ref tx, .ref rf, .int 0, .int 0, .long 0])) : MtI l g yX10_weakest cX10_weakest 4 (some .int) ({ frames := 0, cells := 0, slots := 0, locals := 0 }) [.ref x] L f sz (fun r _ => r = (-2)) := by
  refine MtI.of (by decide +kernel) (Nat.le_of_ble_eq_true rfl) ?_
  intro p e s m below meth c A hEn hP hD hS ls hl
  obtain ⟨hx, hb, hr, hml, hown, hlocks, hts, hG, hA, hE, hnm⟩ := hEn
  have hown : s.vm.findClass "RulerWord" = some m.cls := hown
  have hl : lv_has ls 4 [(0, .ref x)] := hl
  refine lv_aload_n hx hb dX10_weakest_0 rfl (lv_at hl 0 rfl) ?_
  refine pl_get (v := .int 0) hx hb hts (fun w h => mT (inX10 w h)) hown hG.1 hP hm_x hf_x rfl 15 (by decide) (hts _ (mT wg_490)) (fun _ h => h) rfl dX10_weakest_1 ?_
  refine lv_if_ne (tgt := 10) hx hb dX10_weakest_4 (by decide) (fun c1 => absurd rfl c1) (fun c1 => ?_)
  refine lv_bipush (v := (-2)) hx hb dX10_weakest_7 (by decide) ?_
  exact ret_i (ty := .int) hx hb hr hlocks (rfl) hP hD hS (Nat.le_of_ble_eq_true rfl) (Nat.le_of_ble_eq_true rfl) (rfl) dX10_weakest_9

set_option maxHeartbeats 4000000 in
set_option maxRecDepth 100000 in
theorem k_X10_ruled (l : Launch) (g : GG) (L : List Nat) (f : HP) (sz : Nat) (x t dr co ot dp pn ch fr nw kp tr ac se tx rf : Nat) (i : Int32) (w : Int32) (hm_x : x ∈ L) (hf_x : f x = .inr (9, [.ref t, .ref dr, .ref co, .ref ot, .ref dp, .ref pn, .ref ch, .ref fr, .ref nw, .ref kp, .ref tr, .ref ac, .ref se, .ref tx, .ref rf, .int 0, .int 0, .long 0])) : MtI l g yX10_ruled cX10_ruled 5 (some .int) ({ frames := 1, cells := 0, slots := 0, locals := 21 }) [.ref x, .int i, .int w] L f sz (fun r _ => r = (-1)) := by
  refine MtI.of (by decide +kernel) (Nat.le_of_ble_eq_true rfl) ?_
  intro p e s m below meth c A hEn hP hD hS ls hl
  obtain ⟨hx, hb, hr, hml, hown, hlocks, hts, hG, hA, hE, hnm⟩ := hEn
  have hown : s.vm.findClass "RulerWord" = some m.cls := hown
  have hl : lv_has ls 5 [(0, .ref x), (1, .int i), (2, .int w)] := hl
  refine lv_aload_n hx hb dX10_ruled_0 rfl (lv_at hl 0 rfl) ?_
  refine lv_iload_n hx hb dX10_ruled_1 rfl (lv_at hl 1 rfl) ?_
  refine call_i (run_V (rm := { frames := 0, cells := 0, slots := 0, locals := 0 }) hx hb hml hown hts (k_X10_isPeer l g _ _ _ x t dr co ot dp pn ch fr nw kp tr ac se tx rf i hm_x hf_x) cV_X10_isPeer wg_897 ⟨Nat.le_of_ble_eq_true rfl, Nat.le_of_ble_eq_true rfl⟩ hG hE hA hP hD hS hm_x hf_x rfl rfl hl.1 (As := [.int i]) (rest := []) rfl (Nat.le_of_ble_eq_true rfl) dX10_ruled_2 ⟨Nat.le_of_ble_eq_true rfl, Nat.le_of_ble_eq_true rfl⟩) hA hD hS (fun r1 L2 f3 H locs hp4 hP hD hS => ?_)
  obtain ⟨er5a, er5b, er5⟩ : L2 = _ ∧ f3 = _ ∧ r1 = 0 := hp4
  rw [er5a, er5b] at hP hD
  subst er5
  refine lv_if_eq (tgt := 17) hx hb dX10_ruled_5 (by decide) (fun c6 => ?_) (fun c6 => absurd (by decide) c6)
  refine lv_iconst (v := (-1)) hx hb dX10_ruled_17 (by decide) ?_
  exact ret_i (ty := .int) hx hb hr hlocks (rfl) hP hD hS (Nat.le_of_ble_eq_true rfl) (Nat.le_of_ble_eq_true rfl) (rfl) dX10_ruled_18

set_option maxHeartbeats 4000000 in
set_option maxRecDepth 100000 in
theorem k_X10_held (l : Launch) (g : GG) (L : List Nat) (f : HP) (sz : Nat) (x t dr co ot dp pn ch fr nw kp tr ac se tx rf n0 n1 n2 n3 n4 n5 n6 n7 n8 : Nat) (b : Int32) (i : Int32) (hm_x : x ∈ L) (hf_x : f x = .inr (9, [.ref t, .ref dr, .ref co, .ref ot, .ref dp, .ref pn, .ref ch, .ref fr, .ref nw, .ref kp, .ref tr, .ref ac, .ref se, .ref tx, .ref rf, .int 0, .int 0, .long 0])) (hm_nw : nw ∈ L) (hf_nw : f nw = .inr (3, [.int 0, .int 0, .int 0, .int 0, .int 0, .int 0, .int 0, .long 0, .long 0, .ref n0, .ref n1, .ref n2, .ref n3, .ref n4, .ref n5, .ref n6, .ref n7, .ref n8])) : MtI l g yX10_held cX10_held 3 (some .int) ({ frames := 1, cells := 0, slots := 0, locals := 21 }) [.ref x, .int b, .int i] L f sz (fun r _ => r = (-2)) := by
  refine MtI.of (by decide +kernel) (Nat.le_of_ble_eq_true rfl) ?_
  intro p e s m below meth c A hEn hP hD hS ls hl
  obtain ⟨hx, hb, hr, hml, hown, hlocks, hts, hG, hA, hE, hnm⟩ := hEn
  have hown : s.vm.findClass "RulerWord" = some m.cls := hown
  have hl : lv_has ls 3 [(0, .ref x), (1, .int b), (2, .int i)] := hl
  refine lv_aload_n hx hb dX10_held_0 rfl (lv_at hl 0 rfl) ?_
  refine lv_aload_n hx hb dX10_held_1 rfl (lv_at hl 0 rfl) ?_
  refine pl_get (v := .ref nw) hx hb hts (fun w h => mT (inX10 w h)) hown hG.1 hP hm_x hf_x rfl 8 (by decide) (hts _ (mT wg_483)) (fun _ h => h) rfl dX10_held_2 ?_
  refine pl_getN (v := .int 0) hx hb hts (fun w h => mT (inX3 w h)) hown hG.1 hP hm_nw hf_nw rfl 1 (by decide) (hG.2.1 _ wn_339) (fun _ h => h) rfl dX10_held_5 ?_
  refine call_i (run_V (rm := { frames := 0, cells := 0, slots := 0, locals := 0 }) hx hb hml hown hts (k_X10_isAsked l g _ _ _ x t dr co ot dp pn ch fr nw kp tr ac se tx rf 0 hm_x hf_x) cV_X10_isAsked wg_1032 ⟨Nat.le_of_ble_eq_true rfl, Nat.le_of_ble_eq_true rfl⟩ hG hE hA hP hD hS hm_x hf_x rfl rfl hl.1 (As := [.int 0]) (rest := []) rfl (Nat.le_of_ble_eq_true rfl) dX10_held_8 ⟨Nat.le_of_ble_eq_true rfl, Nat.le_of_ble_eq_true rfl⟩) hA hD hS (fun r1 L2 f3 H locs hp4 hP hD hS => ?_)
  obtain ⟨er5a, er5b, er5⟩ : L2 = _ ∧ f3 = _ ∧ r1 = 0 := hp4
  rw [er5a, er5b] at hP hD
  subst er5
  refine lv_if_ne (tgt := 17) hx hb dX10_held_11 (by decide) (fun c6 => absurd rfl c6) (fun c6 => ?_)
  refine lv_bipush (v := (-2)) hx hb dX10_held_14 (by decide) ?_
  exact ret_i (ty := .int) hx hb hr hlocks (rfl) hP hD hS (Nat.le_of_ble_eq_true rfl) (Nat.le_of_ble_eq_true rfl) (rfl) dX10_held_16

set_option maxHeartbeats 4000000 in
set_option maxRecDepth 100000 in
theorem k_X10_needed (l : Launch) (g : GG) (L : List Nat) (f : HP) (sz : Nat) (x t dr co ot dp pn ch fr nw kp tr ac se tx rf : Nat) (hm_x : x ∈ L) (hf_x : f x = .inr (9, [.ref t, .ref dr, .ref co, .ref ot, .ref dp, .ref pn, .ref ch, .ref fr, .ref nw, .ref kp, .ref tr, .ref ac, .ref se, .ref tx, .ref rf, .int 0, .int 0, .long 0])) : MtI l g yX10_needed cX10_needed 2 (some .int) ({ frames := 0, cells := 0, slots := 0, locals := 0 }) [.ref x] L f sz (fun r _ => r = (-1)) := by
  refine MtI.of (by decide +kernel) (Nat.le_of_ble_eq_true rfl) ?_
  intro p e s m below meth c A hEn hP hD hS ls hl
  obtain ⟨hx, hb, hr, hml, hown, hlocks, hts, hG, hA, hE, hnm⟩ := hEn
  have hown : s.vm.findClass "RulerWord" = some m.cls := hown
  have hl : lv_has ls 2 [(0, .ref x)] := hl
  refine lv_iconst (v := 1) hx hb dX10_needed_0 (by decide) ?_
  refine lv_istore_n (lv' := [(1, .int 1), (0, .ref x)]) hx hb dX10_needed_1 rfl hl (by decide) rfl (fun ls hl => ?_)
  refine lv_aload_n hx hb dX10_needed_2 rfl (lv_at hl 1 rfl) ?_
  refine pl_get (v := .int 0) hx hb hts (fun w h => mT (inX10 w h)) hown hG.1 hP hm_x hf_x rfl 15 (by decide) (hts _ (mT wg_490)) (fun _ h => h) rfl dX10_needed_3 ?_
  refine lv_if_eq (tgt := 81) hx hb dX10_needed_6 (by decide) (fun c1 => ?_) (fun c1 => absurd (by decide) c1)
  refine lv_iconst (v := (-1)) hx hb dX10_needed_81 (by decide) ?_
  exact ret_i (ty := .int) hx hb hr hlocks (rfl) hP hD hS (Nat.le_of_ble_eq_true rfl) (Nat.le_of_ble_eq_true rfl) (rfl) dX10_needed_82

set_option maxHeartbeats 4000000 in
set_option maxRecDepth 100000 in
theorem k_X10_asOthers (l : Launch) (g : GG) (L : List Nat) (f : HP) (sz : Nat) (x t dr co ot dp pn ch fr nw kp tr ac se tx rf : Nat) (w : Int32) (hm_x : x ∈ L) (hf_x : f x = .inr (9, [.ref t, .ref dr, .ref co, .ref ot, .ref dp, .ref pn, .ref ch, .ref fr, .ref nw, .ref kp, .ref tr, .ref ac, .ref se, .ref tx, .ref rf, .int 0, .int 0, .long 0])) : MtI l g yX10_asOthers cX10_asOthers 2 (some .int) ({ frames := 0, cells := 0, slots := 0, locals := 0 }) [.ref x, .int w] L f sz (fun r _ => r = (-2)) := by
  refine MtI.of (by decide +kernel) (Nat.le_of_ble_eq_true rfl) ?_
  intro p e s m below meth c A hEn hP hD hS ls hl
  obtain ⟨hx, hb, hr, hml, hown, hlocks, hts, hG, hA, hE, hnm⟩ := hEn
  have hown : s.vm.findClass "RulerWord" = some m.cls := hown
  have hl : lv_has ls 2 [(0, .ref x), (1, .int w)] := hl
  refine lv_aload_n hx hb dX10_asOthers_0 rfl (lv_at hl 0 rfl) ?_
  refine pl_get (v := .int 0) hx hb hts (fun w h => mT (inX10 w h)) hown hG.1 hP hm_x hf_x rfl 15 (by decide) (hts _ (mT wg_490)) (fun _ h => h) rfl dX10_asOthers_1 ?_
  refine lv_if_eq (tgt := 16) hx hb dX10_asOthers_4 (by decide) (fun c1 => ?_) (fun c1 => absurd (by decide) c1)
  refine lv_bipush (v := (-2)) hx hb dX10_asOthers_16 (by decide) ?_
  exact ret_i (ty := .int) hx hb hr hlocks (rfl) hP hD hS (Nat.le_of_ble_eq_true rfl) (Nat.le_of_ble_eq_true rfl) (rfl) dX10_asOthers_18

set_option maxHeartbeats 4000000 in
set_option maxRecDepth 100000 in
theorem k_X10_byChance (l : Launch) (g : GG) (L : List Nat) (f : HP) (sz : Nat) (x t dr co ot dp pn ch fr nw kp tr ac se tx rf : Nat) (w : Int32) (s0 : Int64) (h0 : Int32) (hm_x : x ∈ L) (hf_x : f x = .inr (9, [.ref t, .ref dr, .ref co, .ref ot, .ref dp, .ref pn, .ref ch, .ref fr, .ref nw, .ref kp, .ref tr, .ref ac, .ref se, .ref tx, .ref rf, .int 0, .int 0, .long 0])) : MtI l g yX10_byChance cX10_byChance 10 (some .int) ({ frames := 0, cells := 0, slots := 0, locals := 0 }) [.ref x, .int w, .long s0, .int h0] L f sz (fun r _ => r = (-2)) := by
  refine MtI.of (by decide +kernel) (Nat.le_of_ble_eq_true rfl) ?_
  intro p e s m below meth c A hEn hP hD hS ls hl
  obtain ⟨hx, hb, hr, hml, hown, hlocks, hts, hG, hA, hE, hnm⟩ := hEn
  have hown : s.vm.findClass "RulerWord" = some m.cls := hown
  have hl : lv_has ls 10 [(0, .ref x), (1, .int w), (2, .long s0), (4, .int h0)] := hl
  refine lv_aload_n hx hb dX10_byChance_0 rfl (lv_at hl 0 rfl) ?_
  refine pl_get (v := .int 0) hx hb hts (fun w h => mT (inX10 w h)) hown hG.1 hP hm_x hf_x rfl 15 (by decide) (hts _ (mT wg_490)) (fun _ h => h) rfl dX10_byChance_1 ?_
  refine lv_if_eq (tgt := 30) hx hb dX10_byChance_4 (by decide) (fun c1 => ?_) (fun c1 => absurd (by decide) c1)
  refine lv_bipush (v := (-2)) hx hb dX10_byChance_30 (by decide) ?_
  exact ret_i (ty := .int) hx hb hr hlocks (rfl) hP hD hS (Nat.le_of_ble_eq_true rfl) (Nat.le_of_ble_eq_true rfl) (rfl) dX10_byChance_32

set_option maxHeartbeats 4000000 in
set_option maxRecDepth 100000 in
theorem k_X10_shown (l : Launch) (g : GG) (L : List Nat) (f : HP) (sz : Nat) (x t dr co ot dp pn ch fr nw kp tr ac se tx rf : Nat) (p0 : Int32) (k : Int32) (hm_x : x ∈ L) (hf_x : f x = .inr (9, [.ref t, .ref dr, .ref co, .ref ot, .ref dp, .ref pn, .ref ch, .ref fr, .ref nw, .ref kp, .ref tr, .ref ac, .ref se, .ref tx, .ref rf, .int 0, .int 0, .long 0])) : MtI l g yX10_shown cX10_shown 5 (some .int) ({ frames := 2, cells := 0, slots := 0, locals := 41 }) [.ref x, .int p0, .int k] L f sz (fun r _ => r = (-1)) := by
  refine MtI.of (by decide +kernel) (Nat.le_of_ble_eq_true rfl) ?_
  intro p e s m below meth c A hEn hP hD hS ls hl
  obtain ⟨hx, hb, hr, hml, hown, hlocks, hts, hG, hA, hE, hnm⟩ := hEn
  have hown : s.vm.findClass "RulerWord" = some m.cls := hown
  have hl : lv_has ls 5 [(0, .ref x), (1, .int p0), (2, .int k)] := hl
  refine lv_aload_n hx hb dX10_shown_0 rfl (lv_at hl 0 rfl) ?_
  refine lv_iload_n hx hb dX10_shown_1 rfl (lv_at hl 1 rfl) ?_
  refine call_i (run_V (rm := { frames := 1, cells := 0, slots := 0, locals := 20 }) hx hb hml hown hts (k_X10_isOver l g _ _ _ x t dr co ot dp pn ch fr nw kp tr ac se tx rf p0 hm_x hf_x) cV_X10_isOver wg_952 ⟨Nat.le_of_ble_eq_true rfl, Nat.le_of_ble_eq_true rfl⟩ hG hE hA hP hD hS hm_x hf_x rfl rfl hl.1 (As := [.int p0]) (rest := []) rfl (Nat.le_of_ble_eq_true rfl) dX10_shown_2 ⟨Nat.le_of_ble_eq_true rfl, Nat.le_of_ble_eq_true rfl⟩) hA hD hS (fun r1 L2 f3 H locs hp4 hP hD hS => ?_)
  obtain ⟨er5a, er5b, er5⟩ : L2 = _ ∧ f3 = _ ∧ r1 = 0 := hp4
  rw [er5a, er5b] at hP hD
  subst er5
  refine lv_if_ne (tgt := 10) hx hb dX10_shown_5 (by decide) (fun c6 => absurd rfl c6) (fun c6 => ?_)
  refine lv_iconst (v := (-1)) hx hb dX10_shown_8 (by decide) ?_
  exact ret_i (ty := .int) hx hb hr hlocks (rfl) hP hD hS (Nat.le_of_ble_eq_true rfl) (Nat.le_of_ble_eq_true rfl) (rfl) dX10_shown_9

set_option maxHeartbeats 4000000 in
set_option maxRecDepth 100000 in
theorem k_X10_undo (l : Launch) (g : GG) (L : List Nat) (f : HP) (sz : Nat) (x t dr co ot dp pn ch fr nw kp tr ac se tx rf ah : Nat) (hm_x : x ∈ L) (hf_x : f x = .inr (9, [.ref t, .ref dr, .ref co, .ref ot, .ref dp, .ref pn, .ref ch, .ref fr, .ref nw, .ref kp, .ref tr, .ref ac, .ref se, .ref tx, .ref rf, .int 0, .int 0, .long 0])) (hm_ac : ac ∈ L) (hf_ac : f ac = .inr (0, [.ref ah, .int 0, .int 0])) : MtI l g yX10_undo cX10_undo 1 (some .int) ({ frames := 1, cells := 0, slots := 0, locals := 21 }) [.ref x] L f sz (fun r _ => r = (-1)) := by
  refine MtI.of (by decide +kernel) (Nat.le_of_ble_eq_true rfl) ?_
  intro p e s m below meth c A hEn hP hD hS ls hl
  obtain ⟨hx, hb, hr, hml, hown, hlocks, hts, hG, hA, hE, hnm⟩ := hEn
  have hown : s.vm.findClass "RulerWord" = some m.cls := hown
  have hl : lv_has ls 1 [(0, .ref x)] := hl
  refine lv_aload_n hx hb dX10_undo_0 rfl (lv_at hl 0 rfl) ?_
  refine pl_get (v := .ref ac) hx hb hts (fun w h => mT (inX10 w h)) hown hG.1 hP hm_x hf_x rfl 11 (by decide) (hts _ (mT wg_486)) (fun _ h => h) rfl dX10_undo_1 ?_
  refine lv_aload_n hx hb dX10_undo_4 rfl (lv_at hl 0 rfl) ?_
  refine pl_get (v := .ref nw) hx hb hts (fun w h => mT (inX10 w h)) hown hG.1 hP hm_x hf_x rfl 8 (by decide) (hts _ (mT wg_483)) (fun _ h => h) rfl dX10_undo_5 ?_
  refine call_i (run_VN (rm := { frames := 0, cells := 0, slots := 0, locals := 0 }) hx hb hml hown hts (k_X0_takeBack l g _ _ _ ac ah nw hm_ac hf_ac) cV_X0_takeBack wn_1210 ⟨Nat.le_of_ble_eq_true rfl, Nat.le_of_ble_eq_true rfl⟩ hG hE hA hP hD hS hm_ac hf_ac rfl rfl hl.1 (As := [.ref nw]) (rest := []) rfl (Nat.le_of_ble_eq_true rfl) dX10_undo_8 ⟨Nat.le_of_ble_eq_true rfl, Nat.le_of_ble_eq_true rfl⟩) hA hD hS (fun r1 L2 f3 H locs hp4 hP hD hS => ?_)
  obtain ⟨er5a, er5b, er5⟩ : L2 = _ ∧ f3 = _ ∧ r1 = 0 := hp4
  rw [er5a, er5b] at hP hD
  subst er5
  refine lv_if_eq (tgt := 24) hx hb dX10_undo_11 (by decide) (fun c6 => ?_) (fun c6 => absurd (by decide) c6)
  refine lv_iconst (v := (-1)) hx hb dX10_undo_24 (by decide) ?_
  exact ret_i (ty := .int) hx hb hr hlocks (rfl) hP hD hS (Nat.le_of_ble_eq_true rfl) (Nat.le_of_ble_eq_true rfl) (rfl) dX10_undo_25

set_option maxHeartbeats 4000000 in
set_option maxRecDepth 100000 in
theorem k_X10_image (l : Launch) (g : GG) (L : List Nat) (f : HP) (sz : Nat) (x t dr co ot dp pn ch fr nw kp tr ac se tx rf : Nat) (hm_x : x ∈ L) (hf_x : f x = .inr (9, [.ref t, .ref dr, .ref co, .ref ot, .ref dp, .ref pn, .ref ch, .ref fr, .ref nw, .ref kp, .ref tr, .ref ac, .ref se, .ref tx, .ref rf, .int 0, .int 0, .long 0])) : MtI l g yX10_image cX10_image 1 (some .int) ({ frames := 0, cells := 0, slots := 0, locals := 0 }) [.ref x] L f sz (fun r _ => r = (-1)) := by
  refine MtI.of (by decide +kernel) (Nat.le_of_ble_eq_true rfl) ?_
  intro p e s m below meth c A hEn hP hD hS ls hl
  obtain ⟨hx, hb, hr, hml, hown, hlocks, hts, hG, hA, hE, hnm⟩ := hEn
  have hown : s.vm.findClass "RulerWord" = some m.cls := hown
  have hl : lv_has ls 1 [(0, .ref x)] := hl
  refine lv_aload_n hx hb dX10_image_0 rfl (lv_at hl 0 rfl) ?_
  refine pl_get (v := .int 0) hx hb hts (fun w h => mT (inX10 w h)) hown hG.1 hP hm_x hf_x rfl 15 (by decide) (hts _ (mT wg_490)) (fun _ h => h) rfl dX10_image_1 ?_
  refine lv_if_ne (tgt := 9) hx hb dX10_image_4 (by decide) (fun c1 => absurd rfl c1) (fun c1 => ?_)
  refine lv_iconst (v := (-1)) hx hb dX10_image_7 (by decide) ?_
  exact ret_i (ty := .int) hx hb hr hlocks (rfl) hP hD hS (Nat.le_of_ble_eq_true rfl) (Nat.le_of_ble_eq_true rfl) (rfl) dX10_image_8

set_option maxHeartbeats 4000000 in
set_option maxRecDepth 100000 in
theorem k_X10_back (l : Launch) (g : GG) (L : List Nat) (f : HP) (sz : Nat) (x t dr co ot dp pn ch fr nw kp tr ac se tx rf : Nat) (hm_x : x ∈ L) (hf_x : f x = .inr (9, [.ref t, .ref dr, .ref co, .ref ot, .ref dp, .ref pn, .ref ch, .ref fr, .ref nw, .ref kp, .ref tr, .ref ac, .ref se, .ref tx, .ref rf, .int 0, .int 0, .long 0])) : MtI l g yX10_back cX10_back 1 (some .int) ({ frames := 0, cells := 0, slots := 0, locals := 0 }) [.ref x] L f sz (fun r _ => r = (-1)) := by
  refine MtI.of (by decide +kernel) (Nat.le_of_ble_eq_true rfl) ?_
  intro p e s m below meth c A hEn hP hD hS ls hl
  obtain ⟨hx, hb, hr, hml, hown, hlocks, hts, hG, hA, hE, hnm⟩ := hEn
  have hown : s.vm.findClass "RulerWord" = some m.cls := hown
  have hl : lv_has ls 1 [(0, .ref x)] := hl
  refine lv_aload_n hx hb dX10_back_0 rfl (lv_at hl 0 rfl) ?_
  refine pl_get (v := .int 0) hx hb hts (fun w h => mT (inX10 w h)) hown hG.1 hP hm_x hf_x rfl 16 (by decide) (hts _ (mT wg_491)) (fun _ h => h) rfl dX10_back_1 ?_
  refine lv_if_ne (tgt := 9) hx hb dX10_back_4 (by decide) (fun c1 => absurd rfl c1) (fun c1 => ?_)
  refine lv_iconst (v := (-1)) hx hb dX10_back_7 (by decide) ?_
  exact ret_i (ty := .int) hx hb hr hlocks (rfl) hP hD hS (Nat.le_of_ble_eq_true rfl) (Nat.le_of_ble_eq_true rfl) (rfl) dX10_back_8

set_option maxHeartbeats 4000000 in
set_option maxRecDepth 100000 in
theorem k_X10_status (l : Launch) (g : GG) (L : List Nat) (f : HP) (sz : Nat) (x t dr co ot dp pn ch fr nw kp tr ac se tx rf : Nat) (w : Int32) (hm_x : x ∈ L) (hf_x : f x = .inr (9, [.ref t, .ref dr, .ref co, .ref ot, .ref dp, .ref pn, .ref ch, .ref fr, .ref nw, .ref kp, .ref tr, .ref ac, .ref se, .ref tx, .ref rf, .int 0, .int 0, .long 0])) (hm_rf : rf ∈ L) (hf_rf : f rf = .inl (g.2.1 0, 5, .inl (fun _ => 0))) : MtI l g yX10_status cX10_status 2 (some .int) ({ frames := 0, cells := 0, slots := 0, locals := 0 }) [.ref x, .int w] L f sz (fun r _ => r = statV w) := by
  refine MtI.of (by decide +kernel) (Nat.le_of_ble_eq_true rfl) ?_
  intro p e s m below meth c A hEn hP hD hS ls hl
  obtain ⟨hx, hb, hr, hml, hown, hlocks, hts, hG, hA, hE, hnm⟩ := hEn
  have hown : s.vm.findClass "RulerWord" = some m.cls := hown
  have hl : lv_has ls 2 [(0, .ref x), (1, .int w)] := hl
  refine lv_iload_n hx hb dX10_status_0 rfl (lv_at hl 1 rfl) ?_
  refine lv_if_lt (tgt := 13) hx hb dX10_status_1 (by decide) (fun c1 => ?_) (fun c1 => ?_)
  ·
    refine lv_iconst (v := (-1)) hx hb dX10_status_13 (by decide) ?_
    refine lv_goto (tgt := 23) hx hb dX10_status_14 (by decide) ?_
    exact ret_i (ty := .int) hx hb hr hlocks (rfl) hP hD hS (Nat.le_of_ble_eq_true rfl) (Nat.le_of_ble_eq_true rfl) (by simp [statV, c1]) dX10_status_23
  ·
    refine lv_iload_n hx hb dX10_status_4 rfl (lv_at hl 1 rfl) ?_
    refine lv_aload_n hx hb dX10_status_5 rfl (lv_at hl 0 rfl) ?_
    refine pl_get (v := .ref rf) hx hb hts (fun w h => mT (inX10 w h)) hown hG.1 hP hm_x hf_x rfl 14 (by decide) (hts _ (mT wg_489)) (fun _ h => h) rfl dX10_status_6 ?_
    refine pl_alen (v := 5) hx hb hG.1 hP hm_rf 0 hf_rf rfl (rfl) dX10_status_9 ?_
    refine lv_icmp_lt (tgt := 17) hx hb dX10_status_10 (by decide) (fun c2 => ?_) (fun c2 => ?_)
    ·
      refine lv_aload_n hx hb dX10_status_17 rfl (lv_at hl 0 rfl) ?_
      refine pl_get (v := .ref rf) hx hb hts (fun w h => mT (inX10 w h)) hown hG.1 hP hm_x hf_x rfl 14 (by decide) (hts _ (mT wg_489)) (fun _ h => h) rfl dX10_status_18 ?_
      refine lv_iload_n hx hb dX10_status_21 rfl (lv_at hl 1 rfl) ?_
      refine pl_iald hx hb hG.1 hP hm_rf 0 hf_rf rfl (in_of2 (k := 5) (by decide) c1 c2) dX10_status_22 ?_
      refine lv_topi (fun x3 ex3 => ?_)
      obtain rfl : x3 = 0 := ex3.trans (rfl)
      exact ret_i (ty := .int) hx hb hr hlocks (rfl) hP hD hS (Nat.le_of_ble_eq_true rfl) (Nat.le_of_ble_eq_true rfl) (by simp [statV, c1, c2]) dX10_status_23
    ·
      refine lv_iconst (v := (-1)) hx hb dX10_status_13 (by decide) ?_
      refine lv_goto (tgt := 23) hx hb dX10_status_14 (by decide) ?_
      exact ret_i (ty := .int) hx hb hr hlocks (rfl) hP hD hS (Nat.le_of_ble_eq_true rfl) (Nat.le_of_ble_eq_true rfl) (by simp [statV, c1, c2]) dX10_status_23

set_option maxHeartbeats 4000000 in
set_option maxRecDepth 100000 in
theorem k_X10_most (l : Launch) (g : GG) (L : List Nat) (f : HP) (sz : Nat) (x t dr co ot dp pn ch fr nw kp tr ac se tx rf : Nat) (w : Int32) (hm_x : x ∈ L) (hf_x : f x = .inr (9, [.ref t, .ref dr, .ref co, .ref ot, .ref dp, .ref pn, .ref ch, .ref fr, .ref nw, .ref kp, .ref tr, .ref ac, .ref se, .ref tx, .ref rf, .int 0, .int 0, .long 0])) : MtI l g yX10_most cX10_most 2 (some .int) ({ frames := 0, cells := 0, slots := 0, locals := 0 }) [.ref x, .int w] L f sz (fun r _ => r = (-1)) := by
  refine MtI.of (by decide +kernel) (Nat.le_of_ble_eq_true rfl) ?_
  intro p e s m below meth c A hEn hP hD hS ls hl
  obtain ⟨hx, hb, hr, hml, hown, hlocks, hts, hG, hA, hE, hnm⟩ := hEn
  have hown : s.vm.findClass "RulerWord" = some m.cls := hown
  have hl : lv_has ls 2 [(0, .ref x), (1, .int w)] := hl
  refine lv_aload_n hx hb dX10_most_0 rfl (lv_at hl 0 rfl) ?_
  refine pl_get (v := .int 0) hx hb hts (fun w h => mT (inX10 w h)) hown hG.1 hP hm_x hf_x rfl 15 (by decide) (hts _ (mT wg_490)) (fun _ h => h) rfl dX10_most_1 ?_
  refine lv_if_ne (tgt := 9) hx hb dX10_most_4 (by decide) (fun c1 => absurd rfl c1) (fun c1 => ?_)
  refine lv_iconst (v := (-1)) hx hb dX10_most_7 (by decide) ?_
  exact ret_i (ty := .int) hx hb hr hlocks (rfl) hP hD hS (Nat.le_of_ble_eq_true rfl) (Nat.le_of_ble_eq_true rfl) (rfl) dX10_most_8

set_option maxHeartbeats 4000000 in
set_option maxRecDepth 100000 in
theorem k_X10_count (l : Launch) (g : GG) (L : List Nat) (f : HP) (sz : Nat) (x t dr co ot dp pn ch fr nw kp tr ac se tx rf tb ah n0 n1 n2 n3 n4 n5 n6 n7 n8 : Nat) (w : Int32) (hm_x : x ∈ L) (hf_x : f x = .inr (9, [.ref t, .ref dr, .ref co, .ref ot, .ref dp, .ref pn, .ref ch, .ref fr, .ref nw, .ref kp, .ref tr, .ref ac, .ref se, .ref tx, .ref rf, .int 0, .int 0, .long 0])) (hm_t : t ∈ L) (hf_t : f t = .inr (8, [.ref tb, .int 0, .int 0, .int 0, .int 0])) (hm_ac : ac ∈ L) (hf_ac : f ac = .inr (0, [.ref ah, .int 0, .int 0])) (hm_nw : nw ∈ L) (hf_nw : f nw = .inr (3, [.int 0, .int 0, .int 0, .int 0, .int 0, .int 0, .int 0, .long 0, .long 0, .ref n0, .ref n1, .ref n2, .ref n3, .ref n4, .ref n5, .ref n6, .ref n7, .ref n8])) : MtI l g yX10_count cX10_count 2 (some .int) ({ frames := 0, cells := 0, slots := 0, locals := 0 }) [.ref x, .int w] L f sz (fun r _ => r = cntV w) := by
  refine MtI.of (by decide +kernel) (Nat.le_of_ble_eq_true rfl) ?_
  intro p e s m below meth c A hEn hP hD hS ls hl
  obtain ⟨hx, hb, hr, hml, hown, hlocks, hts, hG, hA, hE, hnm⟩ := hEn
  have hown : s.vm.findClass "RulerWord" = some m.cls := hown
  have hl : lv_has ls 2 [(0, .ref x), (1, .int w)] := hl
  refine lv_iload_n hx hb dX10_count_0 rfl (lv_at hl 1 rfl) ?_
  by_cases c1 : w = 0
  ·
    subst c1
    refine lv_tableIn (off := 27) (tgt := 28) hx hb dX10_count_1 (by decide) (by decide) (by decide) (by decide) ?_
    refine lv_aload_n hx hb dX10_count_28 rfl (lv_at hl 0 rfl) ?_
    refine pl_get (v := .ref t) hx hb hts (fun w h => mT (inX10 w h)) hown hG.1 hP hm_x hf_x rfl 0 (by decide) (hts _ (mT wg_475)) (fun _ h => h) rfl dX10_count_29 ?_
    refine pl_getN (v := .int 0) hx hb hts (fun w h => mT (inX8 w h)) hown hG.1 hP hm_t hf_t rfl 1 (by decide) (hG.2.1 _ wn_197) (fun _ h => h) rfl dX10_count_32 ?_
    exact ret_i (ty := .int) hx hb hr hlocks (rfl) hP hD hS (Nat.le_of_ble_eq_true rfl) (Nat.le_of_ble_eq_true rfl) (by simp [cntV]) dX10_count_35
  by_cases c2 : w = 1
  ·
    subst c2
    refine lv_tableIn (off := 35) (tgt := 36) hx hb dX10_count_1 (by decide) (by decide) (by decide) (by decide) ?_
    refine lv_aload_n hx hb dX10_count_36 rfl (lv_at hl 0 rfl) ?_
    refine pl_get (v := .ref ac) hx hb hts (fun w h => mT (inX10 w h)) hown hG.1 hP hm_x hf_x rfl 11 (by decide) (hts _ (mT wg_486)) (fun _ h => h) rfl dX10_count_37 ?_
    refine pl_getN (v := .int 0) hx hb hts (fun w h => mT (inX0 w h)) hown hG.1 hP hm_ac hf_ac rfl 2 (by decide) (hG.2.1 _ wn_416) (fun _ h => h) rfl dX10_count_40 ?_
    exact ret_i (ty := .int) hx hb hr hlocks (rfl) hP hD hS (Nat.le_of_ble_eq_true rfl) (Nat.le_of_ble_eq_true rfl) (by simp [cntV]) dX10_count_43
  by_cases c3 : w = 2
  ·
    subst c3
    refine lv_tableIn (off := 43) (tgt := 44) hx hb dX10_count_1 (by decide) (by decide) (by decide) (by decide) ?_
    refine lv_aload_n hx hb dX10_count_44 rfl (lv_at hl 0 rfl) ?_
    refine pl_get (v := .ref nw) hx hb hts (fun w h => mT (inX10 w h)) hown hG.1 hP hm_x hf_x rfl 8 (by decide) (hts _ (mT wg_483)) (fun _ h => h) rfl dX10_count_45 ?_
    refine pl_getN (v := .int 0) hx hb hts (fun w h => mT (inX3 w h)) hown hG.1 hP hm_nw hf_nw rfl 2 (by decide) (hG.2.1 _ wn_341) (fun _ h => h) rfl dX10_count_48 ?_
    exact ret_i (ty := .int) hx hb hr hlocks (rfl) hP hD hS (Nat.le_of_ble_eq_true rfl) (Nat.le_of_ble_eq_true rfl) (by simp [cntV]) dX10_count_51
  refine lv_tableOut (tgt := 52) hx hb dX10_count_1 (tb_out (by decide) (by decide) (fun k h1 h2 => ?_)) (by decide) ?_
  · rcases (show k = 0 ∨ k = 1 ∨ k = 2 by omega) with rfl | rfl | rfl
    · exact fun e => c1 (e.trans (by decide))
    · exact fun e => c2 (e.trans (by decide))
    · exact fun e => c3 (e.trans (by decide))
  ·
    refine lv_iconst (v := (-1)) hx hb dX10_count_52 (by decide) ?_
    exact ret_i (ty := .int) hx hb hr hlocks (rfl) hP hD hS (Nat.le_of_ble_eq_true rfl) (Nat.le_of_ble_eq_true rfl) (by simp [cntV, c1, c2, c3]) dX10_count_53
