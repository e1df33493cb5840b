set_option maxHeartbeats 4000000 in
set_option maxRecDepth 100000 in
theorem k_X10_round (l : Launch) (g : GG) (L : List Nat) (f : HP) (sz : Nat) (x t dr co ot dp pn ch fr nw kp tr ac se tx rf : Nat) (hm_x : x ∈ L) (hf_x : f x = .inr (9, [.ref t, .ref dr, .ref co, .ref ot, .ref dp, .ref pn, .ref ch, .ref fr, .ref nw, .ref kp, .ref tr, .ref ac, .ref se, .ref tx, .ref rf, .int 0, .int 0, .long 0])) : MtI l g yX10_round cX10_round 1 (some .int) ({ frames := 1, cells := 0, slots := 0, locals := 20 }) [.ref x] L f sz (fun r _ => r = (-1)) := by
  refine MtI.of (by decide +kernel) (Nat.le_of_ble_eq_true rfl) ?_
  intro p e s m below meth c A hEn hP hD hS ls hl
  obtain ⟨hx, hb, hr, hml, hown, hlocks, hts, hG, hA, hE, hnm⟩ := hEn
  have hown : s.vm.findClass "RulerWord" = some m.cls := hown
  have hl : lv_has ls 1 [(0, .ref x)] := hl
  refine lv_aload_n hx hb dX10_round_0 rfl (lv_at hl 0 rfl) ?_
  refine call_i (run_V (rm := { frames := 0, cells := 0, slots := 0, locals := 0 }) hx hb hml hown hts (k_X10_roundsLeft l g _ _ _ x t dr co ot dp pn ch fr nw kp tr ac se tx rf hm_x hf_x) cV_X10_roundsLeft wg_751 ⟨Nat.le_of_ble_eq_true rfl, Nat.le_of_ble_eq_true rfl⟩ hG hE hA hP hD hS hm_x hf_x rfl rfl hl.1 (As := []) (rest := []) rfl (by decide) dX10_round_1 ⟨Nat.le_of_ble_eq_true rfl, Nat.le_of_ble_eq_true rfl⟩) hA hD hS (fun r1 L2 f3 H locs hp4 hP hD hS => ?_)
  obtain ⟨er5a, er5b, er5⟩ : L2 = _ ∧ f3 = _ ∧ r1 = 0 := hp4
  rw [er5a, er5b] at hP hD
  subst er5
  refine lv_iconst (v := 1) hx hb dX10_round_4 (by decide) ?_
  refine lv_icmp_ge (tgt := 10) hx hb dX10_round_5 (by decide) (fun c6 => absurd c6 (by decide)) (fun c6 => ?_)
  refine lv_iconst (v := (-1)) hx hb dX10_round_8 (by decide) ?_
  exact ret_i (ty := .int) hx hb hr hlocks (rfl) hP hD hS (Nat.le_of_ble_eq_true rfl) (Nat.le_of_ble_eq_true rfl) (rfl) dX10_round_9

set_option maxHeartbeats 4000000 in
set_option maxRecDepth 100000 in
theorem k_X10_run (l : Launch) (g : GG) (L : List Nat) (f : HP) (sz : Nat) (x t dr co ot dp pn ch fr nw kp tr ac se tx rf : Nat) (hm_x : x ∈ L) (hf_x : f x = .inr (9, [.ref t, .ref dr, .ref co, .ref ot, .ref dp, .ref pn, .ref ch, .ref fr, .ref nw, .ref kp, .ref tr, .ref ac, .ref se, .ref tx, .ref rf, .int 0, .int 0, .long 0])) : MtI l g yX10_run cX10_run 3 (some .int) ({ frames := 1, cells := 0, slots := 0, locals := 20 }) [.ref x] L f sz (fun r _ => r = (-1)) := by
  refine MtI.of (by decide +kernel) (Nat.le_of_ble_eq_true rfl) ?_
  intro p e s m below meth c A hEn hP hD hS ls hl
  obtain ⟨hx, hb, hr, hml, hown, hlocks, hts, hG, hA, hE, hnm⟩ := hEn
  have hown : s.vm.findClass "RulerWord" = some m.cls := hown
  have hl : lv_has ls 3 [(0, .ref x)] := hl
  refine lv_aload_n hx hb dX10_run_0 rfl (lv_at hl 0 rfl) ?_
  refine call_i (run_V (rm := { frames := 0, cells := 0, slots := 0, locals := 0 }) hx hb hml hown hts (k_X10_roundsLeft l g _ _ _ x t dr co ot dp pn ch fr nw kp tr ac se tx rf hm_x hf_x) cV_X10_roundsLeft wg_751 ⟨Nat.le_of_ble_eq_true rfl, Nat.le_of_ble_eq_true rfl⟩ hG hE hA hP hD hS hm_x hf_x rfl rfl hl.1 (As := []) (rest := []) rfl (by decide) dX10_run_1 ⟨Nat.le_of_ble_eq_true rfl, Nat.le_of_ble_eq_true rfl⟩) hA hD hS (fun r1 L2 f3 H locs hp4 hP hD hS => ?_)
  obtain ⟨er5a, er5b, er5⟩ : L2 = _ ∧ f3 = _ ∧ r1 = 0 := hp4
  rw [er5a, er5b] at hP hD
  subst er5
  refine lv_istore_n (lv' := [(1, .int 0), (0, .ref x)]) hx hb dX10_run_4 rfl hl (by decide) rfl (fun ls hl => ?_)
  refine lv_iload_n hx hb dX10_run_5 rfl (lv_at hl 0 rfl) ?_
  refine lv_iconst (v := 1) hx hb dX10_run_6 (by decide) ?_
  refine lv_icmp_ge (tgt := 12) hx hb dX10_run_7 (by decide) (fun c6 => absurd c6 (by decide)) (fun c6 => ?_)
  refine lv_iconst (v := (-1)) hx hb dX10_run_10 (by decide) ?_
  exact ret_i (ty := .int) hx hb hr hlocks (rfl) hP hD hS (Nat.le_of_ble_eq_true rfl) (Nat.le_of_ble_eq_true rfl) (rfl) dX10_run_11

set_option maxHeartbeats 4000000 in
set_option maxRecDepth 100000 in
theorem k_X10_peer (l : Launch) (g : GG) (L : List Nat) (f : HP) (sz : Nat) (x t dr co ot dp pn ch fr nw kp tr ac se tx rf : Nat) (i : Int32) (w : Int32) (hm_x : x ∈ L) (hf_x : f x = .inr (9, [.ref t, .ref dr, .ref co, .ref ot, .ref dp, .ref pn, .ref ch, .ref fr, .ref nw, .ref kp, .ref tr, .ref ac, .ref se, .ref tx, .ref rf, .int 0, .int 0, .long 0])) : MtI l g yX10_peer cX10_peer 3 (some .int) ({ frames := 1, cells := 0, slots := 0, locals := 21 }) [.ref x, .int i, .int w] L f sz (fun r _ => r = (-1)) := by
  refine MtI.of (by decide +kernel) (Nat.le_of_ble_eq_true rfl) ?_
  intro p e s m below meth c A hEn hP hD hS ls hl
  obtain ⟨hx, hb, hr, hml, hown, hlocks, hts, hG, hA, hE, hnm⟩ := hEn
  have hown : s.vm.findClass "RulerWord" = some m.cls := hown
  have hl : lv_has ls 3 [(0, .ref x), (1, .int i), (2, .int w)] := hl
  refine lv_aload_n hx hb dX10_peer_0 rfl (lv_at hl 0 rfl) ?_
  refine lv_iload_n hx hb dX10_peer_1 rfl (lv_at hl 1 rfl) ?_
  refine call_i (run_V (rm := { frames := 0, cells := 0, slots := 0, locals := 0 }) hx hb hml hown hts (k_X10_isPeer l g _ _ _ x t dr co ot dp pn ch fr nw kp tr ac se tx rf i hm_x hf_x) cV_X10_isPeer wg_897 ⟨Nat.le_of_ble_eq_true rfl, Nat.le_of_ble_eq_true rfl⟩ hG hE hA hP hD hS hm_x hf_x rfl rfl hl.1 (As := [.int i]) (rest := []) rfl (by decide) dX10_peer_2 ⟨Nat.le_of_ble_eq_true rfl, Nat.le_of_ble_eq_true rfl⟩) hA hD hS (fun r1 L2 f3 H locs hp4 hP hD hS => ?_)
  obtain ⟨er5a, er5b, er5⟩ : L2 = _ ∧ f3 = _ ∧ r1 = 0 := hp4
  rw [er5a, er5b] at hP hD
  subst er5
  refine lv_if_ne (tgt := 10) hx hb dX10_peer_5 (by decide) (fun c6 => absurd c6 (by decide)) (fun c6 => ?_)
  refine lv_iconst (v := (-1)) hx hb dX10_peer_8 (by decide) ?_
  exact ret_i (ty := .int) hx hb hr hlocks (rfl) hP hD hS (Nat.le_of_ble_eq_true rfl) (Nat.le_of_ble_eq_true rfl) (rfl) dX10_peer_9
