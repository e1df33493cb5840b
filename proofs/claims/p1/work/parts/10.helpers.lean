set_option maxHeartbeats 4000000 in
set_option maxRecDepth 100000 in
theorem k_X10_roundsLeft (l : Launch) (g : GG) (L : List Nat) (f : HP) (sz : Nat) (x t dr co ot dp pn ch fr nw kp tr ac se tx rf : Nat) (hm_x : x ∈ L) (hf_x : f x = .inr (9, [.ref t, .ref dr, .ref co, .ref ot, .ref dp, .ref pn, .ref ch, .ref fr, .ref nw, .ref kp, .ref tr, .ref ac, .ref se, .ref tx, .ref rf, .int 0, .int 0, .long 0])) : MtI l g yX10_roundsLeft cX10_roundsLeft 1 (some .int) ({ frames := 0, cells := 0, slots := 0, locals := 0 }) [.ref x] L f sz (fun r u => u.1 = L ∧ u.2 = f ∧ r = 0) := by
  refine MtI.of (by decide +kernel) (Nat.le_of_ble_eq_true rfl) ?_
  intro p e s m below meth c A hEn hP hD hS ls hl
  obtain ⟨hx, hb, hr, hml, hown, hlocks, hts, hG, hA, hE, hnm⟩ := hEn
  have hown : s.vm.findClass "RulerWord" = some m.cls := hown
  have hl : lv_has ls 1 [(0, .ref x)] := hl
  refine lv_aload_n hx hb dX10_roundsLeft_0 rfl (lv_at hl 0 rfl) ?_
  refine pl_get (v := .int 0) hx hb hts (fun w h => mT (inX10 w h)) hown hG.1 hP hm_x hf_x rfl 15 (by decide) (hts _ (mT wg_490)) (fun _ h => h) rfl dX10_roundsLeft_1 ?_
  refine lv_if_eq (tgt := 25) hx hb dX10_roundsLeft_4 (by decide) (fun c1 => ?_) (fun c1 => absurd (by decide) c1)
  refine lv_iconst (v := 0) hx hb dX10_roundsLeft_25 (by decide) ?_
  exact ret_i (ty := .int) hx hb hr hlocks (rfl) hP hD hS (Nat.le_of_ble_eq_true rfl) (Nat.le_of_ble_eq_true rfl) (⟨rfl, rfl, rfl⟩) dX10_roundsLeft_26

set_option maxHeartbeats 4000000 in
set_option maxRecDepth 100000 in
theorem k_X10_isPeer (l : Launch) (g : GG) (L : List Nat) (f : HP) (sz : Nat) (x t dr co ot dp pn ch fr nw kp tr ac se tx rf : Nat) (i : Int32) (hm_x : x ∈ L) (hf_x : f x = .inr (9, [.ref t, .ref dr, .ref co, .ref ot, .ref dp, .ref pn, .ref ch, .ref fr, .ref nw, .ref kp, .ref tr, .ref ac, .ref se, .ref tx, .ref rf, .int 0, .int 0, .long 0])) : MtI l g yX10_isPeer cX10_isPeer 2 (some .boolean) ({ frames := 0, cells := 0, slots := 0, locals := 0 }) [.ref x, .int i] L f sz (fun r u => u.1 = L ∧ u.2 = f ∧ r = 0) := by
  refine MtI.of (by decide +kernel) (Nat.le_of_ble_eq_true rfl) ?_
  intro p e s m below meth c A hEn hP hD hS ls hl
  obtain ⟨hx, hb, hr, hml, hown, hlocks, hts, hG, hA, hE, hnm⟩ := hEn
  have hown : s.vm.findClass "RulerWord" = some m.cls := hown
  have hl : lv_has ls 2 [(0, .ref x), (1, .int i)] := hl
  refine lv_aload_n hx hb dX10_isPeer_0 rfl (lv_at hl 0 rfl) ?_
  refine pl_get (v := .int 0) hx hb hts (fun w h => mT (inX10 w h)) hown hG.1 hP hm_x hf_x rfl 15 (by decide) (hts _ (mT wg_490)) (fun _ h => h) rfl dX10_isPeer_1 ?_
  refine lv_if_eq (tgt := 26) hx hb dX10_isPeer_4 (by decide) (fun c1 => ?_) (fun c1 => absurd (by decide) c1)
  refine lv_iconst (v := 0) hx hb dX10_isPeer_26 (by decide) ?_
  exact ret_i (ty := .boolean) hx hb hr hlocks (rfl) hP hD hS (Nat.le_of_ble_eq_true rfl) (Nat.le_of_ble_eq_true rfl) (⟨rfl, rfl, rfl⟩) dX10_isPeer_27

set_option maxHeartbeats 4000000 in
set_option maxRecDepth 100000 in
theorem k_X10_phasesOver (l : Launch) (g : GG) (L : List Nat) (f : HP) (sz : Nat) (x t dr co ot dp pn ch fr nw kp tr ac se tx rf : Nat) (hm_x : x ∈ L) (hf_x : f x = .inr (9, [.ref t, .ref dr, .ref co, .ref ot, .ref dp, .ref pn, .ref ch, .ref fr, .ref nw, .ref kp, .ref tr, .ref ac, .ref se, .ref tx, .ref rf, .int 0, .int 0, .long 0])) : MtI l g yX10_phasesOver cX10_phasesOver 1 (some .int) ({ frames := 0, cells := 0, slots := 0, locals := 0 }) [.ref x] L f sz (fun r u => u.1 = L ∧ u.2 = f ∧ r = 0) := by
  refine MtI.of (by decide +kernel) (Nat.le_of_ble_eq_true rfl) ?_
  intro p e s m below meth c A hEn hP hD hS ls hl
  obtain ⟨hx, hb, hr, hml, hown, hlocks, hts, hG, hA, hE, hnm⟩ := hEn
  have hown : s.vm.findClass "RulerWord" = some m.cls := hown
  have hl : lv_has ls 1 [(0, .ref x)] := hl
  refine lv_aload_n hx hb dX10_phasesOver_0 rfl (lv_at hl 0 rfl) ?_
  refine pl_get (v := .int 0) hx hb hts (fun w h => mT (inX10 w h)) hown hG.1 hP hm_x hf_x rfl 15 (by decide) (hts _ (mT wg_490)) (fun _ h => h) rfl dX10_phasesOver_1 ?_
  refine lv_if_eq (tgt := 29) hx hb dX10_phasesOver_4 (by decide) (fun c1 => ?_) (fun c1 => absurd (by decide) c1)
  refine lv_iconst (v := 0) hx hb dX10_phasesOver_29 (by decide) ?_
  exact ret_i (ty := .int) hx hb hr hlocks (rfl) hP hD hS (Nat.le_of_ble_eq_true rfl) (Nat.le_of_ble_eq_true rfl) (⟨rfl, rfl, rfl⟩) dX10_phasesOver_30

set_option maxHeartbeats 4000000 in
set_option maxRecDepth 100000 in
theorem k_X10_isOver (l : Launch) (g : GG) (L : List Nat) (f : HP) (sz : Nat) (x t dr co ot dp pn ch fr nw kp tr ac se tx rf : Nat) (ph : Int32) (hm_x : x ∈ L) (hf_x : f x = .inr (9, [.ref t, .ref dr, .ref co, .ref ot, .ref dp, .ref pn, .ref ch, .ref fr, .ref nw, .ref kp, .ref tr, .ref ac, .ref se, .ref tx, .ref rf, .int 0, .int 0, .long 0])) : MtI l g yX10_isOver cX10_isOver 2 (some .boolean) ({ frames := 1, cells := 0, slots := 0, locals := 20 }) [.ref x, .int ph] L f sz (fun r u => u.1 = L ∧ u.2 = f ∧ r = 0) := by
  refine MtI.of (by decide +kernel) (Nat.le_of_ble_eq_true rfl) ?_
  intro p e s m below meth c A hEn hP hD hS ls hl
  obtain ⟨hx, hb, hr, hml, hown, hlocks, hts, hG, hA, hE, hnm⟩ := hEn
  have hown : s.vm.findClass "RulerWord" = some m.cls := hown
  have hl : lv_has ls 2 [(0, .ref x), (1, .int ph)] := hl
  refine lv_iload_n hx hb dX10_isOver_0 rfl (lv_at hl 1 rfl) ?_
  refine lv_if_lt (tgt := 16) hx hb dX10_isOver_1 (by decide) (fun c1 => ?_) (fun c1 => ?_)
  ·
    refine lv_iconst (v := 0) hx hb dX10_isOver_16 (by decide) ?_
    exact ret_i (ty := .boolean) hx hb hr hlocks (rfl) hP hD hS (Nat.le_of_ble_eq_true rfl) (Nat.le_of_ble_eq_true rfl) (⟨rfl, rfl, rfl⟩) dX10_isOver_17
  ·
    refine lv_iload_n hx hb dX10_isOver_4 rfl (lv_at hl 1 rfl) ?_
    refine lv_aload_n hx hb dX10_isOver_5 rfl (lv_at hl 0 rfl) ?_
    refine call_i (run_V (rm := { frames := 0, cells := 0, slots := 0, locals := 0 }) hx hb hml hown hts (k_X10_phasesOver l g _ _ _ x t dr co ot dp pn ch fr nw kp tr ac se tx rf hm_x hf_x) cV_X10_phasesOver wg_956 ⟨Nat.le_of_ble_eq_true rfl, Nat.le_of_ble_eq_true rfl⟩ hG hE hA hP hD hS hm_x hf_x rfl rfl hl.1 (As := []) (rest := [.int ph]) rfl (Nat.le_of_ble_eq_true rfl) dX10_isOver_6 ⟨Nat.le_of_ble_eq_true rfl, Nat.le_of_ble_eq_true rfl⟩) hA hD hS (fun r2 L3 f4 H locs hp5 hP hD hS => ?_)
    obtain ⟨er6a, er6b, er6⟩ : L3 = _ ∧ f4 = _ ∧ r2 = 0 := hp5
    rw [er6a, er6b] at hP hD
    subst er6
    refine lv_icmp_ge (tgt := 16) hx hb dX10_isOver_9 (by decide) (fun c7 => ?_) (fun c7 => cp_lt_f_ge c1 c7)
    refine lv_iconst (v := 0) hx hb dX10_isOver_16 (by decide) ?_
    exact ret_i (ty := .boolean) hx hb hr hlocks (rfl) hP hD hS (Nat.le_of_ble_eq_true rfl) (Nat.le_of_ble_eq_true rfl) (⟨rfl, rfl, rfl⟩) dX10_isOver_17

set_option maxHeartbeats 4000000 in
set_option maxRecDepth 100000 in
theorem k_X10_isAsked (l : Launch) (g : GG) (L : List Nat) (f : HP) (sz : Nat) (x t dr co ot dp pn ch fr nw kp tr ac se tx rf : Nat) (fa : Int32) (hm_x : x ∈ L) (hf_x : f x = .inr (9, [.ref t, .ref dr, .ref co, .ref ot, .ref dp, .ref pn, .ref ch, .ref fr, .ref nw, .ref kp, .ref tr, .ref ac, .ref se, .ref tx, .ref rf, .int 0, .int 0, .long 0])) : MtI l g yX10_isAsked cX10_isAsked 2 (some .boolean) ({ frames := 0, cells := 0, slots := 0, locals := 0 }) [.ref x, .int fa] L f sz (fun r u => u.1 = L ∧ u.2 = f ∧ r = 0) := by
  refine MtI.of (by decide +kernel) (Nat.le_of_ble_eq_true rfl) ?_
  intro p e s m below meth c A hEn hP hD hS ls hl
  obtain ⟨hx, hb, hr, hml, hown, hlocks, hts, hG, hA, hE, hnm⟩ := hEn
  have hown : s.vm.findClass "RulerWord" = some m.cls := hown
  have hl : lv_has ls 2 [(0, .ref x), (1, .int fa)] := hl
  refine lv_aload_n hx hb dX10_isAsked_0 rfl (lv_at hl 0 rfl) ?_
  refine pl_get (v := .int 0) hx hb hts (fun w h => mT (inX10 w h)) hown hG.1 hP hm_x hf_x rfl 15 (by decide) (hts _ (mT wg_490)) (fun _ h => h) rfl dX10_isAsked_1 ?_
  refine lv_if_eq (tgt := 21) hx hb dX10_isAsked_4 (by decide) (fun c1 => ?_) (fun c1 => absurd (by decide) c1)
  refine lv_iconst (v := 0) hx hb dX10_isAsked_21 (by decide) ?_
  exact ret_i (ty := .boolean) hx hb hr hlocks (rfl) hP hD hS (Nat.le_of_ble_eq_true rfl) (Nat.le_of_ble_eq_true rfl) (⟨rfl, rfl, rfl⟩) dX10_isAsked_22

set_option maxHeartbeats 4000000 in
set_option maxRecDepth 100000 in
theorem k_X10_whyNotSaid (l : Launch) (g : GG) (L : List Nat) (f : HP) (sz : Nat) (x t dr co ot dp pn ch fr nw kp tr ac se tx rf : Nat) (a1 : Int32) (a2 : Int32) (a3 : Int32) (a4 : Int32) (a5 : Int32) (hm_x : x ∈ L) (hf_x : f x = .inr (9, [.ref t, .ref dr, .ref co, .ref ot, .ref dp, .ref pn, .ref ch, .ref fr, .ref nw, .ref kp, .ref tr, .ref ac, .ref se, .ref tx, .ref rf, .int 0, .int 0, .long 0])) : MtI l g yX10_whyNotSaid cX10_whyNotSaid 6 (some .int) ({ frames := 0, cells := 0, slots := 0, locals := 0 }) [.ref x, .int a1, .int a2, .int a3, .int a4, .int a5] L f sz (fun r u => u.1 = L ∧ u.2 = f ∧ r = 0) := by
  refine MtI.of (by decide +kernel) (Nat.le_of_ble_eq_true rfl) ?_
  intro p e s m below meth c A hEn hP hD hS ls hl
  obtain ⟨hx, hb, hr, hml, hown, hlocks, hts, hG, hA, hE, hnm⟩ := hEn
  have hown : s.vm.findClass "RulerWord" = some m.cls := hown
  have hl : lv_has ls 6 [(0, .ref x), (1, .int a1), (2, .int a2), (3, .int a3), (4, .int a4), (5, .int a5)] := hl
  refine lv_aload_n hx hb dX10_whyNotSaid_0 rfl (lv_at hl 0 rfl) ?_
  refine pl_get (v := .int 0) hx hb hts (fun w h => mT (inX10 w h)) hown hG.1 hP hm_x hf_x rfl 15 (by decide) (hts _ (mT wg_490)) (fun _ h => h) rfl dX10_whyNotSaid_1 ?_
  refine lv_if_ne (tgt := 9) hx hb dX10_whyNotSaid_4 (by decide) (fun c1 => absurd rfl c1) (fun c1 => ?_)
  refine lv_iconst (v := 0) hx hb dX10_whyNotSaid_7 (by decide) ?_
  exact ret_i (ty := .int) hx hb hr hlocks (rfl) hP hD hS (Nat.le_of_ble_eq_true rfl) (Nat.le_of_ble_eq_true rfl) (⟨rfl, rfl, rfl⟩) dX10_whyNotSaid_8

set_option maxHeartbeats 4000000 in
set_option maxRecDepth 100000 in
theorem k_X10_whyNotTold (l : Launch) (g : GG) (L : List Nat) (f : HP) (sz : Nat) (x t dr co ot dp pn ch fr nw kp tr ac se tx rf : Nat) (a : Int32) (b : Int32) (hm_x : x ∈ L) (hf_x : f x = .inr (9, [.ref t, .ref dr, .ref co, .ref ot, .ref dp, .ref pn, .ref ch, .ref fr, .ref nw, .ref kp, .ref tr, .ref ac, .ref se, .ref tx, .ref rf, .int 0, .int 0, .long 0])) : MtI l g yX10_whyNotTold cX10_whyNotTold 3 (some .int) ({ frames := 0, cells := 0, slots := 0, locals := 0 }) [.ref x, .int a, .int b] L f sz (fun r u => u.1 = L ∧ u.2 = f ∧ r = 0) := by
  refine MtI.of (by decide +kernel) (Nat.le_of_ble_eq_true rfl) ?_
  intro p e s m below meth c A hEn hP hD hS ls hl
  obtain ⟨hx, hb, hr, hml, hown, hlocks, hts, hG, hA, hE, hnm⟩ := hEn
  have hown : s.vm.findClass "RulerWord" = some m.cls := hown
  have hl : lv_has ls 3 [(0, .ref x), (1, .int a), (2, .int b)] := hl
  refine lv_aload_n hx hb dX10_whyNotTold_0 rfl (lv_at hl 0 rfl) ?_
  refine pl_get (v := .int 0) hx hb hts (fun w h => mT (inX10 w h)) hown hG.1 hP hm_x hf_x rfl 15 (by decide) (hts _ (mT wg_490)) (fun _ h => h) rfl dX10_whyNotTold_1 ?_
  refine lv_if_ne (tgt := 9) hx hb dX10_whyNotTold_4 (by decide) (fun c1 => absurd rfl c1) (fun c1 => ?_)
  refine lv_iconst (v := 0) hx hb dX10_whyNotTold_7 (by decide) ?_
  exact ret_i (ty := .int) hx hb hr hlocks (rfl) hP hD hS (Nat.le_of_ble_eq_true rfl) (Nat.le_of_ble_eq_true rfl) (⟨rfl, rfl, rfl⟩) dX10_whyNotTold_8

set_option maxHeartbeats 4000000 in
set_option maxRecDepth 100000 in
theorem k_X10_refuse (l : Launch) (g : GG) (L : List Nat) (f : HP) (sz : Nat) (x t dr co ot dp pn ch fr nw kp tr ac se tx rf : Nat) (hm_x : x ∈ L) (hf_x : f x = .inr (9, [.ref t, .ref dr, .ref co, .ref ot, .ref dp, .ref pn, .ref ch, .ref fr, .ref nw, .ref kp, .ref tr, .ref ac, .ref se, .ref tx, .ref rf, .int 0, .int 0, .long 0])) (hm_rf : rf ∈ L) (hf_rf : f rf = .inl (g.2.1 0, 5, .inl (fun _ => 0))) : MtI l g yX10_refuse cX10_refuse 2 (some .int) ({ frames := 0, cells := 0, slots := 0, locals := 0 }) [.ref x, .int 0] L f sz (fun r _ => r = (-1)) := by
  refine MtI.of (by decide +kernel) (Nat.le_of_ble_eq_true rfl) ?_
  intro p e s m below meth c A hEn hP hD hS ls hl
  obtain ⟨hx, hb, hr, hml, hown, hlocks, hts, hG, hA, hE, hnm⟩ := hEn
  have hown : s.vm.findClass "RulerWord" = some m.cls := hown
  have hl : lv_has ls 2 [(0, .ref x), (1, .int 0)] := hl
  refine lv_aload_n hx hb dX10_refuse_0 rfl (lv_at hl 0 rfl) ?_
  refine pl_get (v := .ref rf) hx hb hts (fun w h => mT (inX10 w h)) hown hG.1 hP hm_x hf_x rfl 14 (by decide) (hts _ (mT wg_489)) (fun _ h => h) rfl dX10_refuse_1 ?_
  refine lv_iload_n hx hb dX10_refuse_4 rfl (lv_at hl 1 rfl) ?_
  refine lv_dup2_11 hx hb dX10_refuse_5 rfl rfl ?_
  refine pl_iald hx hb hG.1 hP hm_rf 0 hf_rf rfl (by unfold vp_in; decide) dX10_refuse_6 ?_
  refine lv_topi (fun x1 ex1 => ?_)
  obtain rfl : x1 = 0 := ex1.trans (rfl)
  refine lv_iconst (v := 1) hx hb dX10_refuse_7 (by decide) ?_
  refine lv_iadd hx hb dX10_refuse_8 ?_
  refine lv_topi (fun x2 ex2 => ?_)
  obtain rfl : x2 = 1 := ex2.trans (by decide)
  refine pl_iast hx hb hG.1 hP hD hS hm_rf 0 hf_rf rfl (by unfold vp_in; decide) dX10_refuse_9 (fun H locs f3 hf5 ho4 hP hD hS => ?_)
  obtain ⟨r6, er6⟩ : ∃ r : Nat → Int32, r = upd (fun _ => 0) (0 : Int32).toNatClampNeg (1) := ⟨_, rfl⟩
  rw [← er6] at hf5
  have hf7 := (ho4 x (kno hf_x hf_rf)).trans hf_x
  refine lv_iconst (v := (-1)) hx hb dX10_refuse_10 (by decide) ?_
  exact ret_i (ty := .int) hx hb hr hlocks (rfl) hP hD hS (Nat.le_of_ble_eq_true rfl) (Nat.le_of_ble_eq_true rfl) (rfl) dX10_refuse_11

set_option maxHeartbeats 4000000 in
set_option maxRecDepth 100000 in
theorem k_X2_everybody (l : Launch) (g : GG) (L : List Nat) (f : HP) (sz : Nat) (co : Nat) (hm_co : co ∈ L) (hf_co : f co = .inr (2, [.int 0, .int 0, .int 0, .int 0, .int 0, .int 0, .int 0, .int 0])) : MtI l g yX2_everybody cX2_everybody 1 (some .int) ({ frames := 0, cells := 0, slots := 0, locals := 0 }) [.ref co] L f sz (fun r u => u.1 = L ∧ u.2 = f ∧ r = 0) := by
  refine MtI.of (by decide +kernel) (Nat.le_of_ble_eq_true rfl) ?_
  intro p e s m below meth c A hEn hP hD hS ls hl
  obtain ⟨hx, hb, hr, hml, hown, hlocks, hts, hG, hA, hE, hnm⟩ := hEn
  have hown : s.vm.findClass "RulerWord$Council" = some m.cls := hown
  have hl : lv_has ls 1 [(0, .ref co)] := hl
  refine lv_iconst (v := 1) hx hb dX2_everybody_0 (by decide) ?_
  refine lv_aload_n hx hb dX2_everybody_1 rfl (lv_at hl 0 rfl) ?_
  refine pl_get (v := .int 0) hx hb hts (fun w h => mT (inX2 w h)) hown hG.1 hP hm_co hf_co rfl 1 (by decide) (hts _ (mT wg_228)) (fun _ h => h) rfl dX2_everybody_2 ?_
  refine lv_ishl hx hb dX2_everybody_5 ?_
  refine lv_topi (fun x1 ex1 => ?_)
  obtain rfl : x1 = 1 := ex1.trans (by decide)
  refine lv_iconst (v := 1) hx hb dX2_everybody_6 (by decide) ?_
  refine lv_isub hx hb dX2_everybody_7 ?_
  refine lv_topi (fun x2 ex2 => ?_)
  obtain rfl : x2 = 0 := ex2.trans (by decide)
  exact ret_i (ty := .int) hx hb hr hlocks (rfl) hP hD hS (Nat.le_of_ble_eq_true rfl) (Nat.le_of_ble_eq_true rfl) (⟨rfl, rfl, rfl⟩) dX2_everybody_8

set_option maxHeartbeats 4000000 in
set_option maxRecDepth 100000 in
theorem k_X2_rounds (l : Launch) (g : GG) (L : List Nat) (f : HP) (sz : Nat) (co : Nat) (hm_co : co ∈ L) (hf_co : f co = .inr (2, [.int 0, .int 0, .int 0, .int 0, .int 0, .int 0, .int 0, .int 0])) : MtI l g yX2_rounds cX2_rounds 1 (some .int) ({ frames := 0, cells := 0, slots := 0, locals := 0 }) [.ref co] L f sz (fun r u => u.1 = L ∧ u.2 = f ∧ r = 3) := by
  refine MtI.of (by decide +kernel) (Nat.le_of_ble_eq_true rfl) ?_
  intro p e s m below meth c A hEn hP hD hS ls hl
  obtain ⟨hx, hb, hr, hml, hown, hlocks, hts, hG, hA, hE, hnm⟩ := hEn
  have hown : s.vm.findClass "RulerWord$Council" = some m.cls := hown
  have hl : lv_has ls 1 [(0, .ref co)] := hl
  refine lv_aload_n hx hb dX2_rounds_0 rfl (lv_at hl 0 rfl) ?_
  refine pl_get (v := .int 0) hx hb hts (fun w h => mT (inX2 w h)) hown hG.1 hP hm_co hf_co rfl 0 (by decide) (hts _ (mT wg_224)) (fun _ h => h) rfl dX2_rounds_1 ?_
  refine lv_if_ne (tgt := 11) hx hb dX2_rounds_4 (by decide) (fun c1 => absurd rfl c1) (fun c1 => ?_)
  refine lv_iconst (v := 3) hx hb dX2_rounds_7 (by decide) ?_
  refine lv_goto (tgt := 12) hx hb dX2_rounds_8 (by decide) ?_
  exact ret_i (ty := .int) hx hb hr hlocks (rfl) hP hD hS (Nat.le_of_ble_eq_true rfl) (Nat.le_of_ble_eq_true rfl) (⟨rfl, rfl, rfl⟩) dX2_rounds_12

set_option maxHeartbeats 4000000 in
set_option maxRecDepth 100000 in
theorem k_X2_phaseAt (l : Launch) (g : GG) (L : List Nat) (f : HP) (sz : Nat) (co : Nat) (hm_co : co ∈ L) (hf_co : f co = .inr (2, [.int 0, .int 0, .int 0, .int 0, .int 0, .int 0, .int 0, .int 0])) : MtI l g yX2_phaseAt cX2_phaseAt 2 (some .int) ({ frames := 1, cells := 0, slots := 0, locals := 20 }) [.ref co, .int 0] L f sz (fun r u => u.1 = L ∧ u.2 = f ∧ r = 0) := by
  refine MtI.of (by decide +kernel) (Nat.le_of_ble_eq_true rfl) ?_
  intro p e s m below meth c A hEn hP hD hS ls hl
  obtain ⟨hx, hb, hr, hml, hown, hlocks, hts, hG, hA, hE, hnm⟩ := hEn
  have hown : s.vm.findClass "RulerWord$Council" = some m.cls := hown
  have hl : lv_has ls 2 [(0, .ref co), (1, .int 0)] := hl
  refine lv_iload_n hx hb dX2_phaseAt_0 rfl (lv_at hl 1 rfl) ?_
  refine lv_aload_n hx hb dX2_phaseAt_1 rfl (lv_at hl 0 rfl) ?_
  refine call_i (run_V (rm := { frames := 0, cells := 0, slots := 0, locals := 0 }) hx hb hml hown hts (k_X2_rounds l g _ _ _ co hm_co hf_co) cV_X2_rounds wg_738 ⟨Nat.le_of_ble_eq_true rfl, Nat.le_of_ble_eq_true rfl⟩ hG hE hA hP hD hS hm_co hf_co rfl rfl hl.1 (As := []) (rest := [.int 0]) rfl (Nat.le_of_ble_eq_true rfl) dX2_phaseAt_2 ⟨Nat.le_of_ble_eq_true rfl, Nat.le_of_ble_eq_true rfl⟩) hA hD hS (fun r1 L2 f3 H locs hp4 hP hD hS => ?_)
  obtain ⟨er5a, er5b, er5⟩ : L2 = _ ∧ f3 = _ ∧ r1 = 3 := hp4
  rw [er5a, er5b] at hP hD
  subst er5
  refine lv_idiv hx hb dX2_phaseAt_5 (by decide) ?_
  refine lv_topi (fun x6 ex6 => ?_)
  obtain rfl : x6 = 0 := ex6.trans (by decide)
  exact ret_i (ty := .int) hx hb hr hlocks (rfl) hP hD hS (Nat.le_of_ble_eq_true rfl) (Nat.le_of_ble_eq_true rfl) (⟨rfl, rfl, rfl⟩) dX2_phaseAt_6

set_option maxHeartbeats 4000000 in
set_option maxRecDepth 100000 in
theorem k_X3_agreedFrom (l : Launch) (g : GG) (L : List Nat) (f : HP) (sz : Nat) (nw n0 n1 n2 n3 n4 n5 n6 n7 n8 co : Nat) (hm_nw : nw ∈ L) (hf_nw : f nw = .inr (3, [.int 0, .int 0, .int 0, .int 0, .int 0, .int 0, .int 0, .long 0, .long 0, .ref n0, .ref n1, .ref n2, .ref n3, .ref n4, .ref n5, .ref n6, .ref n7, .ref n8])) (hm_co : co ∈ L) (hf_co : f co = .inr (2, [.int 0, .int 0, .int 0, .int 0, .int 0, .int 0, .int 0, .int 0])) : MtI l g yX3_agreedFrom cX3_agreedFrom 4 (some .int) ({ frames := 2, cells := 0, slots := 0, locals := 41 }) [.ref nw, .ref co] L f sz (fun r u => u.1 = L ∧ u.2 = f ∧ r = (-1)) := by
  refine MtI.of (by decide +kernel) (Nat.le_of_ble_eq_true rfl) ?_
  intro p e s m below meth c A hEn hP hD hS ls hl
  obtain ⟨hx, hb, hr, hml, hown, hlocks, hts, hG, hA, hE, hnm⟩ := hEn
  have hown : s.vm.findClass "RulerWord$Course" = some m.cls := hown
  have hl : lv_has ls 4 [(0, .ref nw), (1, .ref co)] := hl
  refine lv_iconst (v := (-1)) hx hb dX3_agreedFrom_0 (by decide) ?_
  refine lv_istore_n (lv' := [(2, .int (-1)), (0, .ref nw), (1, .ref co)]) hx hb dX3_agreedFrom_1 rfl hl (by decide) rfl (fun ls hl => ?_)
  refine lv_aload_n hx hb dX3_agreedFrom_2 rfl (lv_at hl 2 rfl) ?_
  refine lv_aload_n hx hb dX3_agreedFrom_3 rfl (lv_at hl 1 rfl) ?_
  refine pl_get (v := .int 0) hx hb hts (fun w h => mT (inX3 w h)) hown hG.1 hP hm_nw hf_nw rfl 2 (by decide) (hts _ (mT wg_340)) (fun _ h => h) rfl dX3_agreedFrom_4 ?_
  refine call_i (run_VN (rm := { frames := 1, cells := 0, slots := 0, locals := 20 }) hx hb hml hown hts (k_X2_phaseAt l g _ _ _ co hm_co hf_co) cV_X2_phaseAt wn_775 ⟨Nat.le_of_ble_eq_true rfl, Nat.le_of_ble_eq_true rfl⟩ hG hE hA hP hD hS hm_co hf_co rfl rfl hl.1 (As := [.int 0]) (rest := []) rfl (Nat.le_of_ble_eq_true rfl) dX3_agreedFrom_7 ⟨Nat.le_of_ble_eq_true rfl, Nat.le_of_ble_eq_true rfl⟩) hA hD hS (fun r1 L2 f3 H locs hp4 hP hD hS => ?_)
  obtain ⟨er5a, er5b, er5⟩ : L2 = _ ∧ f3 = _ ∧ r1 = 0 := hp4
  rw [er5a, er5b] at hP hD
  subst er5
  refine lv_iconst (v := 1) hx hb dX3_agreedFrom_10 (by decide) ?_
  refine lv_isub hx hb dX3_agreedFrom_11 ?_
  refine lv_topi (fun x6 ex6 => ?_)
  obtain rfl : x6 = (-1) := ex6.trans (by decide)
  refine lv_istore_n (lv' := [(3, .int (-1)), (2, .int (-1)), (0, .ref nw), (1, .ref co)]) hx hb dX3_agreedFrom_12 rfl hl (by decide) rfl (fun ls hl => ?_)
  refine lv_iload_n hx hb dX3_agreedFrom_13 rfl (lv_at hl 0 rfl) ?_
  refine lv_if_lt (tgt := 39) hx hb dX3_agreedFrom_14 (by decide) (fun c7 => ?_) (fun c7 => absurd (by decide) c7)
  refine lv_iload_n hx hb dX3_agreedFrom_39 rfl (lv_at hl 1 rfl) ?_
  exact ret_i (ty := .int) hx hb hr hlocks (rfl) hP hD hS (Nat.le_of_ble_eq_true rfl) (Nat.le_of_ble_eq_true rfl) (⟨rfl, rfl, rfl⟩) dX3_agreedFrom_40

set_option maxHeartbeats 4000000 in
set_option maxRecDepth 100000 in
theorem k_X0_takeBack (l : Launch) (g : GG) (L : List Nat) (f : HP) (sz : Nat) (ac ah : Nat) (nw : Nat) (hm_ac : ac ∈ L) (hf_ac : f ac = .inr (0, [.ref ah, .int 0, .int 0])) : MtI l g yX0_takeBack cX0_takeBack 2 (some .boolean) ({ frames := 0, cells := 0, slots := 0, locals := 0 }) [.ref ac, .ref nw] L f sz (fun r u => u.1 = L ∧ u.2 = f ∧ r = 0) := by
  refine MtI.of (by decide +kernel) (Nat.le_of_ble_eq_true rfl) ?_
  intro p e s m below meth c A hEn hP hD hS ls hl
  obtain ⟨hx, hb, hr, hml, hown, hlocks, hts, hG, hA, hE, hnm⟩ := hEn
  have hown : s.vm.findClass "RulerWord$Acts" = some m.cls := hown
  have hl : lv_has ls 2 [(0, .ref ac), (1, .ref nw)] := hl
  refine lv_aload_n hx hb dX0_takeBack_0 rfl (lv_at hl 0 rfl) ?_
  refine pl_get (v := .int 0) hx hb hts (fun w h => mT (inX0 w h)) hown hG.1 hP hm_ac hf_ac rfl 2 (by decide) (hts _ (mT wg_415)) (fun _ h => h) rfl dX0_takeBack_1 ?_
  refine lv_iconst (v := 1) hx hb dX0_takeBack_4 (by decide) ?_
  refine lv_icmp_ge (tgt := 10) hx hb dX0_takeBack_5 (by decide) (fun c1 => absurd c1 (by decide)) (fun c1 => ?_)
  refine lv_iconst (v := 0) hx hb dX0_takeBack_8 (by decide) ?_
  exact ret_i (ty := .boolean) hx hb hr hlocks (rfl) hP hD hS (Nat.le_of_ble_eq_true rfl) (Nat.le_of_ble_eq_true rfl) (⟨rfl, rfl, rfl⟩) dX0_takeBack_9

set_option maxHeartbeats 4000000 in
set_option maxRecDepth 100000 in
theorem k_X10_greatestBound (l : Launch) (g : GG) (L : List Nat) (f : HP) (sz : Nat) (form n : Int32)  : MtI l g yX10_greatestBound cX10_greatestBound 2 (some .int) ({ frames := 0, cells := 0, slots := 0, locals := 0 }) [.int form, .int n] L f sz (fun r u => u.1 = L ∧ u.2 = f ∧ r = grB form n) := by
  refine MtI.of (by decide +kernel) (Nat.le_of_ble_eq_true rfl) ?_
  intro p e s m below meth c A hEn hP hD hS ls hl
  obtain ⟨hx, hb, hr, hml, hown, hlocks, hts, hG, hA, hE, hnm⟩ := hEn
  have hown : s.vm.findClass "RulerWord" = some m.cls := hown
  have hl : lv_has ls 2 [(0, .int form), (1, .int n)] := hl
  refine lv_iload_n hx hb dX10_greatestBound_0 rfl (lv_at hl 0 rfl) ?_
  refine lv_if_ne (tgt := 12) hx hb dX10_greatestBound_1 (by decide) (fun c1 => ?_) (fun c1 => ?_)
  ·
    refine lv_iload_n hx hb dX10_greatestBound_12 rfl (lv_at hl 1 rfl) ?_
    refine lv_iconst (v := 1) hx hb dX10_greatestBound_13 (by decide) ?_
    refine lv_isub hx hb dX10_greatestBound_14 ?_
    refine lv_topi (fun x2 ex2 => ?_)
    refine lv_iconst (v := 4) hx hb dX10_greatestBound_15 (by decide) ?_
    refine lv_idiv hx hb dX10_greatestBound_16 (by decide) ?_
    refine lv_topi (fun x3 ex3 => ?_)
    exact ret_i (ty := .int) hx hb hr hlocks (rfl) hP hD hS (Nat.le_of_ble_eq_true rfl) (Nat.le_of_ble_eq_true rfl) (⟨rfl, rfl, by simp [grB, c1, ex2, ex3]⟩) dX10_greatestBound_17
  ·
    refine lv_iload_n hx hb dX10_greatestBound_4 rfl (lv_at hl 1 rfl) ?_
    refine lv_iconst (v := 1) hx hb dX10_greatestBound_5 (by decide) ?_
    refine lv_isub hx hb dX10_greatestBound_6 ?_
    refine lv_topi (fun x4 ex4 => ?_)
    refine lv_iconst (v := 3) hx hb dX10_greatestBound_7 (by decide) ?_
    refine lv_idiv hx hb dX10_greatestBound_8 (by decide) ?_
    refine lv_topi (fun x5 ex5 => ?_)
    refine lv_goto (tgt := 17) hx hb dX10_greatestBound_9 (by decide) ?_
    exact ret_i (ty := .int) hx hb hr hlocks (rfl) hP hD hS (Nat.le_of_ble_eq_true rfl) (Nat.le_of_ble_eq_true rfl) (⟨rfl, rfl, by simp [grB, c1, ex4, ex5]⟩) dX10_greatestBound_17
