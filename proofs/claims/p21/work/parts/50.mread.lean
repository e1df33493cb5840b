abbrev rm_X11_isIn : Room := { frames := 0, cells := 0, slots := 0, locals := 0 }
abbrev po_X11_isIn (g : GG) (ad : Nat → Nat) (th : Nat → Int) (L : List Nat) (f : HP) (z0 : Int64) (z1 : Int64) (z2 : Int64) : Int32 → (List Nat × HP) → Prop := fun r u => u.1 = L ∧ u.2 = f ∧ In r 0 1 ∧ (r.toInt = 0 ∨ (z1.toInt ≤ z0.toInt ∧ z0.toInt ≤ z2.toInt)) ∧ (r.toInt = 0 → ¬ (z1.toInt ≤ z0.toInt ∧ z0.toInt ≤ z2.toInt))
set_option maxHeartbeats 4000000 in
set_option maxRecDepth 100000 in
theorem s_X11_isIn (l : Launch) (g : GG) (ad : Nat → Nat) (th : Nat → Int) (L : List Nat) (f : HP) (sz : Nat) (z0 : Int64) (z1 : Int64) (z2 : Int64) (hst : ST ad L) (hT : TI g ad th f)  : MtI l g yX11_isIn cX11_isIn 6 (some .boolean) rm_X11_isIn [.long z0, .long z1, .long z2] L f sz (po_X11_isIn g ad th L f z0 z1 z2) := by
  refine MtI.of (by decide +kernel) (Nat.le_of_ble_eq_true rfl) ?_
  intro p e s m below meth c A hEn hP hD hS ls hl
  obtain ⟨hx, hb, hr, hml, hown, hlocks, hts, hG, hA, hE, hnm⟩ := hEn
  have hown : s.vm.findClass "RulerWordModel" = some m.cls := hown
  have hl : lv_has ls 6 [(0, .long z0), (2, .long z1), (4, .long z2)] := hl
  refine lv_lload_n hx hb dX11_isIn_0 rfl (lv_at hl 0 rfl) ?_
  refine lv_lload_n hx hb dX11_isIn_1 rfl (lv_at hl 1 rfl) ?_
  refine W.lcmp hx hb dX11_isIn_2 ?_
  refine lv_topi (fun x1 ex1 => ?_)
  have hb2 : In x1 (-1) 1 := ex1 ▸ In.lcmp _ _
  refine lv_if_lt (tgt := 17) hx hb dX11_isIn_3 (by decide) (fun c3 => ?_) (fun c3 => ?_)
  ·
    have cc4 : x1.toInt < (0 : Int32).toInt := i32_lt.mp c3
    have hb5 : In x1 (-1) (-1) := In.lt1 hb2 (⟨by decide, by decide⟩ : In 0 0 0) cc4 (by omega) (by omega)
    refine lv_iconst (v := 0) hx hb dX11_isIn_17 (by decide) ?_
    exact ret_i (ty := .boolean) hx hb hr hlocks (rfl) hP hD hS (Nat.le_of_ble_eq_true rfl) (Nat.le_of_ble_eq_true rfl) (⟨rfl, rfl, (⟨by decide, by decide⟩ : In 0 0 1), (Or.inl (by decide)), (fun _ h => absurd h.1 (Int.not_le.mpr (lc_lt ex1 c3)))⟩) dX11_isIn_18
  ·
    have cc6 : (0 : Int32).toInt ≤ x1.toInt := i32_nlt c3
    have hb7 : In x1 0 1 := In.ge1 hb2 (⟨by decide, by decide⟩ : In 0 0 0) cc6 (by omega) (by omega)
    refine lv_lload_n hx hb dX11_isIn_6 rfl (lv_at hl 0 rfl) ?_
    refine lv_lload hx hb dX11_isIn_7 (lv_at hl 2 rfl) ?_
    refine W.lcmp hx hb dX11_isIn_9 ?_
    refine lv_topi (fun x8 ex8 => ?_)
    have hb9 : In x8 (-1) 1 := ex8 ▸ In.lcmp _ _
    refine lv_if_gt (tgt := 17) hx hb dX11_isIn_10 (by decide) (fun c10 => ?_) (fun c10 => ?_)
    ·
      have cc11 : (0 : Int32).toInt < x8.toInt := i32_lt.mp c10
      have hb12 : In x8 1 1 := In.gt1 hb9 (⟨by decide, by decide⟩ : In 0 0 0) cc11 (by omega) (by omega)
      refine lv_iconst (v := 0) hx hb dX11_isIn_17 (by decide) ?_
      exact ret_i (ty := .boolean) hx hb hr hlocks (rfl) hP hD hS (Nat.le_of_ble_eq_true rfl) (Nat.le_of_ble_eq_true rfl) (⟨rfl, rfl, (⟨by decide, by decide⟩ : In 0 0 1), (Or.inl (by decide)), (fun _ h => absurd h.2 (Int.not_le.mpr (lc_gt ex8 c10)))⟩) dX11_isIn_18
    ·
      have cc13 : x8.toInt ≤ (0 : Int32).toInt := i32_nlt c10
      have hb14 : In x8 (-1) 0 := In.le1 hb9 (⟨by decide, by decide⟩ : In 0 0 0) cc13 (by omega) (by omega)
      refine lv_iconst (v := 1) hx hb dX11_isIn_13 (by decide) ?_
      refine lv_goto (tgt := 18) hx hb dX11_isIn_14 (by decide) ?_
      exact ret_i (ty := .boolean) hx hb hr hlocks (rfl) hP hD hS (Nat.le_of_ble_eq_true rfl) (Nat.le_of_ble_eq_true rfl) (⟨rfl, rfl, (⟨by decide, by decide⟩ : In 1 0 1), (Or.inr ⟨lc_ge ex1 c3, lc_le ex8 c10⟩), (fun h => absurd h (by decide))⟩) dX11_isIn_18

abbrev rm_X11_has : Room := { frames := 0, cells := 0, slots := 0, locals := 0 }
abbrev po_X11_has (g : GG) (ad : Nat → Nat) (th : Nat → Int) (L : List Nat) (f : HP) (z0 : Int32) (z1 : Int32) : Int32 → (List Nat × HP) → Prop := fun r u => u.1 = L ∧ u.2 = f ∧ In r 0 1 ∧ (0 ≤ z0.toInt → In z1 0 30 → r.toInt = bitI z0.toInt z1.toInt)
set_option maxHeartbeats 4000000 in
set_option maxRecDepth 100000 in
theorem s_X11_has (l : Launch) (g : GG) (ad : Nat → Nat) (th : Nat → Int) (L : List Nat) (f : HP) (sz : Nat) (z0 : Int32) (z1 : Int32) (hst : ST ad L) (hT : TI g ad th f)  : MtI l g yX11_has cX11_has 2 (some .boolean) rm_X11_has [.int z0, .int z1] L f sz (po_X11_has g ad th L f z0 z1) := by
  refine MtI.of (by decide +kernel) (Nat.le_of_ble_eq_true rfl) ?_
  intro p e s m below meth c A hEn hP hD hS ls hl
  obtain ⟨hx, hb, hr, hml, hown, hlocks, hts, hG, hA, hE, hnm⟩ := hEn
  have hown : s.vm.findClass "RulerWordModel" = some m.cls := hown
  have hl : lv_has ls 2 [(0, .int z0), (1, .int z1)] := hl
  refine lv_iload_n hx hb dX11_has_0 rfl (lv_at hl 0 rfl) ?_
  refine lv_iload_n hx hb dX11_has_1 rfl (lv_at hl 1 rfl) ?_
  refine lv_ishr hx hb dX11_has_2 ?_
  refine lv_topi (fun x1 ex1 => ?_)
  refine lv_iconst (v := 1) hx hb dX11_has_3 (by decide) ?_
  refine lv_iand hx hb dX11_has_4 ?_
  refine lv_topi (fun x2 ex2 => ?_)
  have hb3 : In x2 0 1 := ex2 ▸ In.andr (⟨by decide, by decide⟩ : In 1 1 1) (by decide)
  refine lv_iconst (v := 1) hx hb dX11_has_5 (by decide) ?_
  refine lv_icmp_ne (tgt := 13) hx hb dX11_has_6 (by decide) (fun c4 => ?_) (fun c4 => ?_)
  ·
    have oc1 : (1 : Int32).toInt = 1 := by decide
    have cc5 : x2.toInt ≠ (1 : Int32).toInt := i32_ne c4
    have hb6 : In x2 0 0 := In.ne1 hb3 (⟨by decide, by decide⟩ : In 1 1 1) cc5 (by omega) (by omega)
    refine lv_iconst (v := 0) hx hb dX11_has_13 (by decide) ?_
    exact ret_i (ty := .boolean) hx hb hr hlocks (rfl) hP hD hS (Nat.le_of_ble_eq_true rfl) (Nat.le_of_ble_eq_true rfl) (⟨rfl, rfl, (⟨by decide, by decide⟩ : In 0 0 1), (fun h0 hk => by have q := shr_bit h0 hk ex1 ex2; obtain ⟨q1, q2⟩ := (hb6 : In _ _ _); have e0 : (0 : Int32).toInt = 0 := (by decide); have e1 : (1 : Int32).toInt = 1 := (by decide); omega)⟩) dX11_has_14
  ·
    have oc1 : (1 : Int32).toInt = 1 := by decide
    have cc7 : x2.toInt = (1 : Int32).toInt := congrArg Int32.toInt c4
    have hb8 : In x2 1 1 := In.eq1 hb3 (⟨by decide, by decide⟩ : In 1 1 1) cc7 (by omega) (by omega)
    refine lv_iconst (v := 1) hx hb dX11_has_9 (by decide) ?_
    refine lv_goto (tgt := 14) hx hb dX11_has_10 (by decide) ?_
    exact ret_i (ty := .boolean) hx hb hr hlocks (rfl) hP hD hS (Nat.le_of_ble_eq_true rfl) (Nat.le_of_ble_eq_true rfl) (⟨rfl, rfl, (⟨by decide, by decide⟩ : In 1 0 1), (fun h0 hk => by have q := shr_bit h0 hk ex1 ex2; obtain ⟨q1, q2⟩ := (hb8 : In _ _ _); have e0 : (1 : Int32).toInt = 1 := (by decide); have e1 : (1 : Int32).toInt = 1 := (by decide); omega)⟩) dX11_has_14

abbrev rm_X11_bitsIn : Room := { frames := 0, cells := 0, slots := 0, locals := 0 }
abbrev po_X11_bitsIn (g : GG) (ad : Nat → Nat) (th : Nat → Int) (L : List Nat) (f : HP) (z0 : Int32) : Int32 → (List Nat × HP) → Prop := fun r u => u.1 = L ∧ u.2 = f ∧ In r 0 9 ∧ (In z0 0 511 → r.toInt = pcI z0.toInt)
set_option maxHeartbeats 4000000 in
set_option maxRecDepth 100000 in
theorem s_X11_bitsIn (l : Launch) (g : GG) (ad : Nat → Nat) (th : Nat → Int) (L : List Nat) (f : HP) (sz : Nat) (z0 : Int32) (hst : ST ad L) (hT : TI g ad th f)  : MtI l g yX11_bitsIn cX11_bitsIn 3 (some .int) rm_X11_bitsIn [.int z0] L f sz (po_X11_bitsIn g ad th L f z0) := by
  refine MtI.of (by decide +kernel) (Nat.le_of_ble_eq_true rfl) ?_
  intro p e s m below meth c A hEn hP hD hS ls hl
  obtain ⟨hx, hb, hr, hml, hown, hlocks, hts, hG, hA, hE, hnm⟩ := hEn
  have hown : s.vm.findClass "RulerWordModel" = some m.cls := hown
  have hl : lv_has ls 3 [(0, .int z0)] := hl
  refine lv_iconst (v := 0) hx hb dX11_bitsIn_0 (by decide) ?_
  refine lv_istore_n (lv' := [(1, .int 0), (0, .int z0)]) hx hb dX11_bitsIn_1 rfl hl (by decide) rfl (fun ls hl => ?_)
  refine lv_iconst (v := 0) hx hb dX11_bitsIn_2 (by decide) ?_
  refine lv_istore_n (lv' := [(2, .int 0), (1, .int 0), (0, .int z0)]) hx hb dX11_bitsIn_3 rfl hl (by decide) rfl (fun ls hl => ?_)
  refine lv_iload_n hx hb dX11_bitsIn_4 rfl (lv_at hl 0 rfl) ?_
  refine lv_bipush (v := 9) hx hb dX11_bitsIn_5 (by decide) ?_
  refine lv_icmp_ge (tgt := 24) hx hb dX11_bitsIn_7 (by decide) (fun c1 => ?_) (fun c1 => ?_)
  ·
    have oc0 : (0 : Int32).toInt = 0 := by decide
    have oc9 : (9 : Int32).toInt = 9 := by decide
    have cc2 : (9 : Int32).toInt ≤ (0 : Int32).toInt := i32_le.mp c1
    exact In.empty (lo := 9) (hi := 0) (In.ge1 (⟨by decide, by decide⟩ : In 0 0 0) (⟨by decide, by decide⟩ : In 9 9 9) cc2 (by omega) (by omega)) (by decide)
  ·
    have oc0 : (0 : Int32).toInt = 0 := by decide
    have oc9 : (9 : Int32).toInt = 9 := by decide
    have cc3 : (0 : Int32).toInt < (9 : Int32).toInt := i32_nle c1
    refine lv_iload_n hx hb dX11_bitsIn_10 rfl (lv_at hl 1 rfl) ?_
    refine lv_iload_n hx hb dX11_bitsIn_11 rfl (lv_at hl 2 rfl) ?_
    refine lv_iload_n hx hb dX11_bitsIn_12 rfl (lv_at hl 0 rfl) ?_
    refine lv_ishr hx hb dX11_bitsIn_13 ?_
    refine lv_topi (fun x4 ex4 => ?_)
    refine lv_iconst (v := 1) hx hb dX11_bitsIn_14 (by decide) ?_
    refine lv_iand hx hb dX11_bitsIn_15 ?_
    refine lv_topi (fun x5 ex5 => ?_)
    have hb6 : In x5 0 1 := ex5 ▸ In.andr (⟨by decide, by decide⟩ : In 1 1 1) (by decide)
    refine lv_iadd hx hb dX11_bitsIn_16 ?_
    refine lv_topi (fun x7 ex7 => ?_)
    have hb8 : In x7 0 1 := ex7 ▸ In.add (⟨by decide, by decide⟩ : In 0 0 0) hb6 (by decide) (by decide) (by decide) (by decide)
    have et9 : x7.toInt = (0 : Int32).toInt + x5.toInt := In.add2e ex7 (⟨by decide, by decide⟩ : In 0 0 0) hb6 (by decide) (by decide)
    refine lv_istore_n (lv' := [(1, .int x7), (2, .int 0), (0, .int z0)]) hx hb dX11_bitsIn_17 rfl hl (by decide) rfl (fun ls hl => ?_)
    refine lv_iinc (v := 1) (lv' := [(2, .int 1), (1, .int x7), (0, .int z0)]) hx hb dX11_bitsIn_18 hl (k := 1) rfl (by decide) (by decide) rfl (fun ls hl => ?_)
    refine lv_goto (tgt := 4) hx hb dX11_bitsIn_21 (by decide) ?_
    refine lv_iload_n hx hb dX11_bitsIn_4 rfl (lv_at hl 0 rfl) ?_
    refine lv_bipush (v := 9) hx hb dX11_bitsIn_5 (by decide) ?_
    refine lv_icmp_ge (tgt := 24) hx hb dX11_bitsIn_7 (by decide) (fun c10 => ?_) (fun c10 => ?_)
    ·
      have oc1 : (1 : Int32).toInt = 1 := by decide
      have oc9 : (9 : Int32).toInt = 9 := by decide
      have cc11 : (9 : Int32).toInt ≤ (1 : Int32).toInt := i32_le.mp c10
      exact In.empty (lo := 9) (hi := 1) (In.ge1 (⟨by decide, by decide⟩ : In 1 1 1) (⟨by decide, by decide⟩ : In 9 9 9) cc11 (by omega) (by omega)) (by decide)
    ·
      have oc1 : (1 : Int32).toInt = 1 := by decide
      have oc9 : (9 : Int32).toInt = 9 := by decide
      have cc12 : (1 : Int32).toInt < (9 : Int32).toInt := i32_nle c10
      refine lv_iload_n hx hb dX11_bitsIn_10 rfl (lv_at hl 1 rfl) ?_
      refine lv_iload_n hx hb dX11_bitsIn_11 rfl (lv_at hl 2 rfl) ?_
      refine lv_iload_n hx hb dX11_bitsIn_12 rfl (lv_at hl 0 rfl) ?_
      refine lv_ishr hx hb dX11_bitsIn_13 ?_
      refine lv_topi (fun x13 ex13 => ?_)
      refine lv_iconst (v := 1) hx hb dX11_bitsIn_14 (by decide) ?_
      refine lv_iand hx hb dX11_bitsIn_15 ?_
      refine lv_topi (fun x14 ex14 => ?_)
      have hb15 : In x14 0 1 := ex14 ▸ In.andr (⟨by decide, by decide⟩ : In 1 1 1) (by decide)
      refine lv_iadd hx hb dX11_bitsIn_16 ?_
      refine lv_topi (fun x16 ex16 => ?_)
      have hb17 : In x16 0 2 := ex16 ▸ In.add hb8 hb15 (by decide) (by decide) (by decide) (by decide)
      have et18 : x16.toInt = x7.toInt + x14.toInt := In.add2e ex16 hb8 hb15 (by decide) (by decide)
      refine lv_istore_n (lv' := [(1, .int x16), (2, .int 1), (0, .int z0)]) hx hb dX11_bitsIn_17 rfl hl (by decide) rfl (fun ls hl => ?_)
      refine lv_iinc (v := 2) (lv' := [(2, .int 2), (1, .int x16), (0, .int z0)]) hx hb dX11_bitsIn_18 hl (k := 1) rfl (by decide) (by decide) rfl (fun ls hl => ?_)
      refine lv_goto (tgt := 4) hx hb dX11_bitsIn_21 (by decide) ?_
      refine lv_iload_n hx hb dX11_bitsIn_4 rfl (lv_at hl 0 rfl) ?_
      refine lv_bipush (v := 9) hx hb dX11_bitsIn_5 (by decide) ?_
      refine lv_icmp_ge (tgt := 24) hx hb dX11_bitsIn_7 (by decide) (fun c19 => ?_) (fun c19 => ?_)
      ·
        have oc2 : (2 : Int32).toInt = 2 := by decide
        have oc9 : (9 : Int32).toInt = 9 := by decide
        have cc20 : (9 : Int32).toInt ≤ (2 : Int32).toInt := i32_le.mp c19
        exact In.empty (lo := 9) (hi := 2) (In.ge1 (⟨by decide, by decide⟩ : In 2 2 2) (⟨by decide, by decide⟩ : In 9 9 9) cc20 (by omega) (by omega)) (by decide)
      ·
        have oc2 : (2 : Int32).toInt = 2 := by decide
        have oc9 : (9 : Int32).toInt = 9 := by decide
        have cc21 : (2 : Int32).toInt < (9 : Int32).toInt := i32_nle c19
        refine lv_iload_n hx hb dX11_bitsIn_10 rfl (lv_at hl 1 rfl) ?_
        refine lv_iload_n hx hb dX11_bitsIn_11 rfl (lv_at hl 2 rfl) ?_
        refine lv_iload_n hx hb dX11_bitsIn_12 rfl (lv_at hl 0 rfl) ?_
        refine lv_ishr hx hb dX11_bitsIn_13 ?_
        refine lv_topi (fun x22 ex22 => ?_)
        refine lv_iconst (v := 1) hx hb dX11_bitsIn_14 (by decide) ?_
        refine lv_iand hx hb dX11_bitsIn_15 ?_
        refine lv_topi (fun x23 ex23 => ?_)
        have hb24 : In x23 0 1 := ex23 ▸ In.andr (⟨by decide, by decide⟩ : In 1 1 1) (by decide)
        refine lv_iadd hx hb dX11_bitsIn_16 ?_
        refine lv_topi (fun x25 ex25 => ?_)
        have hb26 : In x25 0 3 := ex25 ▸ In.add hb17 hb24 (by decide) (by decide) (by decide) (by decide)
        have et27 : x25.toInt = x16.toInt + x23.toInt := In.add2e ex25 hb17 hb24 (by decide) (by decide)
        refine lv_istore_n (lv' := [(1, .int x25), (2, .int 2), (0, .int z0)]) hx hb dX11_bitsIn_17 rfl hl (by decide) rfl (fun ls hl => ?_)
        refine lv_iinc (v := 3) (lv' := [(2, .int 3), (1, .int x25), (0, .int z0)]) hx hb dX11_bitsIn_18 hl (k := 1) rfl (by decide) (by decide) rfl (fun ls hl => ?_)
        refine lv_goto (tgt := 4) hx hb dX11_bitsIn_21 (by decide) ?_
        refine lv_iload_n hx hb dX11_bitsIn_4 rfl (lv_at hl 0 rfl) ?_
        refine lv_bipush (v := 9) hx hb dX11_bitsIn_5 (by decide) ?_
        refine lv_icmp_ge (tgt := 24) hx hb dX11_bitsIn_7 (by decide) (fun c28 => ?_) (fun c28 => ?_)
        ·
          have oc3 : (3 : Int32).toInt = 3 := by decide
          have oc9 : (9 : Int32).toInt = 9 := by decide
          have cc29 : (9 : Int32).toInt ≤ (3 : Int32).toInt := i32_le.mp c28
          exact In.empty (lo := 9) (hi := 3) (In.ge1 (⟨by decide, by decide⟩ : In 3 3 3) (⟨by decide, by decide⟩ : In 9 9 9) cc29 (by omega) (by omega)) (by decide)
        ·
          have oc3 : (3 : Int32).toInt = 3 := by decide
          have oc9 : (9 : Int32).toInt = 9 := by decide
          have cc30 : (3 : Int32).toInt < (9 : Int32).toInt := i32_nle c28
          refine lv_iload_n hx hb dX11_bitsIn_10 rfl (lv_at hl 1 rfl) ?_
          refine lv_iload_n hx hb dX11_bitsIn_11 rfl (lv_at hl 2 rfl) ?_
          refine lv_iload_n hx hb dX11_bitsIn_12 rfl (lv_at hl 0 rfl) ?_
          refine lv_ishr hx hb dX11_bitsIn_13 ?_
          refine lv_topi (fun x31 ex31 => ?_)
          refine lv_iconst (v := 1) hx hb dX11_bitsIn_14 (by decide) ?_
          refine lv_iand hx hb dX11_bitsIn_15 ?_
          refine lv_topi (fun x32 ex32 => ?_)
          have hb33 : In x32 0 1 := ex32 ▸ In.andr (⟨by decide, by decide⟩ : In 1 1 1) (by decide)
          refine lv_iadd hx hb dX11_bitsIn_16 ?_
          refine lv_topi (fun x34 ex34 => ?_)
          have hb35 : In x34 0 4 := ex34 ▸ In.add hb26 hb33 (by decide) (by decide) (by decide) (by decide)
          have et36 : x34.toInt = x25.toInt + x32.toInt := In.add2e ex34 hb26 hb33 (by decide) (by decide)
          refine lv_istore_n (lv' := [(1, .int x34), (2, .int 3), (0, .int z0)]) hx hb dX11_bitsIn_17 rfl hl (by decide) rfl (fun ls hl => ?_)
          refine lv_iinc (v := 4) (lv' := [(2, .int 4), (1, .int x34), (0, .int z0)]) hx hb dX11_bitsIn_18 hl (k := 1) rfl (by decide) (by decide) rfl (fun ls hl => ?_)
          refine lv_goto (tgt := 4) hx hb dX11_bitsIn_21 (by decide) ?_
          refine lv_iload_n hx hb dX11_bitsIn_4 rfl (lv_at hl 0 rfl) ?_
          refine lv_bipush (v := 9) hx hb dX11_bitsIn_5 (by decide) ?_
          refine lv_icmp_ge (tgt := 24) hx hb dX11_bitsIn_7 (by decide) (fun c37 => ?_) (fun c37 => ?_)
          ·
            have oc4 : (4 : Int32).toInt = 4 := by decide
            have oc9 : (9 : Int32).toInt = 9 := by decide
            have cc38 : (9 : Int32).toInt ≤ (4 : Int32).toInt := i32_le.mp c37
            exact In.empty (lo := 9) (hi := 4) (In.ge1 (⟨by decide, by decide⟩ : In 4 4 4) (⟨by decide, by decide⟩ : In 9 9 9) cc38 (by omega) (by omega)) (by decide)
          ·
            have oc4 : (4 : Int32).toInt = 4 := by decide
            have oc9 : (9 : Int32).toInt = 9 := by decide
            have cc39 : (4 : Int32).toInt < (9 : Int32).toInt := i32_nle c37
            refine lv_iload_n hx hb dX11_bitsIn_10 rfl (lv_at hl 1 rfl) ?_
            refine lv_iload_n hx hb dX11_bitsIn_11 rfl (lv_at hl 2 rfl) ?_
            refine lv_iload_n hx hb dX11_bitsIn_12 rfl (lv_at hl 0 rfl) ?_
            refine lv_ishr hx hb dX11_bitsIn_13 ?_
            refine lv_topi (fun x40 ex40 => ?_)
            refine lv_iconst (v := 1) hx hb dX11_bitsIn_14 (by decide) ?_
            refine lv_iand hx hb dX11_bitsIn_15 ?_
            refine lv_topi (fun x41 ex41 => ?_)
            have hb42 : In x41 0 1 := ex41 ▸ In.andr (⟨by decide, by decide⟩ : In 1 1 1) (by decide)
            refine lv_iadd hx hb dX11_bitsIn_16 ?_
            refine lv_topi (fun x43 ex43 => ?_)
            have hb44 : In x43 0 5 := ex43 ▸ In.add hb35 hb42 (by decide) (by decide) (by decide) (by decide)
            have et45 : x43.toInt = x34.toInt + x41.toInt := In.add2e ex43 hb35 hb42 (by decide) (by decide)
            refine lv_istore_n (lv' := [(1, .int x43), (2, .int 4), (0, .int z0)]) hx hb dX11_bitsIn_17 rfl hl (by decide) rfl (fun ls hl => ?_)
            refine lv_iinc (v := 5) (lv' := [(2, .int 5), (1, .int x43), (0, .int z0)]) hx hb dX11_bitsIn_18 hl (k := 1) rfl (by decide) (by decide) rfl (fun ls hl => ?_)
            refine lv_goto (tgt := 4) hx hb dX11_bitsIn_21 (by decide) ?_
            refine lv_iload_n hx hb dX11_bitsIn_4 rfl (lv_at hl 0 rfl) ?_
            refine lv_bipush (v := 9) hx hb dX11_bitsIn_5 (by decide) ?_
            refine lv_icmp_ge (tgt := 24) hx hb dX11_bitsIn_7 (by decide) (fun c46 => ?_) (fun c46 => ?_)
            ·
              have oc5 : (5 : Int32).toInt = 5 := by decide
              have oc9 : (9 : Int32).toInt = 9 := by decide
              have cc47 : (9 : Int32).toInt ≤ (5 : Int32).toInt := i32_le.mp c46
              exact In.empty (lo := 9) (hi := 5) (In.ge1 (⟨by decide, by decide⟩ : In 5 5 5) (⟨by decide, by decide⟩ : In 9 9 9) cc47 (by omega) (by omega)) (by decide)
            ·
              have oc5 : (5 : Int32).toInt = 5 := by decide
              have oc9 : (9 : Int32).toInt = 9 := by decide
              have cc48 : (5 : Int32).toInt < (9 : Int32).toInt := i32_nle c46
              refine lv_iload_n hx hb dX11_bitsIn_10 rfl (lv_at hl 1 rfl) ?_
              refine lv_iload_n hx hb dX11_bitsIn_11 rfl (lv_at hl 2 rfl) ?_
              refine lv_iload_n hx hb dX11_bitsIn_12 rfl (lv_at hl 0 rfl) ?_
              refine lv_ishr hx hb dX11_bitsIn_13 ?_
              refine lv_topi (fun x49 ex49 => ?_)
              refine lv_iconst (v := 1) hx hb dX11_bitsIn_14 (by decide) ?_
              refine lv_iand hx hb dX11_bitsIn_15 ?_
              refine lv_topi (fun x50 ex50 => ?_)
              have hb51 : In x50 0 1 := ex50 ▸ In.andr (⟨by decide, by decide⟩ : In 1 1 1) (by decide)
              refine lv_iadd hx hb dX11_bitsIn_16 ?_
              refine lv_topi (fun x52 ex52 => ?_)
              have hb53 : In x52 0 6 := ex52 ▸ In.add hb44 hb51 (by decide) (by decide) (by decide) (by decide)
              have et54 : x52.toInt = x43.toInt + x50.toInt := In.add2e ex52 hb44 hb51 (by decide) (by decide)
              refine lv_istore_n (lv' := [(1, .int x52), (2, .int 5), (0, .int z0)]) hx hb dX11_bitsIn_17 rfl hl (by decide) rfl (fun ls hl => ?_)
              refine lv_iinc (v := 6) (lv' := [(2, .int 6), (1, .int x52), (0, .int z0)]) hx hb dX11_bitsIn_18 hl (k := 1) rfl (by decide) (by decide) rfl (fun ls hl => ?_)
              refine lv_goto (tgt := 4) hx hb dX11_bitsIn_21 (by decide) ?_
              refine lv_iload_n hx hb dX11_bitsIn_4 rfl (lv_at hl 0 rfl) ?_
              refine lv_bipush (v := 9) hx hb dX11_bitsIn_5 (by decide) ?_
              refine lv_icmp_ge (tgt := 24) hx hb dX11_bitsIn_7 (by decide) (fun c55 => ?_) (fun c55 => ?_)
              ·
                have oc6 : (6 : Int32).toInt = 6 := by decide
                have oc9 : (9 : Int32).toInt = 9 := by decide
                have cc56 : (9 : Int32).toInt ≤ (6 : Int32).toInt := i32_le.mp c55
                exact In.empty (lo := 9) (hi := 6) (In.ge1 (⟨by decide, by decide⟩ : In 6 6 6) (⟨by decide, by decide⟩ : In 9 9 9) cc56 (by omega) (by omega)) (by decide)
              ·
                have oc6 : (6 : Int32).toInt = 6 := by decide
                have oc9 : (9 : Int32).toInt = 9 := by decide
                have cc57 : (6 : Int32).toInt < (9 : Int32).toInt := i32_nle c55
                refine lv_iload_n hx hb dX11_bitsIn_10 rfl (lv_at hl 1 rfl) ?_
                refine lv_iload_n hx hb dX11_bitsIn_11 rfl (lv_at hl 2 rfl) ?_
                refine lv_iload_n hx hb dX11_bitsIn_12 rfl (lv_at hl 0 rfl) ?_
                refine lv_ishr hx hb dX11_bitsIn_13 ?_
                refine lv_topi (fun x58 ex58 => ?_)
                refine lv_iconst (v := 1) hx hb dX11_bitsIn_14 (by decide) ?_
                refine lv_iand hx hb dX11_bitsIn_15 ?_
                refine lv_topi (fun x59 ex59 => ?_)
                have hb60 : In x59 0 1 := ex59 ▸ In.andr (⟨by decide, by decide⟩ : In 1 1 1) (by decide)
                refine lv_iadd hx hb dX11_bitsIn_16 ?_
                refine lv_topi (fun x61 ex61 => ?_)
                have hb62 : In x61 0 7 := ex61 ▸ In.add hb53 hb60 (by decide) (by decide) (by decide) (by decide)
                have et63 : x61.toInt = x52.toInt + x59.toInt := In.add2e ex61 hb53 hb60 (by decide) (by decide)
                refine lv_istore_n (lv' := [(1, .int x61), (2, .int 6), (0, .int z0)]) hx hb dX11_bitsIn_17 rfl hl (by decide) rfl (fun ls hl => ?_)
                refine lv_iinc (v := 7) (lv' := [(2, .int 7), (1, .int x61), (0, .int z0)]) hx hb dX11_bitsIn_18 hl (k := 1) rfl (by decide) (by decide) rfl (fun ls hl => ?_)
                refine lv_goto (tgt := 4) hx hb dX11_bitsIn_21 (by decide) ?_
                refine lv_iload_n hx hb dX11_bitsIn_4 rfl (lv_at hl 0 rfl) ?_
                refine lv_bipush (v := 9) hx hb dX11_bitsIn_5 (by decide) ?_
                refine lv_icmp_ge (tgt := 24) hx hb dX11_bitsIn_7 (by decide) (fun c64 => ?_) (fun c64 => ?_)
                ·
                  have oc7 : (7 : Int32).toInt = 7 := by decide
                  have oc9 : (9 : Int32).toInt = 9 := by decide
                  have cc65 : (9 : Int32).toInt ≤ (7 : Int32).toInt := i32_le.mp c64
                  exact In.empty (lo := 9) (hi := 7) (In.ge1 (⟨by decide, by decide⟩ : In 7 7 7) (⟨by decide, by decide⟩ : In 9 9 9) cc65 (by omega) (by omega)) (by decide)
                ·
                  have oc7 : (7 : Int32).toInt = 7 := by decide
                  have oc9 : (9 : Int32).toInt = 9 := by decide
                  have cc66 : (7 : Int32).toInt < (9 : Int32).toInt := i32_nle c64
                  refine lv_iload_n hx hb dX11_bitsIn_10 rfl (lv_at hl 1 rfl) ?_
                  refine lv_iload_n hx hb dX11_bitsIn_11 rfl (lv_at hl 2 rfl) ?_
                  refine lv_iload_n hx hb dX11_bitsIn_12 rfl (lv_at hl 0 rfl) ?_
                  refine lv_ishr hx hb dX11_bitsIn_13 ?_
                  refine lv_topi (fun x67 ex67 => ?_)
                  refine lv_iconst (v := 1) hx hb dX11_bitsIn_14 (by decide) ?_
                  refine lv_iand hx hb dX11_bitsIn_15 ?_
                  refine lv_topi (fun x68 ex68 => ?_)
                  have hb69 : In x68 0 1 := ex68 ▸ In.andr (⟨by decide, by decide⟩ : In 1 1 1) (by decide)
                  refine lv_iadd hx hb dX11_bitsIn_16 ?_
                  refine lv_topi (fun x70 ex70 => ?_)
                  have hb71 : In x70 0 8 := ex70 ▸ In.add hb62 hb69 (by decide) (by decide) (by decide) (by decide)
                  have et72 : x70.toInt = x61.toInt + x68.toInt := In.add2e ex70 hb62 hb69 (by decide) (by decide)
                  refine lv_istore_n (lv' := [(1, .int x70), (2, .int 7), (0, .int z0)]) hx hb dX11_bitsIn_17 rfl hl (by decide) rfl (fun ls hl => ?_)
                  refine lv_iinc (v := 8) (lv' := [(2, .int 8), (1, .int x70), (0, .int z0)]) hx hb dX11_bitsIn_18 hl (k := 1) rfl (by decide) (by decide) rfl (fun ls hl => ?_)
                  refine lv_goto (tgt := 4) hx hb dX11_bitsIn_21 (by decide) ?_
                  refine lv_iload_n hx hb dX11_bitsIn_4 rfl (lv_at hl 0 rfl) ?_
                  refine lv_bipush (v := 9) hx hb dX11_bitsIn_5 (by decide) ?_
                  refine lv_icmp_ge (tgt := 24) hx hb dX11_bitsIn_7 (by decide) (fun c73 => ?_) (fun c73 => ?_)
                  ·
                    have oc8 : (8 : Int32).toInt = 8 := by decide
                    have oc9 : (9 : Int32).toInt = 9 := by decide
                    have cc74 : (9 : Int32).toInt ≤ (8 : Int32).toInt := i32_le.mp c73
                    exact In.empty (lo := 9) (hi := 8) (In.ge1 (⟨by decide, by decide⟩ : In 8 8 8) (⟨by decide, by decide⟩ : In 9 9 9) cc74 (by omega) (by omega)) (by decide)
                  ·
                    have oc8 : (8 : Int32).toInt = 8 := by decide
                    have oc9 : (9 : Int32).toInt = 9 := by decide
                    have cc75 : (8 : Int32).toInt < (9 : Int32).toInt := i32_nle c73
                    refine lv_iload_n hx hb dX11_bitsIn_10 rfl (lv_at hl 1 rfl) ?_
                    refine lv_iload_n hx hb dX11_bitsIn_11 rfl (lv_at hl 2 rfl) ?_
                    refine lv_iload_n hx hb dX11_bitsIn_12 rfl (lv_at hl 0 rfl) ?_
                    refine lv_ishr hx hb dX11_bitsIn_13 ?_
                    refine lv_topi (fun x76 ex76 => ?_)
                    refine lv_iconst (v := 1) hx hb dX11_bitsIn_14 (by decide) ?_
                    refine lv_iand hx hb dX11_bitsIn_15 ?_
                    refine lv_topi (fun x77 ex77 => ?_)
                    have hb78 : In x77 0 1 := ex77 ▸ In.andr (⟨by decide, by decide⟩ : In 1 1 1) (by decide)
                    refine lv_iadd hx hb dX11_bitsIn_16 ?_
                    refine lv_topi (fun x79 ex79 => ?_)
                    have hb80 : In x79 0 9 := ex79 ▸ In.add hb71 hb78 (by decide) (by decide) (by decide) (by decide)
                    have et81 : x79.toInt = x70.toInt + x77.toInt := In.add2e ex79 hb71 hb78 (by decide) (by decide)
                    refine lv_istore_n (lv' := [(1, .int x79), (2, .int 8), (0, .int z0)]) hx hb dX11_bitsIn_17 rfl hl (by decide) rfl (fun ls hl => ?_)
                    refine lv_iinc (v := 9) (lv' := [(2, .int 9), (1, .int x79), (0, .int z0)]) hx hb dX11_bitsIn_18 hl (k := 1) rfl (by decide) (by decide) rfl (fun ls hl => ?_)
                    refine lv_goto (tgt := 4) hx hb dX11_bitsIn_21 (by decide) ?_
                    refine lv_iload_n hx hb dX11_bitsIn_4 rfl (lv_at hl 0 rfl) ?_
                    refine lv_bipush (v := 9) hx hb dX11_bitsIn_5 (by decide) ?_
                    refine lv_icmp_ge (tgt := 24) hx hb dX11_bitsIn_7 (by decide) (fun c82 => ?_) (fun c82 => ?_)
                    ·
                      have oc9 : (9 : Int32).toInt = 9 := by decide
                      have oc9 : (9 : Int32).toInt = 9 := by decide
                      have cc83 : (9 : Int32).toInt ≤ (9 : Int32).toInt := i32_le.mp c82
                      refine lv_iload_n hx hb dX11_bitsIn_24 rfl (lv_at hl 1 rfl) ?_
                      exact ret_i (ty := .int) hx hb hr hlocks (rfl) hP hD hS (Nat.le_of_ble_eq_true rfl) (Nat.le_of_ble_eq_true rfl) (⟨rfl, rfl, hb80, (fun h => by have e0 : (0 : Int32).toInt = 0 := (by decide); have b0 : x5.toInt = bitI z0.toInt 0 := shr_bit h.1 (⟨by decide, by decide⟩ : In 0 0 30) ex4 ex5; have b1 : x14.toInt = bitI z0.toInt 1 := shr_bit h.1 (⟨by decide, by decide⟩ : In 1 0 30) ex13 ex14; have b2 : x23.toInt = bitI z0.toInt 2 := shr_bit h.1 (⟨by decide, by decide⟩ : In 2 0 30) ex22 ex23; have b3 : x32.toInt = bitI z0.toInt 3 := shr_bit h.1 (⟨by decide, by decide⟩ : In 3 0 30) ex31 ex32; have b4 : x41.toInt = bitI z0.toInt 4 := shr_bit h.1 (⟨by decide, by decide⟩ : In 4 0 30) ex40 ex41; have b5 : x50.toInt = bitI z0.toInt 5 := shr_bit h.1 (⟨by decide, by decide⟩ : In 5 0 30) ex49 ex50; have b6 : x59.toInt = bitI z0.toInt 6 := shr_bit h.1 (⟨by decide, by decide⟩ : In 6 0 30) ex58 ex59; have b7 : x68.toInt = bitI z0.toInt 7 := shr_bit h.1 (⟨by decide, by decide⟩ : In 7 0 30) ex67 ex68; have b8 : x77.toInt = bitI z0.toInt 8 := shr_bit h.1 (⟨by decide, by decide⟩ : In 8 0 30) ex76 ex77; have sm := pcS_I h; omega)⟩) dX11_bitsIn_25
                    ·
                      have oc9 : (9 : Int32).toInt = 9 := by decide
                      have oc9 : (9 : Int32).toInt = 9 := by decide
                      have cc84 : (9 : Int32).toInt < (9 : Int32).toInt := i32_nle c82
                      exact In.empty (lo := 9) (hi := 8) (In.lt1 (⟨by decide, by decide⟩ : In 9 9 9) (⟨by decide, by decide⟩ : In 9 9 9) cc84 (by omega) (by omega)) (by decide)
