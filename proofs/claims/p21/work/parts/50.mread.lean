abbrev rm_X11_isIn : Room := { frames := 0, cells := 0, slots := 0, locals := 0 }
abbrev po_X11_isIn (g : GG) (ad : Nat → Nat) (th : Nat → Int) (L : List Nat) (f : HP) (z0 : Int64) (z1 : Int64) (z2 : Int64) : Int32 → (List Nat × HP) → Prop := fun r u => u.1 = L ∧ u.2 = f ∧ In r 0 1 ∧ (r.toInt = 0 ∨ (z1.toInt ≤ z0.toInt ∧ z0.toInt ≤ z2.toInt)) ∧ (r.toInt = 0 → ¬ (z1.toInt ≤ z0.toInt ∧ z0.toInt ≤ z2.toInt))
set_option maxHeartbeats 4000000 in
set_option maxRecDepth 100000 in
theorem s_X11_isIn (l : Launch) (g : GG) (ad : Nat → Nat) (th : Nat → Int) (L : List Nat) (f : HP) (sz : Nat) (z0 : Int64) (z1 : Int64) (z2 : Int64) (hst : ST ad L) (hT : TI g ad th f)  : MtI l g yX11_isIn cX11_isIn 6 (some .boolean) rm_X11_isIn [.long z0, .long z1, .long z2] L f sz (po_X11_isIn g ad th L f z0 z1 z2) := by
  refine MtI.of (by decide +kernel) (Nat.le_of_ble_eq_true rfl) ?_
  intro p e s m below meth c A hEn hP hD hS ls hl
  obtain ⟨hx, hb, hr, hml, hown, hlocks, hts, hG, hA, hE, hnm⟩ := hEn
  have hown : s.vm.findClass "RulerWordModel" = some m.cls := hown
  have hl : lv_has ls 6 [(0, .long z0), (2, .long z1), (4, .long z2)] := hl
  refine lv_lload_n hx hb dX11_isIn_0 rfl (lv_at hl 0 rfl) ?_
  refine lv_lload_n hx hb dX11_isIn_1 rfl (lv_at hl 1 rfl) ?_
  refine W.lcmp hx hb dX11_isIn_2 ?_
  refine lv_topi (fun x1 ex1 => ?_)
  have hb2 : In x1 (-1) 1 := ex1 ▸ In.lcmp _ _
  refine lv_if_lt (tgt := 17) hx hb dX11_isIn_3 (by decide) (fun c3 => ?_) (fun c3 => ?_)
  ·
    have cc4 : x1.toInt < (0 : Int32).toInt := i32_lt.mp c3
    have hb5 : In x1 (-1) (-1) := In.lt1 hb2 (⟨by decide, by decide⟩ : In 0 0 0) cc4 (by omega) (by omega)
    refine lv_iconst (v := 0) hx hb dX11_isIn_17 (by decide) ?_
    exact ret_i (ty := .boolean) hx hb hr hlocks (rfl) hP hD hS (Nat.le_of_ble_eq_true rfl) (Nat.le_of_ble_eq_true rfl) (⟨rfl, rfl, (⟨by decide, by decide⟩ : In 0 0 1), (Or.inl (by decide)), (fun _ h => absurd h.1 (Int.not_le.mpr (lc_lt ex1 c3)))⟩) dX11_isIn_18
  ·
    have cc6 : (0 : Int32).toInt ≤ x1.toInt := i32_nlt c3
    have hb7 : In x1 0 1 := In.ge1 hb2 (⟨by decide, by decide⟩ : In 0 0 0) cc6 (by omega) (by omega)
    refine lv_lload_n hx hb dX11_isIn_6 rfl (lv_at hl 0 rfl) ?_
    refine lv_lload hx hb dX11_isIn_7 (lv_at hl 2 rfl) ?_
    refine W.lcmp hx hb dX11_isIn_9 ?_
    refine lv_topi (fun x8 ex8 => ?_)
    have hb9 : In x8 (-1) 1 := ex8 ▸ In.lcmp _ _
    refine lv_if_gt (tgt := 17) hx hb dX11_isIn_10 (by decide) (fun c10 => ?_) (fun c10 => ?_)
    ·
      have cc11 : (0 : Int32).toInt < x8.toInt := i32_lt.mp c10
      have hb12 : In x8 1 1 := In.gt1 hb9 (⟨by decide, by decide⟩ : In 0 0 0) cc11 (by omega) (by omega)
      refine lv_iconst (v := 0) hx hb dX11_isIn_17 (by decide) ?_
      exact ret_i (ty := .boolean) hx hb hr hlocks (rfl) hP hD hS (Nat.le_of_ble_eq_true rfl) (Nat.le_of_ble_eq_true rfl) (⟨rfl, rfl, (⟨by decide, by decide⟩ : In 0 0 1), (Or.inl (by decide)), (fun _ h => absurd h.2 (Int.not_le.mpr (lc_gt ex8 c10)))⟩) dX11_isIn_18
    ·
      have cc13 : x8.toInt ≤ (0 : Int32).toInt := i32_nlt c10
      have hb14 : In x8 (-1) 0 := In.le1 hb9 (⟨by decide, by decide⟩ : In 0 0 0) cc13 (by omega) (by omega)
      refine lv_iconst (v := 1) hx hb dX11_isIn_13 (by decide) ?_
      refine lv_goto (tgt := 18) hx hb dX11_isIn_14 (by decide) ?_
      exact ret_i (ty := .boolean) hx hb hr hlocks (rfl) hP hD hS (Nat.le_of_ble_eq_true rfl) (Nat.le_of_ble_eq_true rfl) (⟨rfl, rfl, (⟨by decide, by decide⟩ : In 1 0 1), (Or.inr ⟨lc_ge ex1 c3, lc_le ex8 c10⟩), (fun h => absurd h (by decide))⟩) dX11_isIn_18

abbrev rm_X11_has : Room := { frames := 0, cells := 0, slots := 0, locals := 0 }
abbrev po_X11_has (g : GG) (ad : Nat → Nat) (th : Nat → Int) (L : List Nat) (f : HP) (z0 : Int32) (z1 : Int32) : Int32 → (List Nat × HP) → Prop := fun r u => u.1 = L ∧ u.2 = f ∧ In r 0 1 ∧ (0 ≤ z0.toInt → In z1 0 30 → r.toInt = bitI z0.toInt z1.toInt)
set_option maxHeartbeats 4000000 in
set_option maxRecDepth 100000 in
theorem s_X11_has (l : Launch) (g : GG) (ad : Nat → Nat) (th : Nat → Int) (L : List Nat) (f : HP) (sz : Nat) (z0 : Int32) (z1 : Int32) (hst : ST ad L) (hT : TI g ad th f)  : MtI l g yX11_has cX11_has 2 (some .boolean) rm_X11_has [.int z0, .int z1] L f sz (po_X11_has g ad th L f z0 z1) := by
  refine MtI.of (by decide +kernel) (Nat.le_of_ble_eq_true rfl) ?_
  intro p e s m below meth c A hEn hP hD hS ls hl
  obtain ⟨hx, hb, hr, hml, hown, hlocks, hts, hG, hA, hE, hnm⟩ := hEn
  have hown : s.vm.findClass "RulerWordModel" = some m.cls := hown
  have hl : lv_has ls 2 [(0, .int z0), (1, .int z1)] := hl
  refine lv_iload_n hx hb dX11_has_0 rfl (lv_at hl 0 rfl) ?_
  refine lv_iload_n hx hb dX11_has_1 rfl (lv_at hl 1 rfl) ?_
  refine lv_ishr hx hb dX11_has_2 ?_
  refine lv_topi (fun x1 ex1 => ?_)
  refine lv_iconst (v := 1) hx hb dX11_has_3 (by decide) ?_
  refine lv_iand hx hb dX11_has_4 ?_
  refine lv_topi (fun x2 ex2 => ?_)
  have hb3 : In x2 0 1 := ex2 ▸ In.andr (⟨by decide, by decide⟩ : In 1 1 1) (by decide)
  refine lv_iconst (v := 1) hx hb dX11_has_5 (by decide) ?_
  refine lv_icmp_ne (tgt := 13) hx hb dX11_has_6 (by decide) (fun c4 => ?_) (fun c4 => ?_)
  ·
    have oc1 : (1 : Int32).toInt = 1 := by decide
    have cc5 : x2.toInt ≠ (1 : Int32).toInt := i32_ne c4
    have hb6 : In x2 0 0 := In.ne1 hb3 (⟨by decide, by decide⟩ : In 1 1 1) cc5 (by omega) (by omega)
    refine lv_iconst (v := 0) hx hb dX11_has_13 (by decide) ?_
    exact ret_i (ty := .boolean) hx hb hr hlocks (rfl) hP hD hS (Nat.le_of_ble_eq_true rfl) (Nat.le_of_ble_eq_true rfl) (⟨rfl, rfl, (⟨by decide, by decide⟩ : In 0 0 1), (fun h0 hk => by have q := shr_bit h0 hk ex1 ex2; obtain ⟨q1, q2⟩ := (hb6 : In _ _ _); have e0 : (0 : Int32).toInt = 0 := (by decide); have e1 : (1 : Int32).toInt = 1 := (by decide); omega)⟩) dX11_has_14
  ·
    have oc1 : (1 : Int32).toInt = 1 := by decide
    have cc7 : x2.toInt = (1 : Int32).toInt := congrArg Int32.toInt c4
    have hb8 : In x2 1 1 := In.eq1 hb3 (⟨by decide, by decide⟩ : In 1 1 1) cc7 (by omega) (by omega)
    refine lv_iconst (v := 1) hx hb dX11_has_9 (by decide) ?_
    refine lv_goto (tgt := 14) hx hb dX11_has_10 (by decide) ?_
    exact ret_i (ty := .boolean) hx hb hr hlocks (rfl) hP hD hS (Nat.le_of_ble_eq_true rfl) (Nat.le_of_ble_eq_true rfl) (⟨rfl, rfl, (⟨by decide, by decide⟩ : In 1 0 1), (fun h0 hk => by have q := shr_bit h0 hk ex1 ex2; obtain ⟨q1, q2⟩ := (hb8 : In _ _ _); have e0 : (1 : Int32).toInt = 1 := (by decide); have e1 : (1 : Int32).toInt = 1 := (by decide); omega)⟩) dX11_has_14

abbrev rm_X11_bitsIn : Room := { frames := 0, cells := 0, slots := 0, locals := 0 }
abbrev po_X11_bitsIn (g : GG) (ad : Nat → Nat) (th : Nat → Int) (L : List Nat) (f : HP) (z0 : Int32) : Int32 → (List Nat × HP) → Prop := fun r u => u.1 = L ∧ u.2 = f ∧ In r 0 9 ∧ (In z0 0 511 → r.toInt = pcI z0.toInt)
set_option maxHeartbeats 4000000 in
set_option maxRecDepth 100000 in
theorem s_X11_bitsIn (l : Launch) (g : GG) (ad : Nat → Nat) (th : Nat → Int) (L : List Nat) (f : HP) (sz : Nat) (z0 : Int32) (hst : ST ad L) (hT : TI g ad th f)  : MtI l g yX11_bitsIn cX11_bitsIn 3 (some .int) rm_X11_bitsIn [.int z0] L f sz (po_X11_bitsIn g ad th L f z0) := by
  refine MtI.of (by decide +kernel) (Nat.le_of_ble_eq_true rfl) ?_
  intro p e s m below meth c A hEn hP hD hS ls hl
  obtain ⟨hx, hb, hr, hml, hown, hlocks, hts, hG, hA, hE, hnm⟩ := hEn
  have hown : s.vm.findClass "RulerWordModel" = some m.cls := hown
  have hl : lv_has ls 3 [(0, .int z0)] := hl
  refine lv_iconst (v := 0) hx hb dX11_bitsIn_0 (by decide) ?_
  refine lv_istore_n (lv' := [(1, .int 0), (0, .int z0)]) hx hb dX11_bitsIn_1 rfl hl (by decide) rfl (fun ls hl => ?_)
  refine lv_iconst (v := 0) hx hb dX11_bitsIn_2 (by decide) ?_
  refine lv_istore_n (lv' := [(2, .int 0), (1, .int 0), (0, .int z0)]) hx hb dX11_bitsIn_3 rfl hl (by decide) rfl (fun ls hl => ?_)
  refine lv_iload_n hx hb dX11_bitsIn_4 rfl (lv_at hl 0 rfl) ?_
  refine lv_bipush (v := 9) hx hb dX11_bitsIn_5 (by decide) ?_
  refine lv_icmp_ge (tgt := 24) hx hb dX11_bitsIn_7 (by decide) (fun c1 => ?_) (fun c1 => ?_)
  ·
    have oc0 : (0 : Int32).toInt = 0 := by decide
    have oc9 : (9 : Int32).toInt = 9 := by decide
    have cc2 : (9 : Int32).toInt ≤ (0 : Int32).toInt := i32_le.mp c1
    exact In.empty (lo := 9) (hi := 0) (In.ge1 (⟨by decide, by decide⟩ : In 0 0 0) (⟨by decide, by decide⟩ : In 9 9 9) cc2 (by omega) (by omega)) (by decide)
  ·
    have oc0 : (0 : Int32).toInt = 0 := by decide
    have oc9 : (9 : Int32).toInt = 9 := by decide
    have cc3 : (0 : Int32).toInt < (9 : Int32).toInt := i32_nle c1
    refine lv_iload_n hx hb dX11_bitsIn_10 rfl (lv_at hl 1 rfl) ?_
    refine lv_iload_n hx hb dX11_bitsIn_11 rfl (lv_at hl 2 rfl) ?_
    refine lv_iload_n hx hb dX11_bitsIn_12 rfl (lv_at hl 0 rfl) ?_
    refine lv_ishr hx hb dX11_bitsIn_13 ?_
    refine lv_topi (fun x4 ex4 => ?_)
    refine lv_iconst (v := 1) hx hb dX11_bitsIn_14 (by decide) ?_
    refine lv_iand hx hb dX11_bitsIn_15 ?_
    refine lv_topi (fun x5 ex5 => ?_)
    have hb6 : In x5 0 1 := ex5 ▸ In.andr (⟨by decide, by decide⟩ : In 1 1 1) (by decide)
    refine lv_iadd hx hb dX11_bitsIn_16 ?_
    refine lv_topi (fun x7 ex7 => ?_)
    have hb8 : In x7 0 1 := ex7 ▸ In.add (⟨by decide, by decide⟩ : In 0 0 0) hb6 (by decide) (by decide) (by decide) (by decide)
    have et9 : x7.toInt = (0 : Int32).toInt + x5.toInt := In.add2e ex7 (⟨by decide, by decide⟩ : In 0 0 0) hb6 (by decide) (by decide)
    refine lv_istore_n (lv' := [(1, .int x7), (2, .int 0), (0, .int z0)]) hx hb dX11_bitsIn_17 rfl hl (by decide) rfl (fun ls hl => ?_)
    refine lv_iinc (v := 1) (lv' := [(2, .int 1), (1, .int x7), (0, .int z0)]) hx hb dX11_bitsIn_18 hl (k := 1) rfl (by decide) (by decide) rfl (fun ls hl => ?_)
    refine lv_goto (tgt := 4) hx hb dX11_bitsIn_21 (by decide) ?_
    refine lv_iload_n hx hb dX11_bitsIn_4 rfl (lv_at hl 0 rfl) ?_
    refine lv_bipush (v := 9) hx hb dX11_bitsIn_5 (by decide) ?_
    refine lv_icmp_ge (tgt := 24) hx hb dX11_bitsIn_7 (by decide) (fun c10 => ?_) (fun c10 => ?_)
    ·
      have oc1 : (1 : Int32).toInt = 1 := by decide
      have oc9 : (9 : Int32).toInt = 9 := by decide
      have cc11 : (9 : Int32).toInt ≤ (1 : Int32).toInt := i32_le.mp c10
      exact In.empty (lo := 9) (hi := 1) (In.ge1 (⟨by decide, by decide⟩ : In 1 1 1) (⟨by decide, by decide⟩ : In 9 9 9) cc11 (by omega) (by omega)) (by decide)
    ·
      have oc1 : (1 : Int32).toInt = 1 := by decide
      have oc9 : (9 : Int32).toInt = 9 := by decide
      have cc12 : (1 : Int32).toInt < (9 : Int32).toInt := i32_nle c10
      refine lv_iload_n hx hb dX11_bitsIn_10 rfl (lv_at hl 1 rfl) ?_
      refine lv_iload_n hx hb dX11_bitsIn_11 rfl (lv_at hl 2 rfl) ?_
      refine lv_iload_n hx hb dX11_bitsIn_12 rfl (lv_at hl 0 rfl) ?_
      refine lv_ishr hx hb dX11_bitsIn_13 ?_
      refine lv_topi (fun x13 ex13 => ?_)
      refine lv_iconst (v := 1) hx hb dX11_bitsIn_14 (by decide) ?_
      refine lv_iand hx hb dX11_bitsIn_15 ?_
      refine lv_topi (fun x14 ex14 => ?_)
      have hb15 : In x14 0 1 := ex14 ▸ In.andr (⟨by decide, by decide⟩ : In 1 1 1) (by decide)
      refine lv_iadd hx hb dX11_bitsIn_16 ?_
      refine lv_topi (fun x16 ex16 => ?_)
      have hb17 : In x16 0 2 := ex16 ▸ In.add hb8 hb15 (by decide) (by decide) (by decide) (by decide)
      have et18 : x16.toInt = x7.toInt + x14.toInt := In.add2e ex16 hb8 hb15 (by decide) (by decide)
      refine lv_istore_n (lv' := [(1, .int x16), (2, .int 1), (0, .int z0)]) hx hb dX11_bitsIn_17 rfl hl (by decide) rfl (fun ls hl => ?_)
      refine lv_iinc (v := 2) (lv' := [(2, .int 2), (1, .int x16), (0, .int z0)]) hx hb dX11_bitsIn_18 hl (k := 1) rfl (by decide) (by decide) rfl (fun ls hl => ?_)
      refine lv_goto (tgt := 4) hx hb dX11_bitsIn_21 (by decide) ?_
      refine lv_iload_n hx hb dX11_bitsIn_4 rfl (lv_at hl 0 rfl) ?_
      refine lv_bipush (v := 9) hx hb dX11_bitsIn_5 (by decide) ?_
      refine lv_icmp_ge (tgt := 24) hx hb dX11_bitsIn_7 (by decide) (fun c19 => ?_) (fun c19 => ?_)
      ·
        have oc2 : (2 : Int32).toInt = 2 := by decide
        have oc9 : (9 : Int32).toInt = 9 := by decide
        have cc20 : (9 : Int32).toInt ≤ (2 : Int32).toInt := i32_le.mp c19
        exact In.empty (lo := 9) (hi := 2) (In.ge1 (⟨by decide, by decide⟩ : In 2 2 2) (⟨by decide, by decide⟩ : In 9 9 9) cc20 (by omega) (by omega)) (by decide)
      ·
        have oc2 : (2 : Int32).toInt = 2 := by decide
        have oc9 : (9 : Int32).toInt = 9 := by decide
        have cc21 : (2 : Int32).toInt < (9 : Int32).toInt := i32_nle c19
        refine lv_iload_n hx hb dX11_bitsIn_10 rfl (lv_at hl 1 rfl) ?_
        refine lv_iload_n hx hb dX11_bitsIn_11 rfl (lv_at hl 2 rfl) ?_
        refine lv_iload_n hx hb dX11_bitsIn_12 rfl (lv_at hl 0 rfl) ?_
        refine lv_ishr hx hb dX11_bitsIn_13 ?_
        refine lv_topi (fun x22 ex22 => ?_)
        refine lv_iconst (v := 1) hx hb dX11_bitsIn_14 (by decide) ?_
        refine lv_iand hx hb dX11_bitsIn_15 ?_
        refine lv_topi (fun x23 ex23 => ?_)
        have hb24 : In x23 0 1 := ex23 ▸ In.andr (⟨by decide, by decide⟩ : In 1 1 1) (by decide)
        refine lv_iadd hx hb dX11_bitsIn_16 ?_
        refine lv_topi (fun x25 ex25 => ?_)
        have hb26 : In x25 0 3 := ex25 ▸ In.add hb17 hb24 (by decide) (by decide) (by decide) (by decide)
        have et27 : x25.toInt = x16.toInt + x23.toInt := In.add2e ex25 hb17 hb24 (by decide) (by decide)
        refine lv_istore_n (lv' := [(1, .int x25), (2, .int 2), (0, .int z0)]) hx hb dX11_bitsIn_17 rfl hl (by decide) rfl (fun ls hl => ?_)
        refine lv_iinc (v := 3) (lv' := [(2, .int 3), (1, .int x25), (0, .int z0)]) hx hb dX11_bitsIn_18 hl (k := 1) rfl (by decide) (by decide) rfl (fun ls hl => ?_)
        refine lv_goto (tgt := 4) hx hb dX11_bitsIn_21 (by decide) ?_
        refine lv_iload_n hx hb dX11_bitsIn_4 rfl (lv_at hl 0 rfl) ?_
        refine lv_bipush (v := 9) hx hb dX11_bitsIn_5 (by decide) ?_
        refine lv_icmp_ge (tgt := 24) hx hb dX11_bitsIn_7 (by decide) (fun c28 => ?_) (fun c28 => ?_)
        ·
          have oc3 : (3 : Int32).toInt = 3 := by decide
          have oc9 : (9 : Int32).toInt = 9 := by decide
          have cc29 : (9 : Int32).toInt ≤ (3 : Int32).toInt := i32_le.mp c28
          exact In.empty (lo := 9) (hi := 3) (In.ge1 (⟨by decide, by decide⟩ : In 3 3 3) (⟨by decide, by decide⟩ : In 9 9 9) cc29 (by omega) (by omega)) (by decide)
        ·
          have oc3 : (3 : Int32).toInt = 3 := by decide
          have oc9 : (9 : Int32).toInt = 9 := by decide
          have cc30 : (3 : Int32).toInt < (9 : Int32).toInt := i32_nle c28
          refine lv_iload_n hx hb dX11_bitsIn_10 rfl (lv_at hl 1 rfl) ?_
          refine lv_iload_n hx hb dX11_bitsIn_11 rfl (lv_at hl 2 rfl) ?_
          refine lv_iload_n hx hb dX11_bitsIn_12 rfl (lv_at hl 0 rfl) ?_
          refine lv_ishr hx hb dX11_bitsIn_13 ?_
          refine lv_topi (fun x31 ex31 => ?_)
          refine lv_iconst (v := 1) hx hb dX11_bitsIn_14 (by decide) ?_
          refine lv_iand hx hb dX11_bitsIn_15 ?_
          refine lv_topi (fun x32 ex32 => ?_)
          have hb33 : In x32 0 1 := ex32 ▸ In.andr (⟨by decide, by decide⟩ : In 1 1 1) (by decide)
          refine lv_iadd hx hb dX11_bitsIn_16 ?_
          refine lv_topi (fun x34 ex34 => ?_)
          have hb35 : In x34 0 4 := ex34 ▸ In.add hb26 hb33 (by decide) (by decide) (by decide) (by decide)
          have et36 : x34.toInt = x25.toInt + x32.toInt := In.add2e ex34 hb26 hb33 (by decide) (by decide)
          refine lv_istore_n (lv' := [(1, .int x34), (2, .int 3), (0, .int z0)]) hx hb dX11_bitsIn_17 rfl hl (by decide) rfl (fun ls hl => ?_)
          refine lv_iinc (v := 4) (lv' := [(2, .int 4), (1, .int x34), (0, .int z0)]) hx hb dX11_bitsIn_18 hl (k := 1) rfl (by decide) (by decide) rfl (fun ls hl => ?_)
          refine lv_goto (tgt := 4) hx hb dX11_bitsIn_21 (by decide) ?_
          refine lv_iload_n hx hb dX11_bitsIn_4 rfl (lv_at hl 0 rfl) ?_
          refine lv_bipush (v := 9) hx hb dX11_bitsIn_5 (by decide) ?_
          refine lv_icmp_ge (tgt := 24) hx hb dX11_bitsIn_7 (by decide) (fun c37 => ?_) (fun c37 => ?_)
          ·
            have oc4 : (4 : Int32).toInt = 4 := by decide
            have oc9 : (9 : Int32).toInt = 9 := by decide
            have cc38 : (9 : Int32).toInt ≤ (4 : Int32).toInt := i32_le.mp c37
            exact In.empty (lo := 9) (hi := 4) (In.ge1 (⟨by decide, by decide⟩ : In 4 4 4) (⟨by decide, by decide⟩ : In 9 9 9) cc38 (by omega) (by omega)) (by decide)
          ·
            have oc4 : (4 : Int32).toInt = 4 := by decide
            have oc9 : (9 : Int32).toInt = 9 := by decide
            have cc39 : (4 : Int32).toInt < (9 : Int32).toInt := i32_nle c37
            refine lv_iload_n hx hb dX11_bitsIn_10 rfl (lv_at hl 1 rfl) ?_
            refine lv_iload_n hx hb dX11_bitsIn_11 rfl (lv_at hl 2 rfl) ?_
            refine lv_iload_n hx hb dX11_bitsIn_12 rfl (lv_at hl 0 rfl) ?_
            refine lv_ishr hx hb dX11_bitsIn_13 ?_
            refine lv_topi (fun x40 ex40 => ?_)
            refine lv_iconst (v := 1) hx hb dX11_bitsIn_14 (by decide) ?_
            refine lv_iand hx hb dX11_bitsIn_15 ?_
            refine lv_topi (fun x41 ex41 => ?_)
            have hb42 : In x41 0 1 := ex41 ▸ In.andr (⟨by decide, by decide⟩ : In 1 1 1) (by decide)
            refine lv_iadd hx hb dX11_bitsIn_16 ?_
            refine lv_topi (fun x43 ex43 => ?_)
            have hb44 : In x43 0 5 := ex43 ▸ In.add hb35 hb42 (by decide) (by decide) (by decide) (by decide)
            have et45 : x43.toInt = x34.toInt + x41.toInt := In.add2e ex43 hb35 hb42 (by decide) (by decide)
            refine lv_istore_n (lv' := [(1, .int x43), (2, .int 4), (0, .int z0)]) hx hb dX11_bitsIn_17 rfl hl (by decide) rfl (fun ls hl => ?_)
            refine lv_iinc (v := 5) (lv' := [(2, .int 5), (1, .int x43), (0, .int z0)]) hx hb dX11_bitsIn_18 hl (k := 1) rfl (by decide) (by decide) rfl (fun ls hl => ?_)
            refine lv_goto (tgt := 4) hx hb dX11_bitsIn_21 (by decide) ?_
            refine lv_iload_n hx hb dX11_bitsIn_4 rfl (lv_at hl 0 rfl) ?_
            refine lv_bipush (v := 9) hx hb dX11_bitsIn_5 (by decide) ?_
            refine lv_icmp_ge (tgt := 24) hx hb dX11_bitsIn_7 (by decide) (fun c46 => ?_) (fun c46 => ?_)
            ·
              have oc5 : (5 : Int32).toInt = 5 := by decide
              have oc9 : (9 : Int32).toInt = 9 := by decide
              have cc47 : (9 : Int32).toInt ≤ (5 : Int32).toInt := i32_le.mp c46
              exact In.empty (lo := 9) (hi := 5) (In.ge1 (⟨by decide, by decide⟩ : In 5 5 5) (⟨by decide, by decide⟩ : In 9 9 9) cc47 (by omega) (by omega)) (by decide)
            ·
              have oc5 : (5 : Int32).toInt = 5 := by decide
              have oc9 : (9 : Int32).toInt = 9 := by decide
              have cc48 : (5 : Int32).toInt < (9 : Int32).toInt := i32_nle c46
              refine lv_iload_n hx hb dX11_bitsIn_10 rfl (lv_at hl 1 rfl) ?_
              refine lv_iload_n hx hb dX11_bitsIn_11 rfl (lv_at hl 2 rfl) ?_
              refine lv_iload_n hx hb dX11_bitsIn_12 rfl (lv_at hl 0 rfl) ?_
              refine lv_ishr hx hb dX11_bitsIn_13 ?_
              refine lv_topi (fun x49 ex49 => ?_)
              refine lv_iconst (v := 1) hx hb dX11_bitsIn_14 (by decide) ?_
              refine lv_iand hx hb dX11_bitsIn_15 ?_
              refine lv_topi (fun x50 ex50 => ?_)
              have hb51 : In x50 0 1 := ex50 ▸ In.andr (⟨by decide, by decide⟩ : In 1 1 1) (by decide)
              refine lv_iadd hx hb dX11_bitsIn_16 ?_
              refine lv_topi (fun x52 ex52 => ?_)
              have hb53 : In x52 0 6 := ex52 ▸ In.add hb44 hb51 (by decide) (by decide) (by decide) (by decide)
              have et54 : x52.toInt = x43.toInt + x50.toInt := In.add2e ex52 hb44 hb51 (by decide) (by decide)
              refine lv_istore_n (lv' := [(1, .int x52), (2, .int 5), (0, .int z0)]) hx hb dX11_bitsIn_17 rfl hl (by decide) rfl (fun ls hl => ?_)
              refine lv_iinc (v := 6) (lv' := [(2, .int 6), (1, .int x52), (0, .int z0)]) hx hb dX11_bitsIn_18 hl (k := 1) rfl (by decide) (by decide) rfl (fun ls hl => ?_)
              refine lv_goto (tgt := 4) hx hb dX11_bitsIn_21 (by decide) ?_
              refine lv_iload_n hx hb dX11_bitsIn_4 rfl (lv_at hl 0 rfl) ?_
              refine lv_bipush (v := 9) hx hb dX11_bitsIn_5 (by decide) ?_
              refine lv_icmp_ge (tgt := 24) hx hb dX11_bitsIn_7 (by decide) (fun c55 => ?_) (fun c55 => ?_)
              ·
                have oc6 : (6 : Int32).toInt = 6 := by decide
                have oc9 : (9 : Int32).toInt = 9 := by decide
                have cc56 : (9 : Int32).toInt ≤ (6 : Int32).toInt := i32_le.mp c55
                exact In.empty (lo := 9) (hi := 6) (In.ge1 (⟨by decide, by decide⟩ : In 6 6 6) (⟨by decide, by decide⟩ : In 9 9 9) cc56 (by omega) (by omega)) (by decide)
              ·
                have oc6 : (6 : Int32).toInt = 6 := by decide
                have oc9 : (9 : Int32).toInt = 9 := by decide
                have cc57 : (6 : Int32).toInt < (9 : Int32).toInt := i32_nle c55
                refine lv_iload_n hx hb dX11_bitsIn_10 rfl (lv_at hl 1 rfl) ?_
                refine lv_iload_n hx hb dX11_bitsIn_11 rfl (lv_at hl 2 rfl) ?_
                refine lv_iload_n hx hb dX11_bitsIn_12 rfl (lv_at hl 0 rfl) ?_
                refine lv_ishr hx hb dX11_bitsIn_13 ?_
                refine lv_topi (fun x58 ex58 => ?_)
                refine lv_iconst (v := 1) hx hb dX11_bitsIn_14 (by decide) ?_
                refine lv_iand hx hb dX11_bitsIn_15 ?_
                refine lv_topi (fun x59 ex59 => ?_)
                have hb60 : In x59 0 1 := ex59 ▸ In.andr (⟨by decide, by decide⟩ : In 1 1 1) (by decide)
                refine lv_iadd hx hb dX11_bitsIn_16 ?_
                refine lv_topi (fun x61 ex61 => ?_)
                have hb62 : In x61 0 7 := ex61 ▸ In.add hb53 hb60 (by decide) (by decide) (by decide) (by decide)
                have et63 : x61.toInt = x52.toInt + x59.toInt := In.add2e ex61 hb53 hb60 (by decide) (by decide)
                refine lv_istore_n (lv' := [(1, .int x61), (2, .int 6), (0, .int z0)]) hx hb dX11_bitsIn_17 rfl hl (by decide) rfl (fun ls hl => ?_)
                refine lv_iinc (v := 7) (lv' := [(2, .int 7), (1, .int x61), (0, .int z0)]) hx hb dX11_bitsIn_18 hl (k := 1) rfl (by decide) (by decide) rfl (fun ls hl => ?_)
                refine lv_goto (tgt := 4) hx hb dX11_bitsIn_21 (by decide) ?_
                refine lv_iload_n hx hb dX11_bitsIn_4 rfl (lv_at hl 0 rfl) ?_
                refine lv_bipush (v := 9) hx hb dX11_bitsIn_5 (by decide) ?_
                refine lv_icmp_ge (tgt := 24) hx hb dX11_bitsIn_7 (by decide) (fun c64 => ?_) (fun c64 => ?_)
                ·
                  have oc7 : (7 : Int32).toInt = 7 := by decide
                  have oc9 : (9 : Int32).toInt = 9 := by decide
                  have cc65 : (9 : Int32).toInt ≤ (7 : Int32).toInt := i32_le.mp c64
                  exact In.empty (lo := 9) (hi := 7) (In.ge1 (⟨by decide, by decide⟩ : In 7 7 7) (⟨by decide, by decide⟩ : In 9 9 9) cc65 (by omega) (by omega)) (by decide)
                ·
                  have oc7 : (7 : Int32).toInt = 7 := by decide
                  have oc9 : (9 : Int32).toInt = 9 := by decide
                  have cc66 : (7 : Int32).toInt < (9 : Int32).toInt := i32_nle c64
                  refine lv_iload_n hx hb dX11_bitsIn_10 rfl (lv_at hl 1 rfl) ?_
                  refine lv_iload_n hx hb dX11_bitsIn_11 rfl (lv_at hl 2 rfl) ?_
                  refine lv_iload_n hx hb dX11_bitsIn_12 rfl (lv_at hl 0 rfl) ?_
                  refine lv_ishr hx hb dX11_bitsIn_13 ?_
                  refine lv_topi (fun x67 ex67 => ?_)
                  refine lv_iconst (v := 1) hx hb dX11_bitsIn_14 (by decide) ?_
                  refine lv_iand hx hb dX11_bitsIn_15 ?_
                  refine lv_topi (fun x68 ex68 => ?_)
                  have hb69 : In x68 0 1 := ex68 ▸ In.andr (⟨by decide, by decide⟩ : In 1 1 1) (by decide)
                  refine lv_iadd hx hb dX11_bitsIn_16 ?_
                  refine lv_topi (fun x70 ex70 => ?_)
                  have hb71 : In x70 0 8 := ex70 ▸ In.add hb62 hb69 (by decide) (by decide) (by decide) (by decide)
                  have et72 : x70.toInt = x61.toInt + x68.toInt := In.add2e ex70 hb62 hb69 (by decide) (by decide)
                  refine lv_istore_n (lv' := [(1, .int x70), (2, .int 7), (0, .int z0)]) hx hb dX11_bitsIn_17 rfl hl (by decide) rfl (fun ls hl => ?_)
                  refine lv_iinc (v := 8) (lv' := [(2, .int 8), (1, .int x70), (0, .int z0)]) hx hb dX11_bitsIn_18 hl (k := 1) rfl (by decide) (by decide) rfl (fun ls hl => ?_)
                  refine lv_goto (tgt := 4) hx hb dX11_bitsIn_21 (by decide) ?_
                  refine lv_iload_n hx hb dX11_bitsIn_4 rfl (lv_at hl 0 rfl) ?_
                  refine lv_bipush (v := 9) hx hb dX11_bitsIn_5 (by decide) ?_
                  refine lv_icmp_ge (tgt := 24) hx hb dX11_bitsIn_7 (by decide) (fun c73 => ?_) (fun c73 => ?_)
                  ·
                    have oc8 : (8 : Int32).toInt = 8 := by decide
                    have oc9 : (9 : Int32).toInt = 9 := by decide
                    have cc74 : (9 : Int32).toInt ≤ (8 : Int32).toInt := i32_le.mp c73
                    exact In.empty (lo := 9) (hi := 8) (In.ge1 (⟨by decide, by decide⟩ : In 8 8 8) (⟨by decide, by decide⟩ : In 9 9 9) cc74 (by omega) (by omega)) (by decide)
                  ·
                    have oc8 : (8 : Int32).toInt = 8 := by decide
                    have oc9 : (9 : Int32).toInt = 9 := by decide
                    have cc75 : (8 : Int32).toInt < (9 : Int32).toInt := i32_nle c73
                    refine lv_iload_n hx hb dX11_bitsIn_10 rfl (lv_at hl 1 rfl) ?_
                    refine lv_iload_n hx hb dX11_bitsIn_11 rfl (lv_at hl 2 rfl) ?_
                    refine lv_iload_n hx hb dX11_bitsIn_12 rfl (lv_at hl 0 rfl) ?_
                    refine lv_ishr hx hb dX11_bitsIn_13 ?_
                    refine lv_topi (fun x76 ex76 => ?_)
                    refine lv_iconst (v := 1) hx hb dX11_bitsIn_14 (by decide) ?_
                    refine lv_iand hx hb dX11_bitsIn_15 ?_
                    refine lv_topi (fun x77 ex77 => ?_)
                    have hb78 : In x77 0 1 := ex77 ▸ In.andr (⟨by decide, by decide⟩ : In 1 1 1) (by decide)
                    refine lv_iadd hx hb dX11_bitsIn_16 ?_
                    refine lv_topi (fun x79 ex79 => ?_)
                    have hb80 : In x79 0 9 := ex79 ▸ In.add hb71 hb78 (by decide) (by decide) (by decide) (by decide)
                    have et81 : x79.toInt = x70.toInt + x77.toInt := In.add2e ex79 hb71 hb78 (by decide) (by decide)
                    refine lv_istore_n (lv' := [(1, .int x79), (2, .int 8), (0, .int z0)]) hx hb dX11_bitsIn_17 rfl hl (by decide) rfl (fun ls hl => ?_)
                    refine lv_iinc (v := 9) (lv' := [(2, .int 9), (1, .int x79), (0, .int z0)]) hx hb dX11_bitsIn_18 hl (k := 1) rfl (by decide) (by decide) rfl (fun ls hl => ?_)
                    refine lv_goto (tgt := 4) hx hb dX11_bitsIn_21 (by decide) ?_
                    refine lv_iload_n hx hb dX11_bitsIn_4 rfl (lv_at hl 0 rfl) ?_
                    refine lv_bipush (v := 9) hx hb dX11_bitsIn_5 (by decide) ?_
                    refine lv_icmp_ge (tgt := 24) hx hb dX11_bitsIn_7 (by decide) (fun c82 => ?_) (fun c82 => ?_)
                    ·
                      have oc9 : (9 : Int32).toInt = 9 := by decide
                      have oc9 : (9 : Int32).toInt = 9 := by decide
                      have cc83 : (9 : Int32).toInt ≤ (9 : Int32).toInt := i32_le.mp c82
                      refine lv_iload_n hx hb dX11_bitsIn_24 rfl (lv_at hl 1 rfl) ?_
                      exact ret_i (ty := .int) hx hb hr hlocks (rfl) hP hD hS (Nat.le_of_ble_eq_true rfl) (Nat.le_of_ble_eq_true rfl) (⟨rfl, rfl, hb80, (fun h => by have e0 : (0 : Int32).toInt = 0 := (by decide); have b0 : x5.toInt = bitI z0.toInt 0 := shr_bit h.1 (⟨by decide, by decide⟩ : In 0 0 30) ex4 ex5; have b1 : x14.toInt = bitI z0.toInt 1 := shr_bit h.1 (⟨by decide, by decide⟩ : In 1 0 30) ex13 ex14; have b2 : x23.toInt = bitI z0.toInt 2 := shr_bit h.1 (⟨by decide, by decide⟩ : In 2 0 30) ex22 ex23; have b3 : x32.toInt = bitI z0.toInt 3 := shr_bit h.1 (⟨by decide, by decide⟩ : In 3 0 30) ex31 ex32; have b4 : x41.toInt = bitI z0.toInt 4 := shr_bit h.1 (⟨by decide, by decide⟩ : In 4 0 30) ex40 ex41; have b5 : x50.toInt = bitI z0.toInt 5 := shr_bit h.1 (⟨by decide, by decide⟩ : In 5 0 30) ex49 ex50; have b6 : x59.toInt = bitI z0.toInt 6 := shr_bit h.1 (⟨by decide, by decide⟩ : In 6 0 30) ex58 ex59; have b7 : x68.toInt = bitI z0.toInt 7 := shr_bit h.1 (⟨by decide, by decide⟩ : In 7 0 30) ex67 ex68; have b8 : x77.toInt = bitI z0.toInt 8 := shr_bit h.1 (⟨by decide, by decide⟩ : In 8 0 30) ex76 ex77; have sm := pcS_I h; omega)⟩) dX11_bitsIn_25
                    ·
                      have oc9 : (9 : Int32).toInt = 9 := by decide
                      have oc9 : (9 : Int32).toInt = 9 := by decide
                      have cc84 : (9 : Int32).toInt < (9 : Int32).toInt := i32_nle c82
                      exact In.empty (lo := 9) (hi := 8) (In.lt1 (⟨by decide, by decide⟩ : In 9 9 9) (⟨by decide, by decide⟩ : In 9 9 9) cc84 (by omega) (by omega)) (by decide)

abbrev rm_X11_bytesOf : Room := { frames := 0, cells := 0, slots := 0, locals := 0 }
abbrev po_X11_bytesOf (g : GG) (ad : Nat → Nat) (th : Nat → Int) (L : List Nat) (f : HP) (z0 : Int32) : Int32 → (List Nat × HP) → Prop := fun r u => u.1 = L ∧ u.2 = f ∧ In r 0 4 ∧ r.toInt = nb z0
set_option maxHeartbeats 4000000 in
set_option maxRecDepth 100000 in
theorem s_X11_bytesOf (l : Launch) (g : GG) (ad : Nat → Nat) (th : Nat → Int) (L : List Nat) (f : HP) (sz : Nat) (z0 : Int32) (hst : ST ad L) (hT : TI g ad th f)  : MtI l g yX11_bytesOf cX11_bytesOf 3 (some .int) rm_X11_bytesOf [.int z0] L f sz (po_X11_bytesOf g ad th L f z0) := by
  refine MtI.of (by decide +kernel) (Nat.le_of_ble_eq_true rfl) ?_
  intro p e s m below meth c A hEn hP hD hS ls hl
  obtain ⟨hx, hb, hr, hml, hown, hlocks, hts, hG, hA, hE, hnm⟩ := hEn
  have hown : s.vm.findClass "RulerWordModel" = some m.cls := hown
  have hl : lv_has ls 3 [(0, .int z0)] := hl
  refine lv_iconst (v := 0) hx hb dX11_bytesOf_0 (by decide) ?_
  refine lv_istore_n (lv' := [(1, .int 0), (0, .int z0)]) hx hb dX11_bytesOf_1 rfl hl (by decide) rfl (fun ls hl => ?_)
  refine lv_iconst (v := 0) hx hb dX11_bytesOf_2 (by decide) ?_
  refine lv_istore_n (lv' := [(2, .int 0), (1, .int 0), (0, .int z0)]) hx hb dX11_bytesOf_3 rfl hl (by decide) rfl (fun ls hl => ?_)
  refine lv_iload_n hx hb dX11_bytesOf_4 rfl (lv_at hl 0 rfl) ?_
  refine lv_iconst (v := 4) hx hb dX11_bytesOf_5 (by decide) ?_
  refine lv_icmp_ge (tgt := 36) hx hb dX11_bytesOf_6 (by decide) (fun c1 => ?_) (fun c1 => ?_)
  ·
    have cc2 : (4 : Int32).toInt ≤ (0 : Int32).toInt := i32_le.mp c1
    exact In.empty (lo := 4) (hi := 0) (In.ge1 (⟨by decide, by decide⟩ : In 0 0 0) (⟨by decide, by decide⟩ : In 4 4 4) cc2 (by omega) (by omega)) (by decide)
  ·
    refine lv_iload_n hx hb dX11_bytesOf_9 rfl (lv_at hl 1 rfl) ?_
    refine lv_iload_n hx hb dX11_bytesOf_10 rfl (lv_at hl 2 rfl) ?_
    refine lv_bipush (v := 8) hx hb dX11_bytesOf_11 (by decide) ?_
    refine lv_iload_n hx hb dX11_bytesOf_13 rfl (lv_at hl 0 rfl) ?_
    refine lv_imul hx hb dX11_bytesOf_14 ?_
    refine lv_topi (fun x3 ex3 => ?_)
    obtain rfl : x3 = 0 := ex3.trans (by decide)
    refine lv_ishr hx hb dX11_bytesOf_15 ?_
    refine lv_topi (fun x4 ex4 => ?_)
    refine lv_sipush (v := 255) hx hb dX11_bytesOf_16 (by decide) ?_
    refine lv_iand hx hb dX11_bytesOf_19 ?_
    refine lv_topi (fun x5 ex5 => ?_)
    have hb6 : In x5 0 255 := ex5 ▸ In.andr (⟨by decide, by decide⟩ : In 255 255 255) (by decide)
    refine lv_if_ne (tgt := 27) hx hb dX11_bytesOf_20 (by decide) (fun c7 => ?_) (fun c7 => ?_)
    ·
      have cc8 : x5.toInt ≠ (0 : Int32).toInt := i32_ne c7
      have hb9 : In x5 1 255 := In.ne1 hb6 (⟨by decide, by decide⟩ : In 0 0 0) cc8 (by omega) (by omega)
      refine lv_iconst (v := 1) hx hb dX11_bytesOf_27 (by decide) ?_
      refine lv_iadd hx hb dX11_bytesOf_28 ?_
      refine lv_topi (fun x10 ex10 => ?_)
      obtain rfl : x10 = 1 := ex10.trans (by decide)
      refine lv_istore_n (lv' := [(1, .int 1), (2, .int 0), (0, .int z0)]) hx hb dX11_bytesOf_29 rfl hl (by decide) rfl (fun ls hl => ?_)
      refine lv_iinc (v := 1) (lv' := [(2, .int 1), (1, .int 1), (0, .int z0)]) hx hb dX11_bytesOf_30 hl (k := 1) rfl (by decide) (by decide) rfl (fun ls hl => ?_)
      refine lv_goto (tgt := 4) hx hb dX11_bytesOf_33 (by decide) ?_
      refine lv_iload_n hx hb dX11_bytesOf_4 rfl (lv_at hl 0 rfl) ?_
      refine lv_iconst (v := 4) hx hb dX11_bytesOf_5 (by decide) ?_
      refine lv_icmp_ge (tgt := 36) hx hb dX11_bytesOf_6 (by decide) (fun c11 => ?_) (fun c11 => ?_)
      ·
        have cc12 : (4 : Int32).toInt ≤ (1 : Int32).toInt := i32_le.mp c11
        exact In.empty (lo := 4) (hi := 1) (In.ge1 (⟨by decide, by decide⟩ : In 1 1 1) (⟨by decide, by decide⟩ : In 4 4 4) cc12 (by omega) (by omega)) (by decide)
      ·
        refine lv_iload_n hx hb dX11_bytesOf_9 rfl (lv_at hl 1 rfl) ?_
        refine lv_iload_n hx hb dX11_bytesOf_10 rfl (lv_at hl 2 rfl) ?_
        refine lv_bipush (v := 8) hx hb dX11_bytesOf_11 (by decide) ?_
        refine lv_iload_n hx hb dX11_bytesOf_13 rfl (lv_at hl 0 rfl) ?_
        refine lv_imul hx hb dX11_bytesOf_14 ?_
        refine lv_topi (fun x13 ex13 => ?_)
        obtain rfl : x13 = 8 := ex13.trans (by decide)
        refine lv_ishr hx hb dX11_bytesOf_15 ?_
        refine lv_topi (fun x14 ex14 => ?_)
        refine lv_sipush (v := 255) hx hb dX11_bytesOf_16 (by decide) ?_
        refine lv_iand hx hb dX11_bytesOf_19 ?_
        refine lv_topi (fun x15 ex15 => ?_)
        have hb16 : In x15 0 255 := ex15 ▸ In.andr (⟨by decide, by decide⟩ : In 255 255 255) (by decide)
        refine lv_if_ne (tgt := 27) hx hb dX11_bytesOf_20 (by decide) (fun c17 => ?_) (fun c17 => ?_)
        ·
          have cc18 : x15.toInt ≠ (0 : Int32).toInt := i32_ne c17
          have hb19 : In x15 1 255 := In.ne1 hb16 (⟨by decide, by decide⟩ : In 0 0 0) cc18 (by omega) (by omega)
          refine lv_iconst (v := 1) hx hb dX11_bytesOf_27 (by decide) ?_
          refine lv_iadd hx hb dX11_bytesOf_28 ?_
          refine lv_topi (fun x20 ex20 => ?_)
          obtain rfl : x20 = 2 := ex20.trans (by decide)
          refine lv_istore_n (lv' := [(1, .int 2), (2, .int 1), (0, .int z0)]) hx hb dX11_bytesOf_29 rfl hl (by decide) rfl (fun ls hl => ?_)
          refine lv_iinc (v := 2) (lv' := [(2, .int 2), (1, .int 2), (0, .int z0)]) hx hb dX11_bytesOf_30 hl (k := 1) rfl (by decide) (by decide) rfl (fun ls hl => ?_)
          refine lv_goto (tgt := 4) hx hb dX11_bytesOf_33 (by decide) ?_
          refine lv_iload_n hx hb dX11_bytesOf_4 rfl (lv_at hl 0 rfl) ?_
          refine lv_iconst (v := 4) hx hb dX11_bytesOf_5 (by decide) ?_
          refine lv_icmp_ge (tgt := 36) hx hb dX11_bytesOf_6 (by decide) (fun c21 => ?_) (fun c21 => ?_)
          ·
            have cc22 : (4 : Int32).toInt ≤ (2 : Int32).toInt := i32_le.mp c21
            exact In.empty (lo := 4) (hi := 2) (In.ge1 (⟨by decide, by decide⟩ : In 2 2 2) (⟨by decide, by decide⟩ : In 4 4 4) cc22 (by omega) (by omega)) (by decide)
          ·
            refine lv_iload_n hx hb dX11_bytesOf_9 rfl (lv_at hl 1 rfl) ?_
            refine lv_iload_n hx hb dX11_bytesOf_10 rfl (lv_at hl 2 rfl) ?_
            refine lv_bipush (v := 8) hx hb dX11_bytesOf_11 (by decide) ?_
            refine lv_iload_n hx hb dX11_bytesOf_13 rfl (lv_at hl 0 rfl) ?_
            refine lv_imul hx hb dX11_bytesOf_14 ?_
            refine lv_topi (fun x23 ex23 => ?_)
            obtain rfl : x23 = 16 := ex23.trans (by decide)
            refine lv_ishr hx hb dX11_bytesOf_15 ?_
            refine lv_topi (fun x24 ex24 => ?_)
            refine lv_sipush (v := 255) hx hb dX11_bytesOf_16 (by decide) ?_
            refine lv_iand hx hb dX11_bytesOf_19 ?_
            refine lv_topi (fun x25 ex25 => ?_)
            have hb26 : In x25 0 255 := ex25 ▸ In.andr (⟨by decide, by decide⟩ : In 255 255 255) (by decide)
            refine lv_if_ne (tgt := 27) hx hb dX11_bytesOf_20 (by decide) (fun c27 => ?_) (fun c27 => ?_)
            ·
              have cc28 : x25.toInt ≠ (0 : Int32).toInt := i32_ne c27
              have hb29 : In x25 1 255 := In.ne1 hb26 (⟨by decide, by decide⟩ : In 0 0 0) cc28 (by omega) (by omega)
              refine lv_iconst (v := 1) hx hb dX11_bytesOf_27 (by decide) ?_
              refine lv_iadd hx hb dX11_bytesOf_28 ?_
              refine lv_topi (fun x30 ex30 => ?_)
              obtain rfl : x30 = 3 := ex30.trans (by decide)
              refine lv_istore_n (lv' := [(1, .int 3), (2, .int 2), (0, .int z0)]) hx hb dX11_bytesOf_29 rfl hl (by decide) rfl (fun ls hl => ?_)
              refine lv_iinc (v := 3) (lv' := [(2, .int 3), (1, .int 3), (0, .int z0)]) hx hb dX11_bytesOf_30 hl (k := 1) rfl (by decide) (by decide) rfl (fun ls hl => ?_)
              refine lv_goto (tgt := 4) hx hb dX11_bytesOf_33 (by decide) ?_
              refine lv_iload_n hx hb dX11_bytesOf_4 rfl (lv_at hl 0 rfl) ?_
              refine lv_iconst (v := 4) hx hb dX11_bytesOf_5 (by decide) ?_
              refine lv_icmp_ge (tgt := 36) hx hb dX11_bytesOf_6 (by decide) (fun c31 => ?_) (fun c31 => ?_)
              ·
                have cc32 : (4 : Int32).toInt ≤ (3 : Int32).toInt := i32_le.mp c31
                exact In.empty (lo := 4) (hi := 3) (In.ge1 (⟨by decide, by decide⟩ : In 3 3 3) (⟨by decide, by decide⟩ : In 4 4 4) cc32 (by omega) (by omega)) (by decide)
              ·
                refine lv_iload_n hx hb dX11_bytesOf_9 rfl (lv_at hl 1 rfl) ?_
                refine lv_iload_n hx hb dX11_bytesOf_10 rfl (lv_at hl 2 rfl) ?_
                refine lv_bipush (v := 8) hx hb dX11_bytesOf_11 (by decide) ?_
                refine lv_iload_n hx hb dX11_bytesOf_13 rfl (lv_at hl 0 rfl) ?_
                refine lv_imul hx hb dX11_bytesOf_14 ?_
                refine lv_topi (fun x33 ex33 => ?_)
                obtain rfl : x33 = 24 := ex33.trans (by decide)
                refine lv_ishr hx hb dX11_bytesOf_15 ?_
                refine lv_topi (fun x34 ex34 => ?_)
                refine lv_sipush (v := 255) hx hb dX11_bytesOf_16 (by decide) ?_
                refine lv_iand hx hb dX11_bytesOf_19 ?_
                refine lv_topi (fun x35 ex35 => ?_)
                have hb36 : In x35 0 255 := ex35 ▸ In.andr (⟨by decide, by decide⟩ : In 255 255 255) (by decide)
                refine lv_if_ne (tgt := 27) hx hb dX11_bytesOf_20 (by decide) (fun c37 => ?_) (fun c37 => ?_)
                ·
                  have cc38 : x35.toInt ≠ (0 : Int32).toInt := i32_ne c37
                  have hb39 : In x35 1 255 := In.ne1 hb36 (⟨by decide, by decide⟩ : In 0 0 0) cc38 (by omega) (by omega)
                  refine lv_iconst (v := 1) hx hb dX11_bytesOf_27 (by decide) ?_
                  refine lv_iadd hx hb dX11_bytesOf_28 ?_
                  refine lv_topi (fun x40 ex40 => ?_)
                  obtain rfl : x40 = 4 := ex40.trans (by decide)
                  refine lv_istore_n (lv' := [(1, .int 4), (2, .int 3), (0, .int z0)]) hx hb dX11_bytesOf_29 rfl hl (by decide) rfl (fun ls hl => ?_)
                  refine lv_iinc (v := 4) (lv' := [(2, .int 4), (1, .int 4), (0, .int z0)]) hx hb dX11_bytesOf_30 hl (k := 1) rfl (by decide) (by decide) rfl (fun ls hl => ?_)
                  refine lv_goto (tgt := 4) hx hb dX11_bytesOf_33 (by decide) ?_
                  refine lv_iload_n hx hb dX11_bytesOf_4 rfl (lv_at hl 0 rfl) ?_
                  refine lv_iconst (v := 4) hx hb dX11_bytesOf_5 (by decide) ?_
                  refine lv_icmp_ge (tgt := 36) hx hb dX11_bytesOf_6 (by decide) (fun c41 => ?_) (fun c41 => ?_)
                  ·
                    refine lv_iload_n hx hb dX11_bytesOf_36 rfl (lv_at hl 1 rfl) ?_
                    have hby42 : b1 z0 0 = 1 := b1_1 (by rw [show byS z0 0 = x5 by rw [ex5, ex4]; rfl]; exact c7)
                    have hby43 : b1 z0 8 = 1 := b1_1 (by rw [show byS z0 8 = x15 by rw [ex15, ex14]; rfl]; exact c17)
                    have hby44 : b1 z0 16 = 1 := b1_1 (by rw [show byS z0 16 = x25 by rw [ex25, ex24]; rfl]; exact c27)
                    have hby45 : b1 z0 24 = 1 := b1_1 (by rw [show byS z0 24 = x35 by rw [ex35, ex34]; rfl]; exact c37)
                    exact ret_i (ty := .int) hx hb hr hlocks (rfl) hP hD hS (Nat.le_of_ble_eq_true rfl) (Nat.le_of_ble_eq_true rfl) (⟨rfl, rfl, (⟨by decide, by decide⟩ : In 4 0 4), (by have e0 : (4 : Int32).toInt = 4 := (by decide); unfold nb; omega)⟩) dX11_bytesOf_37
                  ·
                    have cc46 : (4 : Int32).toInt < (4 : Int32).toInt := i32_nle c41
                    exact In.empty (lo := 4) (hi := 3) (In.lt1 (⟨by decide, by decide⟩ : In 4 4 4) (⟨by decide, by decide⟩ : In 4 4 4) cc46 (by omega) (by omega)) (by decide)
                ·
                  have cc47 : x35.toInt = (0 : Int32).toInt := congrArg Int32.toInt c37
                  have hb48 : In x35 0 0 := In.eq1 hb36 (⟨by decide, by decide⟩ : In 0 0 0) cc47 (by omega) (by omega)
                  refine lv_iconst (v := 0) hx hb dX11_bytesOf_23 (by decide) ?_
                  refine lv_goto (tgt := 28) hx hb dX11_bytesOf_24 (by decide) ?_
                  refine lv_iadd hx hb dX11_bytesOf_28 ?_
                  refine lv_topi (fun x49 ex49 => ?_)
                  obtain rfl : x49 = 3 := ex49.trans (by decide)
                  refine lv_istore_n (lv' := [(1, .int 3), (2, .int 3), (0, .int z0)]) hx hb dX11_bytesOf_29 rfl hl (by decide) rfl (fun ls hl => ?_)
                  refine lv_iinc (v := 4) (lv' := [(2, .int 4), (1, .int 3), (0, .int z0)]) hx hb dX11_bytesOf_30 hl (k := 1) rfl (by decide) (by decide) rfl (fun ls hl => ?_)
                  refine lv_goto (tgt := 4) hx hb dX11_bytesOf_33 (by decide) ?_
                  refine lv_iload_n hx hb dX11_bytesOf_4 rfl (lv_at hl 0 rfl) ?_
                  refine lv_iconst (v := 4) hx hb dX11_bytesOf_5 (by decide) ?_
                  refine lv_icmp_ge (tgt := 36) hx hb dX11_bytesOf_6 (by decide) (fun c50 => ?_) (fun c50 => ?_)
                  ·
                    refine lv_iload_n hx hb dX11_bytesOf_36 rfl (lv_at hl 1 rfl) ?_
                    have hby51 : b1 z0 0 = 1 := b1_1 (by rw [show byS z0 0 = x5 by rw [ex5, ex4]; rfl]; exact c7)
                    have hby52 : b1 z0 8 = 1 := b1_1 (by rw [show byS z0 8 = x15 by rw [ex15, ex14]; rfl]; exact c17)
                    have hby53 : b1 z0 16 = 1 := b1_1 (by rw [show byS z0 16 = x25 by rw [ex25, ex24]; rfl]; exact c27)
                    have hby54 : b1 z0 24 = 0 := b1_0 (by rw [show byS z0 24 = x35 by rw [ex35, ex34]; rfl]; exact c37)
                    exact ret_i (ty := .int) hx hb hr hlocks (rfl) hP hD hS (Nat.le_of_ble_eq_true rfl) (Nat.le_of_ble_eq_true rfl) (⟨rfl, rfl, (⟨by decide, by decide⟩ : In 3 0 4), (by have e0 : (3 : Int32).toInt = 3 := (by decide); unfold nb; omega)⟩) dX11_bytesOf_37
                  ·
                    have cc55 : (4 : Int32).toInt < (4 : Int32).toInt := i32_nle c50
                    exact In.empty (lo := 4) (hi := 3) (In.lt1 (⟨by decide, by decide⟩ : In 4 4 4) (⟨by decide, by decide⟩ : In 4 4 4) cc55 (by omega) (by omega)) (by decide)
            ·
              have cc56 : x25.toInt = (0 : Int32).toInt := congrArg Int32.toInt c27
              have hb57 : In x25 0 0 := In.eq1 hb26 (⟨by decide, by decide⟩ : In 0 0 0) cc56 (by omega) (by omega)
              refine lv_iconst (v := 0) hx hb dX11_bytesOf_23 (by decide) ?_
              refine lv_goto (tgt := 28) hx hb dX11_bytesOf_24 (by decide) ?_
              refine lv_iadd hx hb dX11_bytesOf_28 ?_
              refine lv_topi (fun x58 ex58 => ?_)
              obtain rfl : x58 = 2 := ex58.trans (by decide)
              refine lv_istore_n (lv' := [(1, .int 2), (2, .int 2), (0, .int z0)]) hx hb dX11_bytesOf_29 rfl hl (by decide) rfl (fun ls hl => ?_)
              refine lv_iinc (v := 3) (lv' := [(2, .int 3), (1, .int 2), (0, .int z0)]) hx hb dX11_bytesOf_30 hl (k := 1) rfl (by decide) (by decide) rfl (fun ls hl => ?_)
              refine lv_goto (tgt := 4) hx hb dX11_bytesOf_33 (by decide) ?_
              refine lv_iload_n hx hb dX11_bytesOf_4 rfl (lv_at hl 0 rfl) ?_
              refine lv_iconst (v := 4) hx hb dX11_bytesOf_5 (by decide) ?_
              refine lv_icmp_ge (tgt := 36) hx hb dX11_bytesOf_6 (by decide) (fun c59 => ?_) (fun c59 => ?_)
              ·
                have cc60 : (4 : Int32).toInt ≤ (3 : Int32).toInt := i32_le.mp c59
                exact In.empty (lo := 4) (hi := 3) (In.ge1 (⟨by decide, by decide⟩ : In 3 3 3) (⟨by decide, by decide⟩ : In 4 4 4) cc60 (by omega) (by omega)) (by decide)
              ·
                refine lv_iload_n hx hb dX11_bytesOf_9 rfl (lv_at hl 1 rfl) ?_
                refine lv_iload_n hx hb dX11_bytesOf_10 rfl (lv_at hl 2 rfl) ?_
                refine lv_bipush (v := 8) hx hb dX11_bytesOf_11 (by decide) ?_
                refine lv_iload_n hx hb dX11_bytesOf_13 rfl (lv_at hl 0 rfl) ?_
                refine lv_imul hx hb dX11_bytesOf_14 ?_
                refine lv_topi (fun x61 ex61 => ?_)
                obtain rfl : x61 = 24 := ex61.trans (by decide)
                refine lv_ishr hx hb dX11_bytesOf_15 ?_
                refine lv_topi (fun x62 ex62 => ?_)
                refine lv_sipush (v := 255) hx hb dX11_bytesOf_16 (by decide) ?_
                refine lv_iand hx hb dX11_bytesOf_19 ?_
                refine lv_topi (fun x63 ex63 => ?_)
                have hb64 : In x63 0 255 := ex63 ▸ In.andr (⟨by decide, by decide⟩ : In 255 255 255) (by decide)
                refine lv_if_ne (tgt := 27) hx hb dX11_bytesOf_20 (by decide) (fun c65 => ?_) (fun c65 => ?_)
                ·
                  have cc66 : x63.toInt ≠ (0 : Int32).toInt := i32_ne c65
                  have hb67 : In x63 1 255 := In.ne1 hb64 (⟨by decide, by decide⟩ : In 0 0 0) cc66 (by omega) (by omega)
                  refine lv_iconst (v := 1) hx hb dX11_bytesOf_27 (by decide) ?_
                  refine lv_iadd hx hb dX11_bytesOf_28 ?_
                  refine lv_topi (fun x68 ex68 => ?_)
                  obtain rfl : x68 = 3 := ex68.trans (by decide)
                  refine lv_istore_n (lv' := [(1, .int 3), (2, .int 3), (0, .int z0)]) hx hb dX11_bytesOf_29 rfl hl (by decide) rfl (fun ls hl => ?_)
                  refine lv_iinc (v := 4) (lv' := [(2, .int 4), (1, .int 3), (0, .int z0)]) hx hb dX11_bytesOf_30 hl (k := 1) rfl (by decide) (by decide) rfl (fun ls hl => ?_)
                  refine lv_goto (tgt := 4) hx hb dX11_bytesOf_33 (by decide) ?_
                  refine lv_iload_n hx hb dX11_bytesOf_4 rfl (lv_at hl 0 rfl) ?_
                  refine lv_iconst (v := 4) hx hb dX11_bytesOf_5 (by decide) ?_
                  refine lv_icmp_ge (tgt := 36) hx hb dX11_bytesOf_6 (by decide) (fun c69 => ?_) (fun c69 => ?_)
                  ·
                    refine lv_iload_n hx hb dX11_bytesOf_36 rfl (lv_at hl 1 rfl) ?_
                    have hby70 : b1 z0 0 = 1 := b1_1 (by rw [show byS z0 0 = x5 by rw [ex5, ex4]; rfl]; exact c7)
                    have hby71 : b1 z0 8 = 1 := b1_1 (by rw [show byS z0 8 = x15 by rw [ex15, ex14]; rfl]; exact c17)
                    have hby72 : b1 z0 16 = 0 := b1_0 (by rw [show byS z0 16 = x25 by rw [ex25, ex24]; rfl]; exact c27)
                    have hby73 : b1 z0 24 = 1 := b1_1 (by rw [show byS z0 24 = x63 by rw [ex63, ex62]; rfl]; exact c65)
                    exact ret_i (ty := .int) hx hb hr hlocks (rfl) hP hD hS (Nat.le_of_ble_eq_true rfl) (Nat.le_of_ble_eq_true rfl) (⟨rfl, rfl, (⟨by decide, by decide⟩ : In 3 0 4), (by have e0 : (3 : Int32).toInt = 3 := (by decide); unfold nb; omega)⟩) dX11_bytesOf_37
                  ·
                    have cc74 : (4 : Int32).toInt < (4 : Int32).toInt := i32_nle c69
                    exact In.empty (lo := 4) (hi := 3) (In.lt1 (⟨by decide, by decide⟩ : In 4 4 4) (⟨by decide, by decide⟩ : In 4 4 4) cc74 (by omega) (by omega)) (by decide)
                ·
                  have cc75 : x63.toInt = (0 : Int32).toInt := congrArg Int32.toInt c65
                  have hb76 : In x63 0 0 := In.eq1 hb64 (⟨by decide, by decide⟩ : In 0 0 0) cc75 (by omega) (by omega)
                  refine lv_iconst (v := 0) hx hb dX11_bytesOf_23 (by decide) ?_
                  refine lv_goto (tgt := 28) hx hb dX11_bytesOf_24 (by decide) ?_
                  refine lv_iadd hx hb dX11_bytesOf_28 ?_
                  refine lv_topi (fun x77 ex77 => ?_)
                  obtain rfl : x77 = 2 := ex77.trans (by decide)
                  refine lv_istore_n (lv' := [(1, .int 2), (2, .int 3), (0, .int z0)]) hx hb dX11_bytesOf_29 rfl hl (by decide) rfl (fun ls hl => ?_)
                  refine lv_iinc (v := 4) (lv' := [(2, .int 4), (1, .int 2), (0, .int z0)]) hx hb dX11_bytesOf_30 hl (k := 1) rfl (by decide) (by decide) rfl (fun ls hl => ?_)
                  refine lv_goto (tgt := 4) hx hb dX11_bytesOf_33 (by decide) ?_
                  refine lv_iload_n hx hb dX11_bytesOf_4 rfl (lv_at hl 0 rfl) ?_
                  refine lv_iconst (v := 4) hx hb dX11_bytesOf_5 (by decide) ?_
                  refine lv_icmp_ge (tgt := 36) hx hb dX11_bytesOf_6 (by decide) (fun c78 => ?_) (fun c78 => ?_)
                  ·
                    refine lv_iload_n hx hb dX11_bytesOf_36 rfl (lv_at hl 1 rfl) ?_
                    have hby79 : b1 z0 0 = 1 := b1_1 (by rw [show byS z0 0 = x5 by rw [ex5, ex4]; rfl]; exact c7)
                    have hby80 : b1 z0 8 = 1 := b1_1 (by rw [show byS z0 8 = x15 by rw [ex15, ex14]; rfl]; exact c17)
                    have hby81 : b1 z0 16 = 0 := b1_0 (by rw [show byS z0 16 = x25 by rw [ex25, ex24]; rfl]; exact c27)
                    have hby82 : b1 z0 24 = 0 := b1_0 (by rw [show byS z0 24 = x63 by rw [ex63, ex62]; rfl]; exact c65)
                    exact ret_i (ty := .int) hx hb hr hlocks (rfl) hP hD hS (Nat.le_of_ble_eq_true rfl) (Nat.le_of_ble_eq_true rfl) (⟨rfl, rfl, (⟨by decide, by decide⟩ : In 2 0 4), (by have e0 : (2 : Int32).toInt = 2 := (by decide); unfold nb; omega)⟩) dX11_bytesOf_37
                  ·
                    have cc83 : (4 : Int32).toInt < (4 : Int32).toInt := i32_nle c78
                    exact In.empty (lo := 4) (hi := 3) (In.lt1 (⟨by decide, by decide⟩ : In 4 4 4) (⟨by decide, by decide⟩ : In 4 4 4) cc83 (by omega) (by omega)) (by decide)
        ·
          have cc84 : x15.toInt = (0 : Int32).toInt := congrArg Int32.toInt c17
          have hb85 : In x15 0 0 := In.eq1 hb16 (⟨by decide, by decide⟩ : In 0 0 0) cc84 (by omega) (by omega)
          refine lv_iconst (v := 0) hx hb dX11_bytesOf_23 (by decide) ?_
          refine lv_goto (tgt := 28) hx hb dX11_bytesOf_24 (by decide) ?_
          refine lv_iadd hx hb dX11_bytesOf_28 ?_
          refine lv_topi (fun x86 ex86 => ?_)
          obtain rfl : x86 = 1 := ex86.trans (by decide)
          refine lv_istore_n (lv' := [(1, .int 1), (2, .int 1), (0, .int z0)]) hx hb dX11_bytesOf_29 rfl hl (by decide) rfl (fun ls hl => ?_)
          refine lv_iinc (v := 2) (lv' := [(2, .int 2), (1, .int 1), (0, .int z0)]) hx hb dX11_bytesOf_30 hl (k := 1) rfl (by decide) (by decide) rfl (fun ls hl => ?_)
          refine lv_goto (tgt := 4) hx hb dX11_bytesOf_33 (by decide) ?_
          refine lv_iload_n hx hb dX11_bytesOf_4 rfl (lv_at hl 0 rfl) ?_
          refine lv_iconst (v := 4) hx hb dX11_bytesOf_5 (by decide) ?_
          refine lv_icmp_ge (tgt := 36) hx hb dX11_bytesOf_6 (by decide) (fun c87 => ?_) (fun c87 => ?_)
          ·
            have cc88 : (4 : Int32).toInt ≤ (2 : Int32).toInt := i32_le.mp c87
            exact In.empty (lo := 4) (hi := 2) (In.ge1 (⟨by decide, by decide⟩ : In 2 2 2) (⟨by decide, by decide⟩ : In 4 4 4) cc88 (by omega) (by omega)) (by decide)
          ·
            refine lv_iload_n hx hb dX11_bytesOf_9 rfl (lv_at hl 1 rfl) ?_
            refine lv_iload_n hx hb dX11_bytesOf_10 rfl (lv_at hl 2 rfl) ?_
            refine lv_bipush (v := 8) hx hb dX11_bytesOf_11 (by decide) ?_
            refine lv_iload_n hx hb dX11_bytesOf_13 rfl (lv_at hl 0 rfl) ?_
            refine lv_imul hx hb dX11_bytesOf_14 ?_
            refine lv_topi (fun x89 ex89 => ?_)
            obtain rfl : x89 = 16 := ex89.trans (by decide)
            refine lv_ishr hx hb dX11_bytesOf_15 ?_
            refine lv_topi (fun x90 ex90 => ?_)
            refine lv_sipush (v := 255) hx hb dX11_bytesOf_16 (by decide) ?_
            refine lv_iand hx hb dX11_bytesOf_19 ?_
            refine lv_topi (fun x91 ex91 => ?_)
            have hb92 : In x91 0 255 := ex91 ▸ In.andr (⟨by decide, by decide⟩ : In 255 255 255) (by decide)
            refine lv_if_ne (tgt := 27) hx hb dX11_bytesOf_20 (by decide) (fun c93 => ?_) (fun c93 => ?_)
            ·
              have cc94 : x91.toInt ≠ (0 : Int32).toInt := i32_ne c93
              have hb95 : In x91 1 255 := In.ne1 hb92 (⟨by decide, by decide⟩ : In 0 0 0) cc94 (by omega) (by omega)
              refine lv_iconst (v := 1) hx hb dX11_bytesOf_27 (by decide) ?_
              refine lv_iadd hx hb dX11_bytesOf_28 ?_
              refine lv_topi (fun x96 ex96 => ?_)
              obtain rfl : x96 = 2 := ex96.trans (by decide)
              refine lv_istore_n (lv' := [(1, .int 2), (2, .int 2), (0, .int z0)]) hx hb dX11_bytesOf_29 rfl hl (by decide) rfl (fun ls hl => ?_)
              refine lv_iinc (v := 3) (lv' := [(2, .int 3), (1, .int 2), (0, .int z0)]) hx hb dX11_bytesOf_30 hl (k := 1) rfl (by decide) (by decide) rfl (fun ls hl => ?_)
              refine lv_goto (tgt := 4) hx hb dX11_bytesOf_33 (by decide) ?_
              refine lv_iload_n hx hb dX11_bytesOf_4 rfl (lv_at hl 0 rfl) ?_
              refine lv_iconst (v := 4) hx hb dX11_bytesOf_5 (by decide) ?_
              refine lv_icmp_ge (tgt := 36) hx hb dX11_bytesOf_6 (by decide) (fun c97 => ?_) (fun c97 => ?_)
              ·
                have cc98 : (4 : Int32).toInt ≤ (3 : Int32).toInt := i32_le.mp c97
                exact In.empty (lo := 4) (hi := 3) (In.ge1 (⟨by decide, by decide⟩ : In 3 3 3) (⟨by decide, by decide⟩ : In 4 4 4) cc98 (by omega) (by omega)) (by decide)
              ·
                refine lv_iload_n hx hb dX11_bytesOf_9 rfl (lv_at hl 1 rfl) ?_
                refine lv_iload_n hx hb dX11_bytesOf_10 rfl (lv_at hl 2 rfl) ?_
                refine lv_bipush (v := 8) hx hb dX11_bytesOf_11 (by decide) ?_
                refine lv_iload_n hx hb dX11_bytesOf_13 rfl (lv_at hl 0 rfl) ?_
                refine lv_imul hx hb dX11_bytesOf_14 ?_
                refine lv_topi (fun x99 ex99 => ?_)
                obtain rfl : x99 = 24 := ex99.trans (by decide)
                refine lv_ishr hx hb dX11_bytesOf_15 ?_
                refine lv_topi (fun x100 ex100 => ?_)
                refine lv_sipush (v := 255) hx hb dX11_bytesOf_16 (by decide) ?_
                refine lv_iand hx hb dX11_bytesOf_19 ?_
                refine lv_topi (fun x101 ex101 => ?_)
                have hb102 : In x101 0 255 := ex101 ▸ In.andr (⟨by decide, by decide⟩ : In 255 255 255) (by decide)
                refine lv_if_ne (tgt := 27) hx hb dX11_bytesOf_20 (by decide) (fun c103 => ?_) (fun c103 => ?_)
                ·
                  have cc104 : x101.toInt ≠ (0 : Int32).toInt := i32_ne c103
                  have hb105 : In x101 1 255 := In.ne1 hb102 (⟨by decide, by decide⟩ : In 0 0 0) cc104 (by omega) (by omega)
                  refine lv_iconst (v := 1) hx hb dX11_bytesOf_27 (by decide) ?_
                  refine lv_iadd hx hb dX11_bytesOf_28 ?_
                  refine lv_topi (fun x106 ex106 => ?_)
                  obtain rfl : x106 = 3 := ex106.trans (by decide)
                  refine lv_istore_n (lv' := [(1, .int 3), (2, .int 3), (0, .int z0)]) hx hb dX11_bytesOf_29 rfl hl (by decide) rfl (fun ls hl => ?_)
                  refine lv_iinc (v := 4) (lv' := [(2, .int 4), (1, .int 3), (0, .int z0)]) hx hb dX11_bytesOf_30 hl (k := 1) rfl (by decide) (by decide) rfl (fun ls hl => ?_)
                  refine lv_goto (tgt := 4) hx hb dX11_bytesOf_33 (by decide) ?_
                  refine lv_iload_n hx hb dX11_bytesOf_4 rfl (lv_at hl 0 rfl) ?_
                  refine lv_iconst (v := 4) hx hb dX11_bytesOf_5 (by decide) ?_
                  refine lv_icmp_ge (tgt := 36) hx hb dX11_bytesOf_6 (by decide) (fun c107 => ?_) (fun c107 => ?_)
                  ·
                    refine lv_iload_n hx hb dX11_bytesOf_36 rfl (lv_at hl 1 rfl) ?_
                    have hby108 : b1 z0 0 = 1 := b1_1 (by rw [show byS z0 0 = x5 by rw [ex5, ex4]; rfl]; exact c7)
                    have hby109 : b1 z0 8 = 0 := b1_0 (by rw [show byS z0 8 = x15 by rw [ex15, ex14]; rfl]; exact c17)
                    have hby110 : b1 z0 16 = 1 := b1_1 (by rw [show byS z0 16 = x91 by rw [ex91, ex90]; rfl]; exact c93)
                    have hby111 : b1 z0 24 = 1 := b1_1 (by rw [show byS z0 24 = x101 by rw [ex101, ex100]; rfl]; exact c103)
                    exact ret_i (ty := .int) hx hb hr hlocks (rfl) hP hD hS (Nat.le_of_ble_eq_true rfl) (Nat.le_of_ble_eq_true rfl) (⟨rfl, rfl, (⟨by decide, by decide⟩ : In 3 0 4), (by have e0 : (3 : Int32).toInt = 3 := (by decide); unfold nb; omega)⟩) dX11_bytesOf_37
                  ·
                    have cc112 : (4 : Int32).toInt < (4 : Int32).toInt := i32_nle c107
                    exact In.empty (lo := 4) (hi := 3) (In.lt1 (⟨by decide, by decide⟩ : In 4 4 4) (⟨by decide, by decide⟩ : In 4 4 4) cc112 (by omega) (by omega)) (by decide)
                ·
                  have cc113 : x101.toInt = (0 : Int32).toInt := congrArg Int32.toInt c103
                  have hb114 : In x101 0 0 := In.eq1 hb102 (⟨by decide, by decide⟩ : In 0 0 0) cc113 (by omega) (by omega)
                  refine lv_iconst (v := 0) hx hb dX11_bytesOf_23 (by decide) ?_
                  refine lv_goto (tgt := 28) hx hb dX11_bytesOf_24 (by decide) ?_
                  refine lv_iadd hx hb dX11_bytesOf_28 ?_
                  refine lv_topi (fun x115 ex115 => ?_)
                  obtain rfl : x115 = 2 := ex115.trans (by decide)
                  refine lv_istore_n (lv' := [(1, .int 2), (2, .int 3), (0, .int z0)]) hx hb dX11_bytesOf_29 rfl hl (by decide) rfl (fun ls hl => ?_)
                  refine lv_iinc (v := 4) (lv' := [(2, .int 4), (1, .int 2), (0, .int z0)]) hx hb dX11_bytesOf_30 hl (k := 1) rfl (by decide) (by decide) rfl (fun ls hl => ?_)
                  refine lv_goto (tgt := 4) hx hb dX11_bytesOf_33 (by decide) ?_
                  refine lv_iload_n hx hb dX11_bytesOf_4 rfl (lv_at hl 0 rfl) ?_
                  refine lv_iconst (v := 4) hx hb dX11_bytesOf_5 (by decide) ?_
                  refine lv_icmp_ge (tgt := 36) hx hb dX11_bytesOf_6 (by decide) (fun c116 => ?_) (fun c116 => ?_)
                  ·
                    refine lv_iload_n hx hb dX11_bytesOf_36 rfl (lv_at hl 1 rfl) ?_
                    have hby117 : b1 z0 0 = 1 := b1_1 (by rw [show byS z0 0 = x5 by rw [ex5, ex4]; rfl]; exact c7)
                    have hby118 : b1 z0 8 = 0 := b1_0 (by rw [show byS z0 8 = x15 by rw [ex15, ex14]; rfl]; exact c17)
                    have hby119 : b1 z0 16 = 1 := b1_1 (by rw [show byS z0 16 = x91 by rw [ex91, ex90]; rfl]; exact c93)
                    have hby120 : b1 z0 24 = 0 := b1_0 (by rw [show byS z0 24 = x101 by rw [ex101, ex100]; rfl]; exact c103)
                    exact ret_i (ty := .int) hx hb hr hlocks (rfl) hP hD hS (Nat.le_of_ble_eq_true rfl) (Nat.le_of_ble_eq_true rfl) (⟨rfl, rfl, (⟨by decide, by decide⟩ : In 2 0 4), (by have e0 : (2 : Int32).toInt = 2 := (by decide); unfold nb; omega)⟩) dX11_bytesOf_37
                  ·
                    have cc121 : (4 : Int32).toInt < (4 : Int32).toInt := i32_nle c116
                    exact In.empty (lo := 4) (hi := 3) (In.lt1 (⟨by decide, by decide⟩ : In 4 4 4) (⟨by decide, by decide⟩ : In 4 4 4) cc121 (by omega) (by omega)) (by decide)
            ·
              have cc122 : x91.toInt = (0 : Int32).toInt := congrArg Int32.toInt c93
              have hb123 : In x91 0 0 := In.eq1 hb92 (⟨by decide, by decide⟩ : In 0 0 0) cc122 (by omega) (by omega)
              refine lv_iconst (v := 0) hx hb dX11_bytesOf_23 (by decide) ?_
              refine lv_goto (tgt := 28) hx hb dX11_bytesOf_24 (by decide) ?_
              refine lv_iadd hx hb dX11_bytesOf_28 ?_
              refine lv_topi (fun x124 ex124 => ?_)
              obtain rfl : x124 = 1 := ex124.trans (by decide)
              refine lv_istore_n (lv' := [(1, .int 1), (2, .int 2), (0, .int z0)]) hx hb dX11_bytesOf_29 rfl hl (by decide) rfl (fun ls hl => ?_)
              refine lv_iinc (v := 3) (lv' := [(2, .int 3), (1, .int 1), (0, .int z0)]) hx hb dX11_bytesOf_30 hl (k := 1) rfl (by decide) (by decide) rfl (fun ls hl => ?_)
              refine lv_goto (tgt := 4) hx hb dX11_bytesOf_33 (by decide) ?_
              refine lv_iload_n hx hb dX11_bytesOf_4 rfl (lv_at hl 0 rfl) ?_
              refine lv_iconst (v := 4) hx hb dX11_bytesOf_5 (by decide) ?_
              refine lv_icmp_ge (tgt := 36) hx hb dX11_bytesOf_6 (by decide) (fun c125 => ?_) (fun c125 => ?_)
              ·
                have cc126 : (4 : Int32).toInt ≤ (3 : Int32).toInt := i32_le.mp c125
                exact In.empty (lo := 4) (hi := 3) (In.ge1 (⟨by decide, by decide⟩ : In 3 3 3) (⟨by decide, by decide⟩ : In 4 4 4) cc126 (by omega) (by omega)) (by decide)
              ·
                refine lv_iload_n hx hb dX11_bytesOf_9 rfl (lv_at hl 1 rfl) ?_
                refine lv_iload_n hx hb dX11_bytesOf_10 rfl (lv_at hl 2 rfl) ?_
                refine lv_bipush (v := 8) hx hb dX11_bytesOf_11 (by decide) ?_
                refine lv_iload_n hx hb dX11_bytesOf_13 rfl (lv_at hl 0 rfl) ?_
                refine lv_imul hx hb dX11_bytesOf_14 ?_
                refine lv_topi (fun x127 ex127 => ?_)
                obtain rfl : x127 = 24 := ex127.trans (by decide)
                refine lv_ishr hx hb dX11_bytesOf_15 ?_
                refine lv_topi (fun x128 ex128 => ?_)
                refine lv_sipush (v := 255) hx hb dX11_bytesOf_16 (by decide) ?_
                refine lv_iand hx hb dX11_bytesOf_19 ?_
                refine lv_topi (fun x129 ex129 => ?_)
                have hb130 : In x129 0 255 := ex129 ▸ In.andr (⟨by decide, by decide⟩ : In 255 255 255) (by decide)
                refine lv_if_ne (tgt := 27) hx hb dX11_bytesOf_20 (by decide) (fun c131 => ?_) (fun c131 => ?_)
                ·
                  have cc132 : x129.toInt ≠ (0 : Int32).toInt := i32_ne c131
                  have hb133 : In x129 1 255 := In.ne1 hb130 (⟨by decide, by decide⟩ : In 0 0 0) cc132 (by omega) (by omega)
                  refine lv_iconst (v := 1) hx hb dX11_bytesOf_27 (by decide) ?_
                  refine lv_iadd hx hb dX11_bytesOf_28 ?_
                  refine lv_topi (fun x134 ex134 => ?_)
                  obtain rfl : x134 = 2 := ex134.trans (by decide)
                  refine lv_istore_n (lv' := [(1, .int 2), (2, .int 3), (0, .int z0)]) hx hb dX11_bytesOf_29 rfl hl (by decide) rfl (fun ls hl => ?_)
                  refine lv_iinc (v := 4) (lv' := [(2, .int 4), (1, .int 2), (0, .int z0)]) hx hb dX11_bytesOf_30 hl (k := 1) rfl (by decide) (by decide) rfl (fun ls hl => ?_)
                  refine lv_goto (tgt := 4) hx hb dX11_bytesOf_33 (by decide) ?_
                  refine lv_iload_n hx hb dX11_bytesOf_4 rfl (lv_at hl 0 rfl) ?_
                  refine lv_iconst (v := 4) hx hb dX11_bytesOf_5 (by decide) ?_
                  refine lv_icmp_ge (tgt := 36) hx hb dX11_bytesOf_6 (by decide) (fun c135 => ?_) (fun c135 => ?_)
                  ·
                    refine lv_iload_n hx hb dX11_bytesOf_36 rfl (lv_at hl 1 rfl) ?_
                    have hby136 : b1 z0 0 = 1 := b1_1 (by rw [show byS z0 0 = x5 by rw [ex5, ex4]; rfl]; exact c7)
                    have hby137 : b1 z0 8 = 0 := b1_0 (by rw [show byS z0 8 = x15 by rw [ex15, ex14]; rfl]; exact c17)
                    have hby138 : b1 z0 16 = 0 := b1_0 (by rw [show byS z0 16 = x91 by rw [ex91, ex90]; rfl]; exact c93)
                    have hby139 : b1 z0 24 = 1 := b1_1 (by rw [show byS z0 24 = x129 by rw [ex129, ex128]; rfl]; exact c131)
                    exact ret_i (ty := .int) hx hb hr hlocks (rfl) hP hD hS (Nat.le_of_ble_eq_true rfl) (Nat.le_of_ble_eq_true rfl) (⟨rfl, rfl, (⟨by decide, by decide⟩ : In 2 0 4), (by have e0 : (2 : Int32).toInt = 2 := (by decide); unfold nb; omega)⟩) dX11_bytesOf_37
                  ·
                    have cc140 : (4 : Int32).toInt < (4 : Int32).toInt := i32_nle c135
                    exact In.empty (lo := 4) (hi := 3) (In.lt1 (⟨by decide, by decide⟩ : In 4 4 4) (⟨by decide, by decide⟩ : In 4 4 4) cc140 (by omega) (by omega)) (by decide)
                ·
                  have cc141 : x129.toInt = (0 : Int32).toInt := congrArg Int32.toInt c131
                  have hb142 : In x129 0 0 := In.eq1 hb130 (⟨by decide, by decide⟩ : In 0 0 0) cc141 (by omega) (by omega)
                  refine lv_iconst (v := 0) hx hb dX11_bytesOf_23 (by decide) ?_
                  refine lv_goto (tgt := 28) hx hb dX11_bytesOf_24 (by decide) ?_
                  refine lv_iadd hx hb dX11_bytesOf_28 ?_
                  refine lv_topi (fun x143 ex143 => ?_)
                  obtain rfl : x143 = 1 := ex143.trans (by decide)
                  refine lv_istore_n (lv' := [(1, .int 1), (2, .int 3), (0, .int z0)]) hx hb dX11_bytesOf_29 rfl hl (by decide) rfl (fun ls hl => ?_)
                  refine lv_iinc (v := 4) (lv' := [(2, .int 4), (1, .int 1), (0, .int z0)]) hx hb dX11_bytesOf_30 hl (k := 1) rfl (by decide) (by decide) rfl (fun ls hl => ?_)
                  refine lv_goto (tgt := 4) hx hb dX11_bytesOf_33 (by decide) ?_
                  refine lv_iload_n hx hb dX11_bytesOf_4 rfl (lv_at hl 0 rfl) ?_
                  refine lv_iconst (v := 4) hx hb dX11_bytesOf_5 (by decide) ?_
                  refine lv_icmp_ge (tgt := 36) hx hb dX11_bytesOf_6 (by decide) (fun c144 => ?_) (fun c144 => ?_)
                  ·
                    refine lv_iload_n hx hb dX11_bytesOf_36 rfl (lv_at hl 1 rfl) ?_
                    have hby145 : b1 z0 0 = 1 := b1_1 (by rw [show byS z0 0 = x5 by rw [ex5, ex4]; rfl]; exact c7)
                    have hby146 : b1 z0 8 = 0 := b1_0 (by rw [show byS z0 8 = x15 by rw [ex15, ex14]; rfl]; exact c17)
                    have hby147 : b1 z0 16 = 0 := b1_0 (by rw [show byS z0 16 = x91 by rw [ex91, ex90]; rfl]; exact c93)
                    have hby148 : b1 z0 24 = 0 := b1_0 (by rw [show byS z0 24 = x129 by rw [ex129, ex128]; rfl]; exact c131)
                    exact ret_i (ty := .int) hx hb hr hlocks (rfl) hP hD hS (Nat.le_of_ble_eq_true rfl) (Nat.le_of_ble_eq_true rfl) (⟨rfl, rfl, (⟨by decide, by decide⟩ : In 1 0 4), (by have e0 : (1 : Int32).toInt = 1 := (by decide); unfold nb; omega)⟩) dX11_bytesOf_37
                  ·
                    have cc149 : (4 : Int32).toInt < (4 : Int32).toInt := i32_nle c144
                    exact In.empty (lo := 4) (hi := 3) (In.lt1 (⟨by decide, by decide⟩ : In 4 4 4) (⟨by decide, by decide⟩ : In 4 4 4) cc149 (by omega) (by omega)) (by decide)
    ·
      have cc150 : x5.toInt = (0 : Int32).toInt := congrArg Int32.toInt c7
      have hb151 : In x5 0 0 := In.eq1 hb6 (⟨by decide, by decide⟩ : In 0 0 0) cc150 (by omega) (by omega)
      refine lv_iconst (v := 0) hx hb dX11_bytesOf_23 (by decide) ?_
      refine lv_goto (tgt := 28) hx hb dX11_bytesOf_24 (by decide) ?_
      refine lv_iadd hx hb dX11_bytesOf_28 ?_
      refine lv_topi (fun x152 ex152 => ?_)
      obtain rfl : x152 = 0 := ex152.trans (by decide)
      refine lv_istore_n (lv' := [(1, .int 0), (2, .int 0), (0, .int z0)]) hx hb dX11_bytesOf_29 rfl hl (by decide) rfl (fun ls hl => ?_)
      refine lv_iinc (v := 1) (lv' := [(2, .int 1), (1, .int 0), (0, .int z0)]) hx hb dX11_bytesOf_30 hl (k := 1) rfl (by decide) (by decide) rfl (fun ls hl => ?_)
      refine lv_goto (tgt := 4) hx hb dX11_bytesOf_33 (by decide) ?_
      refine lv_iload_n hx hb dX11_bytesOf_4 rfl (lv_at hl 0 rfl) ?_
      refine lv_iconst (v := 4) hx hb dX11_bytesOf_5 (by decide) ?_
      refine lv_icmp_ge (tgt := 36) hx hb dX11_bytesOf_6 (by decide) (fun c153 => ?_) (fun c153 => ?_)
      ·
        have cc154 : (4 : Int32).toInt ≤ (1 : Int32).toInt := i32_le.mp c153
        exact In.empty (lo := 4) (hi := 1) (In.ge1 (⟨by decide, by decide⟩ : In 1 1 1) (⟨by decide, by decide⟩ : In 4 4 4) cc154 (by omega) (by omega)) (by decide)
      ·
        refine lv_iload_n hx hb dX11_bytesOf_9 rfl (lv_at hl 1 rfl) ?_
        refine lv_iload_n hx hb dX11_bytesOf_10 rfl (lv_at hl 2 rfl) ?_
        refine lv_bipush (v := 8) hx hb dX11_bytesOf_11 (by decide) ?_
        refine lv_iload_n hx hb dX11_bytesOf_13 rfl (lv_at hl 0 rfl) ?_
        refine lv_imul hx hb dX11_bytesOf_14 ?_
        refine lv_topi (fun x155 ex155 => ?_)
        obtain rfl : x155 = 8 := ex155.trans (by decide)
        refine lv_ishr hx hb dX11_bytesOf_15 ?_
        refine lv_topi (fun x156 ex156 => ?_)
        refine lv_sipush (v := 255) hx hb dX11_bytesOf_16 (by decide) ?_
        refine lv_iand hx hb dX11_bytesOf_19 ?_
        refine lv_topi (fun x157 ex157 => ?_)
        have hb158 : In x157 0 255 := ex157 ▸ In.andr (⟨by decide, by decide⟩ : In 255 255 255) (by decide)
        refine lv_if_ne (tgt := 27) hx hb dX11_bytesOf_20 (by decide) (fun c159 => ?_) (fun c159 => ?_)
        ·
          have cc160 : x157.toInt ≠ (0 : Int32).toInt := i32_ne c159
          have hb161 : In x157 1 255 := In.ne1 hb158 (⟨by decide, by decide⟩ : In 0 0 0) cc160 (by omega) (by omega)
          refine lv_iconst (v := 1) hx hb dX11_bytesOf_27 (by decide) ?_
          refine lv_iadd hx hb dX11_bytesOf_28 ?_
          refine lv_topi (fun x162 ex162 => ?_)
          obtain rfl : x162 = 1 := ex162.trans (by decide)
          refine lv_istore_n (lv' := [(1, .int 1), (2, .int 1), (0, .int z0)]) hx hb dX11_bytesOf_29 rfl hl (by decide) rfl (fun ls hl => ?_)
          refine lv_iinc (v := 2) (lv' := [(2, .int 2), (1, .int 1), (0, .int z0)]) hx hb dX11_bytesOf_30 hl (k := 1) rfl (by decide) (by decide) rfl (fun ls hl => ?_)
          refine lv_goto (tgt := 4) hx hb dX11_bytesOf_33 (by decide) ?_
          refine lv_iload_n hx hb dX11_bytesOf_4 rfl (lv_at hl 0 rfl) ?_
          refine lv_iconst (v := 4) hx hb dX11_bytesOf_5 (by decide) ?_
          refine lv_icmp_ge (tgt := 36) hx hb dX11_bytesOf_6 (by decide) (fun c163 => ?_) (fun c163 => ?_)
          ·
            have cc164 : (4 : Int32).toInt ≤ (2 : Int32).toInt := i32_le.mp c163
            exact In.empty (lo := 4) (hi := 2) (In.ge1 (⟨by decide, by decide⟩ : In 2 2 2) (⟨by decide, by decide⟩ : In 4 4 4) cc164 (by omega) (by omega)) (by decide)
          ·
            refine lv_iload_n hx hb dX11_bytesOf_9 rfl (lv_at hl 1 rfl) ?_
            refine lv_iload_n hx hb dX11_bytesOf_10 rfl (lv_at hl 2 rfl) ?_
            refine lv_bipush (v := 8) hx hb dX11_bytesOf_11 (by decide) ?_
            refine lv_iload_n hx hb dX11_bytesOf_13 rfl (lv_at hl 0 rfl) ?_
            refine lv_imul hx hb dX11_bytesOf_14 ?_
            refine lv_topi (fun x165 ex165 => ?_)
            obtain rfl : x165 = 16 := ex165.trans (by decide)
            refine lv_ishr hx hb dX11_bytesOf_15 ?_
            refine lv_topi (fun x166 ex166 => ?_)
            refine lv_sipush (v := 255) hx hb dX11_bytesOf_16 (by decide) ?_
            refine lv_iand hx hb dX11_bytesOf_19 ?_
            refine lv_topi (fun x167 ex167 => ?_)
            have hb168 : In x167 0 255 := ex167 ▸ In.andr (⟨by decide, by decide⟩ : In 255 255 255) (by decide)
            refine lv_if_ne (tgt := 27) hx hb dX11_bytesOf_20 (by decide) (fun c169 => ?_) (fun c169 => ?_)
            ·
              have cc170 : x167.toInt ≠ (0 : Int32).toInt := i32_ne c169
              have hb171 : In x167 1 255 := In.ne1 hb168 (⟨by decide, by decide⟩ : In 0 0 0) cc170 (by omega) (by omega)
              refine lv_iconst (v := 1) hx hb dX11_bytesOf_27 (by decide) ?_
              refine lv_iadd hx hb dX11_bytesOf_28 ?_
              refine lv_topi (fun x172 ex172 => ?_)
              obtain rfl : x172 = 2 := ex172.trans (by decide)
              refine lv_istore_n (lv' := [(1, .int 2), (2, .int 2), (0, .int z0)]) hx hb dX11_bytesOf_29 rfl hl (by decide) rfl (fun ls hl => ?_)
              refine lv_iinc (v := 3) (lv' := [(2, .int 3), (1, .int 2), (0, .int z0)]) hx hb dX11_bytesOf_30 hl (k := 1) rfl (by decide) (by decide) rfl (fun ls hl => ?_)
              refine lv_goto (tgt := 4) hx hb dX11_bytesOf_33 (by decide) ?_
              refine lv_iload_n hx hb dX11_bytesOf_4 rfl (lv_at hl 0 rfl) ?_
              refine lv_iconst (v := 4) hx hb dX11_bytesOf_5 (by decide) ?_
              refine lv_icmp_ge (tgt := 36) hx hb dX11_bytesOf_6 (by decide) (fun c173 => ?_) (fun c173 => ?_)
              ·
                have cc174 : (4 : Int32).toInt ≤ (3 : Int32).toInt := i32_le.mp c173
                exact In.empty (lo := 4) (hi := 3) (In.ge1 (⟨by decide, by decide⟩ : In 3 3 3) (⟨by decide, by decide⟩ : In 4 4 4) cc174 (by omega) (by omega)) (by decide)
              ·
                refine lv_iload_n hx hb dX11_bytesOf_9 rfl (lv_at hl 1 rfl) ?_
                refine lv_iload_n hx hb dX11_bytesOf_10 rfl (lv_at hl 2 rfl) ?_
                refine lv_bipush (v := 8) hx hb dX11_bytesOf_11 (by decide) ?_
                refine lv_iload_n hx hb dX11_bytesOf_13 rfl (lv_at hl 0 rfl) ?_
                refine lv_imul hx hb dX11_bytesOf_14 ?_
                refine lv_topi (fun x175 ex175 => ?_)
                obtain rfl : x175 = 24 := ex175.trans (by decide)
                refine lv_ishr hx hb dX11_bytesOf_15 ?_
                refine lv_topi (fun x176 ex176 => ?_)
                refine lv_sipush (v := 255) hx hb dX11_bytesOf_16 (by decide) ?_
                refine lv_iand hx hb dX11_bytesOf_19 ?_
                refine lv_topi (fun x177 ex177 => ?_)
                have hb178 : In x177 0 255 := ex177 ▸ In.andr (⟨by decide, by decide⟩ : In 255 255 255) (by decide)
                refine lv_if_ne (tgt := 27) hx hb dX11_bytesOf_20 (by decide) (fun c179 => ?_) (fun c179 => ?_)
                ·
                  have cc180 : x177.toInt ≠ (0 : Int32).toInt := i32_ne c179
                  have hb181 : In x177 1 255 := In.ne1 hb178 (⟨by decide, by decide⟩ : In 0 0 0) cc180 (by omega) (by omega)
                  refine lv_iconst (v := 1) hx hb dX11_bytesOf_27 (by decide) ?_
                  refine lv_iadd hx hb dX11_bytesOf_28 ?_
                  refine lv_topi (fun x182 ex182 => ?_)
                  obtain rfl : x182 = 3 := ex182.trans (by decide)
                  refine lv_istore_n (lv' := [(1, .int 3), (2, .int 3), (0, .int z0)]) hx hb dX11_bytesOf_29 rfl hl (by decide) rfl (fun ls hl => ?_)
                  refine lv_iinc (v := 4) (lv' := [(2, .int 4), (1, .int 3), (0, .int z0)]) hx hb dX11_bytesOf_30 hl (k := 1) rfl (by decide) (by decide) rfl (fun ls hl => ?_)
                  refine lv_goto (tgt := 4) hx hb dX11_bytesOf_33 (by decide) ?_
                  refine lv_iload_n hx hb dX11_bytesOf_4 rfl (lv_at hl 0 rfl) ?_
                  refine lv_iconst (v := 4) hx hb dX11_bytesOf_5 (by decide) ?_
                  refine lv_icmp_ge (tgt := 36) hx hb dX11_bytesOf_6 (by decide) (fun c183 => ?_) (fun c183 => ?_)
                  ·
                    refine lv_iload_n hx hb dX11_bytesOf_36 rfl (lv_at hl 1 rfl) ?_
                    have hby184 : b1 z0 0 = 0 := b1_0 (by rw [show byS z0 0 = x5 by rw [ex5, ex4]; rfl]; exact c7)
                    have hby185 : b1 z0 8 = 1 := b1_1 (by rw [show byS z0 8 = x157 by rw [ex157, ex156]; rfl]; exact c159)
                    have hby186 : b1 z0 16 = 1 := b1_1 (by rw [show byS z0 16 = x167 by rw [ex167, ex166]; rfl]; exact c169)
                    have hby187 : b1 z0 24 = 1 := b1_1 (by rw [show byS z0 24 = x177 by rw [ex177, ex176]; rfl]; exact c179)
                    exact ret_i (ty := .int) hx hb hr hlocks (rfl) hP hD hS (Nat.le_of_ble_eq_true rfl) (Nat.le_of_ble_eq_true rfl) (⟨rfl, rfl, (⟨by decide, by decide⟩ : In 3 0 4), (by have e0 : (3 : Int32).toInt = 3 := (by decide); unfold nb; omega)⟩) dX11_bytesOf_37
                  ·
                    have cc188 : (4 : Int32).toInt < (4 : Int32).toInt := i32_nle c183
                    exact In.empty (lo := 4) (hi := 3) (In.lt1 (⟨by decide, by decide⟩ : In 4 4 4) (⟨by decide, by decide⟩ : In 4 4 4) cc188 (by omega) (by omega)) (by decide)
                ·
                  have cc189 : x177.toInt = (0 : Int32).toInt := congrArg Int32.toInt c179
                  have hb190 : In x177 0 0 := In.eq1 hb178 (⟨by decide, by decide⟩ : In 0 0 0) cc189 (by omega) (by omega)
                  refine lv_iconst (v := 0) hx hb dX11_bytesOf_23 (by decide) ?_
                  refine lv_goto (tgt := 28) hx hb dX11_bytesOf_24 (by decide) ?_
                  refine lv_iadd hx hb dX11_bytesOf_28 ?_
                  refine lv_topi (fun x191 ex191 => ?_)
                  obtain rfl : x191 = 2 := ex191.trans (by decide)
                  refine lv_istore_n (lv' := [(1, .int 2), (2, .int 3), (0, .int z0)]) hx hb dX11_bytesOf_29 rfl hl (by decide) rfl (fun ls hl => ?_)
                  refine lv_iinc (v := 4) (lv' := [(2, .int 4), (1, .int 2), (0, .int z0)]) hx hb dX11_bytesOf_30 hl (k := 1) rfl (by decide) (by decide) rfl (fun ls hl => ?_)
                  refine lv_goto (tgt := 4) hx hb dX11_bytesOf_33 (by decide) ?_
                  refine lv_iload_n hx hb dX11_bytesOf_4 rfl (lv_at hl 0 rfl) ?_
                  refine lv_iconst (v := 4) hx hb dX11_bytesOf_5 (by decide) ?_
                  refine lv_icmp_ge (tgt := 36) hx hb dX11_bytesOf_6 (by decide) (fun c192 => ?_) (fun c192 => ?_)
                  ·
                    refine lv_iload_n hx hb dX11_bytesOf_36 rfl (lv_at hl 1 rfl) ?_
                    have hby193 : b1 z0 0 = 0 := b1_0 (by rw [show byS z0 0 = x5 by rw [ex5, ex4]; rfl]; exact c7)
                    have hby194 : b1 z0 8 = 1 := b1_1 (by rw [show byS z0 8 = x157 by rw [ex157, ex156]; rfl]; exact c159)
                    have hby195 : b1 z0 16 = 1 := b1_1 (by rw [show byS z0 16 = x167 by rw [ex167, ex166]; rfl]; exact c169)
                    have hby196 : b1 z0 24 = 0 := b1_0 (by rw [show byS z0 24 = x177 by rw [ex177, ex176]; rfl]; exact c179)
                    exact ret_i (ty := .int) hx hb hr hlocks (rfl) hP hD hS (Nat.le_of_ble_eq_true rfl) (Nat.le_of_ble_eq_true rfl) (⟨rfl, rfl, (⟨by decide, by decide⟩ : In 2 0 4), (by have e0 : (2 : Int32).toInt = 2 := (by decide); unfold nb; omega)⟩) dX11_bytesOf_37
                  ·
                    have cc197 : (4 : Int32).toInt < (4 : Int32).toInt := i32_nle c192
                    exact In.empty (lo := 4) (hi := 3) (In.lt1 (⟨by decide, by decide⟩ : In 4 4 4) (⟨by decide, by decide⟩ : In 4 4 4) cc197 (by omega) (by omega)) (by decide)
            ·
              have cc198 : x167.toInt = (0 : Int32).toInt := congrArg Int32.toInt c169
              have hb199 : In x167 0 0 := In.eq1 hb168 (⟨by decide, by decide⟩ : In 0 0 0) cc198 (by omega) (by omega)
              refine lv_iconst (v := 0) hx hb dX11_bytesOf_23 (by decide) ?_
              refine lv_goto (tgt := 28) hx hb dX11_bytesOf_24 (by decide) ?_
              refine lv_iadd hx hb dX11_bytesOf_28 ?_
              refine lv_topi (fun x200 ex200 => ?_)
              obtain rfl : x200 = 1 := ex200.trans (by decide)
              refine lv_istore_n (lv' := [(1, .int 1), (2, .int 2), (0, .int z0)]) hx hb dX11_bytesOf_29 rfl hl (by decide) rfl (fun ls hl => ?_)
              refine lv_iinc (v := 3) (lv' := [(2, .int 3), (1, .int 1), (0, .int z0)]) hx hb dX11_bytesOf_30 hl (k := 1) rfl (by decide) (by decide) rfl (fun ls hl => ?_)
              refine lv_goto (tgt := 4) hx hb dX11_bytesOf_33 (by decide) ?_
              refine lv_iload_n hx hb dX11_bytesOf_4 rfl (lv_at hl 0 rfl) ?_
              refine lv_iconst (v := 4) hx hb dX11_bytesOf_5 (by decide) ?_
              refine lv_icmp_ge (tgt := 36) hx hb dX11_bytesOf_6 (by decide) (fun c201 => ?_) (fun c201 => ?_)
              ·
                have cc202 : (4 : Int32).toInt ≤ (3 : Int32).toInt := i32_le.mp c201
                exact In.empty (lo := 4) (hi := 3) (In.ge1 (⟨by decide, by decide⟩ : In 3 3 3) (⟨by decide, by decide⟩ : In 4 4 4) cc202 (by omega) (by omega)) (by decide)
              ·
                refine lv_iload_n hx hb dX11_bytesOf_9 rfl (lv_at hl 1 rfl) ?_
                refine lv_iload_n hx hb dX11_bytesOf_10 rfl (lv_at hl 2 rfl) ?_
                refine lv_bipush (v := 8) hx hb dX11_bytesOf_11 (by decide) ?_
                refine lv_iload_n hx hb dX11_bytesOf_13 rfl (lv_at hl 0 rfl) ?_
                refine lv_imul hx hb dX11_bytesOf_14 ?_
                refine lv_topi (fun x203 ex203 => ?_)
                obtain rfl : x203 = 24 := ex203.trans (by decide)
                refine lv_ishr hx hb dX11_bytesOf_15 ?_
                refine lv_topi (fun x204 ex204 => ?_)
                refine lv_sipush (v := 255) hx hb dX11_bytesOf_16 (by decide) ?_
                refine lv_iand hx hb dX11_bytesOf_19 ?_
                refine lv_topi (fun x205 ex205 => ?_)
                have hb206 : In x205 0 255 := ex205 ▸ In.andr (⟨by decide, by decide⟩ : In 255 255 255) (by decide)
                refine lv_if_ne (tgt := 27) hx hb dX11_bytesOf_20 (by decide) (fun c207 => ?_) (fun c207 => ?_)
                ·
                  have cc208 : x205.toInt ≠ (0 : Int32).toInt := i32_ne c207
                  have hb209 : In x205 1 255 := In.ne1 hb206 (⟨by decide, by decide⟩ : In 0 0 0) cc208 (by omega) (by omega)
                  refine lv_iconst (v := 1) hx hb dX11_bytesOf_27 (by decide) ?_
                  refine lv_iadd hx hb dX11_bytesOf_28 ?_
                  refine lv_topi (fun x210 ex210 => ?_)
                  obtain rfl : x210 = 2 := ex210.trans (by decide)
                  refine lv_istore_n (lv' := [(1, .int 2), (2, .int 3), (0, .int z0)]) hx hb dX11_bytesOf_29 rfl hl (by decide) rfl (fun ls hl => ?_)
                  refine lv_iinc (v := 4) (lv' := [(2, .int 4), (1, .int 2), (0, .int z0)]) hx hb dX11_bytesOf_30 hl (k := 1) rfl (by decide) (by decide) rfl (fun ls hl => ?_)
                  refine lv_goto (tgt := 4) hx hb dX11_bytesOf_33 (by decide) ?_
                  refine lv_iload_n hx hb dX11_bytesOf_4 rfl (lv_at hl 0 rfl) ?_
                  refine lv_iconst (v := 4) hx hb dX11_bytesOf_5 (by decide) ?_
                  refine lv_icmp_ge (tgt := 36) hx hb dX11_bytesOf_6 (by decide) (fun c211 => ?_) (fun c211 => ?_)
                  ·
                    refine lv_iload_n hx hb dX11_bytesOf_36 rfl (lv_at hl 1 rfl) ?_
                    have hby212 : b1 z0 0 = 0 := b1_0 (by rw [show byS z0 0 = x5 by rw [ex5, ex4]; rfl]; exact c7)
                    have hby213 : b1 z0 8 = 1 := b1_1 (by rw [show byS z0 8 = x157 by rw [ex157, ex156]; rfl]; exact c159)
                    have hby214 : b1 z0 16 = 0 := b1_0 (by rw [show byS z0 16 = x167 by rw [ex167, ex166]; rfl]; exact c169)
                    have hby215 : b1 z0 24 = 1 := b1_1 (by rw [show byS z0 24 = x205 by rw [ex205, ex204]; rfl]; exact c207)
                    exact ret_i (ty := .int) hx hb hr hlocks (rfl) hP hD hS (Nat.le_of_ble_eq_true rfl) (Nat.le_of_ble_eq_true rfl) (⟨rfl, rfl, (⟨by decide, by decide⟩ : In 2 0 4), (by have e0 : (2 : Int32).toInt = 2 := (by decide); unfold nb; omega)⟩) dX11_bytesOf_37
                  ·
                    have cc216 : (4 : Int32).toInt < (4 : Int32).toInt := i32_nle c211
                    exact In.empty (lo := 4) (hi := 3) (In.lt1 (⟨by decide, by decide⟩ : In 4 4 4) (⟨by decide, by decide⟩ : In 4 4 4) cc216 (by omega) (by omega)) (by decide)
                ·
                  have cc217 : x205.toInt = (0 : Int32).toInt := congrArg Int32.toInt c207
                  have hb218 : In x205 0 0 := In.eq1 hb206 (⟨by decide, by decide⟩ : In 0 0 0) cc217 (by omega) (by omega)
                  refine lv_iconst (v := 0) hx hb dX11_bytesOf_23 (by decide) ?_
                  refine lv_goto (tgt := 28) hx hb dX11_bytesOf_24 (by decide) ?_
                  refine lv_iadd hx hb dX11_bytesOf_28 ?_
                  refine lv_topi (fun x219 ex219 => ?_)
                  obtain rfl : x219 = 1 := ex219.trans (by decide)
                  refine lv_istore_n (lv' := [(1, .int 1), (2, .int 3), (0, .int z0)]) hx hb dX11_bytesOf_29 rfl hl (by decide) rfl (fun ls hl => ?_)
                  refine lv_iinc (v := 4) (lv' := [(2, .int 4), (1, .int 1), (0, .int z0)]) hx hb dX11_bytesOf_30 hl (k := 1) rfl (by decide) (by decide) rfl (fun ls hl => ?_)
                  refine lv_goto (tgt := 4) hx hb dX11_bytesOf_33 (by decide) ?_
                  refine lv_iload_n hx hb dX11_bytesOf_4 rfl (lv_at hl 0 rfl) ?_
                  refine lv_iconst (v := 4) hx hb dX11_bytesOf_5 (by decide) ?_
                  refine lv_icmp_ge (tgt := 36) hx hb dX11_bytesOf_6 (by decide) (fun c220 => ?_) (fun c220 => ?_)
                  ·
                    refine lv_iload_n hx hb dX11_bytesOf_36 rfl (lv_at hl 1 rfl) ?_
                    have hby221 : b1 z0 0 = 0 := b1_0 (by rw [show byS z0 0 = x5 by rw [ex5, ex4]; rfl]; exact c7)
                    have hby222 : b1 z0 8 = 1 := b1_1 (by rw [show byS z0 8 = x157 by rw [ex157, ex156]; rfl]; exact c159)
                    have hby223 : b1 z0 16 = 0 := b1_0 (by rw [show byS z0 16 = x167 by rw [ex167, ex166]; rfl]; exact c169)
                    have hby224 : b1 z0 24 = 0 := b1_0 (by rw [show byS z0 24 = x205 by rw [ex205, ex204]; rfl]; exact c207)
                    exact ret_i (ty := .int) hx hb hr hlocks (rfl) hP hD hS (Nat.le_of_ble_eq_true rfl) (Nat.le_of_ble_eq_true rfl) (⟨rfl, rfl, (⟨by decide, by decide⟩ : In 1 0 4), (by have e0 : (1 : Int32).toInt = 1 := (by decide); unfold nb; omega)⟩) dX11_bytesOf_37
                  ·
                    have cc225 : (4 : Int32).toInt < (4 : Int32).toInt := i32_nle c220
                    exact In.empty (lo := 4) (hi := 3) (In.lt1 (⟨by decide, by decide⟩ : In 4 4 4) (⟨by decide, by decide⟩ : In 4 4 4) cc225 (by omega) (by omega)) (by decide)
        ·
          have cc226 : x157.toInt = (0 : Int32).toInt := congrArg Int32.toInt c159
          have hb227 : In x157 0 0 := In.eq1 hb158 (⟨by decide, by decide⟩ : In 0 0 0) cc226 (by omega) (by omega)
          refine lv_iconst (v := 0) hx hb dX11_bytesOf_23 (by decide) ?_
          refine lv_goto (tgt := 28) hx hb dX11_bytesOf_24 (by decide) ?_
          refine lv_iadd hx hb dX11_bytesOf_28 ?_
          refine lv_topi (fun x228 ex228 => ?_)
          obtain rfl : x228 = 0 := ex228.trans (by decide)
          refine lv_istore_n (lv' := [(1, .int 0), (2, .int 1), (0, .int z0)]) hx hb dX11_bytesOf_29 rfl hl (by decide) rfl (fun ls hl => ?_)
          refine lv_iinc (v := 2) (lv' := [(2, .int 2), (1, .int 0), (0, .int z0)]) hx hb dX11_bytesOf_30 hl (k := 1) rfl (by decide) (by decide) rfl (fun ls hl => ?_)
          refine lv_goto (tgt := 4) hx hb dX11_bytesOf_33 (by decide) ?_
          refine lv_iload_n hx hb dX11_bytesOf_4 rfl (lv_at hl 0 rfl) ?_
          refine lv_iconst (v := 4) hx hb dX11_bytesOf_5 (by decide) ?_
          refine lv_icmp_ge (tgt := 36) hx hb dX11_bytesOf_6 (by decide) (fun c229 => ?_) (fun c229 => ?_)
          ·
            have cc230 : (4 : Int32).toInt ≤ (2 : Int32).toInt := i32_le.mp c229
            exact In.empty (lo := 4) (hi := 2) (In.ge1 (⟨by decide, by decide⟩ : In 2 2 2) (⟨by decide, by decide⟩ : In 4 4 4) cc230 (by omega) (by omega)) (by decide)
          ·
            refine lv_iload_n hx hb dX11_bytesOf_9 rfl (lv_at hl 1 rfl) ?_
            refine lv_iload_n hx hb dX11_bytesOf_10 rfl (lv_at hl 2 rfl) ?_
            refine lv_bipush (v := 8) hx hb dX11_bytesOf_11 (by decide) ?_
            refine lv_iload_n hx hb dX11_bytesOf_13 rfl (lv_at hl 0 rfl) ?_
            refine lv_imul hx hb dX11_bytesOf_14 ?_
            refine lv_topi (fun x231 ex231 => ?_)
            obtain rfl : x231 = 16 := ex231.trans (by decide)
            refine lv_ishr hx hb dX11_bytesOf_15 ?_
            refine lv_topi (fun x232 ex232 => ?_)
            refine lv_sipush (v := 255) hx hb dX11_bytesOf_16 (by decide) ?_
            refine lv_iand hx hb dX11_bytesOf_19 ?_
            refine lv_topi (fun x233 ex233 => ?_)
            have hb234 : In x233 0 255 := ex233 ▸ In.andr (⟨by decide, by decide⟩ : In 255 255 255) (by decide)
            refine lv_if_ne (tgt := 27) hx hb dX11_bytesOf_20 (by decide) (fun c235 => ?_) (fun c235 => ?_)
            ·
              have cc236 : x233.toInt ≠ (0 : Int32).toInt := i32_ne c235
              have hb237 : In x233 1 255 := In.ne1 hb234 (⟨by decide, by decide⟩ : In 0 0 0) cc236 (by omega) (by omega)
              refine lv_iconst (v := 1) hx hb dX11_bytesOf_27 (by decide) ?_
              refine lv_iadd hx hb dX11_bytesOf_28 ?_
              refine lv_topi (fun x238 ex238 => ?_)
              obtain rfl : x238 = 1 := ex238.trans (by decide)
              refine lv_istore_n (lv' := [(1, .int 1), (2, .int 2), (0, .int z0)]) hx hb dX11_bytesOf_29 rfl hl (by decide) rfl (fun ls hl => ?_)
              refine lv_iinc (v := 3) (lv' := [(2, .int 3), (1, .int 1), (0, .int z0)]) hx hb dX11_bytesOf_30 hl (k := 1) rfl (by decide) (by decide) rfl (fun ls hl => ?_)
              refine lv_goto (tgt := 4) hx hb dX11_bytesOf_33 (by decide) ?_
              refine lv_iload_n hx hb dX11_bytesOf_4 rfl (lv_at hl 0 rfl) ?_
              refine lv_iconst (v := 4) hx hb dX11_bytesOf_5 (by decide) ?_
              refine lv_icmp_ge (tgt := 36) hx hb dX11_bytesOf_6 (by decide) (fun c239 => ?_) (fun c239 => ?_)
              ·
                have cc240 : (4 : Int32).toInt ≤ (3 : Int32).toInt := i32_le.mp c239
                exact In.empty (lo := 4) (hi := 3) (In.ge1 (⟨by decide, by decide⟩ : In 3 3 3) (⟨by decide, by decide⟩ : In 4 4 4) cc240 (by omega) (by omega)) (by decide)
              ·
                refine lv_iload_n hx hb dX11_bytesOf_9 rfl (lv_at hl 1 rfl) ?_
                refine lv_iload_n hx hb dX11_bytesOf_10 rfl (lv_at hl 2 rfl) ?_
                refine lv_bipush (v := 8) hx hb dX11_bytesOf_11 (by decide) ?_
                refine lv_iload_n hx hb dX11_bytesOf_13 rfl (lv_at hl 0 rfl) ?_
                refine lv_imul hx hb dX11_bytesOf_14 ?_
                refine lv_topi (fun x241 ex241 => ?_)
                obtain rfl : x241 = 24 := ex241.trans (by decide)
                refine lv_ishr hx hb dX11_bytesOf_15 ?_
                refine lv_topi (fun x242 ex242 => ?_)
                refine lv_sipush (v := 255) hx hb dX11_bytesOf_16 (by decide) ?_
                refine lv_iand hx hb dX11_bytesOf_19 ?_
                refine lv_topi (fun x243 ex243 => ?_)
                have hb244 : In x243 0 255 := ex243 ▸ In.andr (⟨by decide, by decide⟩ : In 255 255 255) (by decide)
                refine lv_if_ne (tgt := 27) hx hb dX11_bytesOf_20 (by decide) (fun c245 => ?_) (fun c245 => ?_)
                ·
                  have cc246 : x243.toInt ≠ (0 : Int32).toInt := i32_ne c245
                  have hb247 : In x243 1 255 := In.ne1 hb244 (⟨by decide, by decide⟩ : In 0 0 0) cc246 (by omega) (by omega)
                  refine lv_iconst (v := 1) hx hb dX11_bytesOf_27 (by decide) ?_
                  refine lv_iadd hx hb dX11_bytesOf_28 ?_
                  refine lv_topi (fun x248 ex248 => ?_)
                  obtain rfl : x248 = 2 := ex248.trans (by decide)
                  refine lv_istore_n (lv' := [(1, .int 2), (2, .int 3), (0, .int z0)]) hx hb dX11_bytesOf_29 rfl hl (by decide) rfl (fun ls hl => ?_)
                  refine lv_iinc (v := 4) (lv' := [(2, .int 4), (1, .int 2), (0, .int z0)]) hx hb dX11_bytesOf_30 hl (k := 1) rfl (by decide) (by decide) rfl (fun ls hl => ?_)
                  refine lv_goto (tgt := 4) hx hb dX11_bytesOf_33 (by decide) ?_
                  refine lv_iload_n hx hb dX11_bytesOf_4 rfl (lv_at hl 0 rfl) ?_
                  refine lv_iconst (v := 4) hx hb dX11_bytesOf_5 (by decide) ?_
                  refine lv_icmp_ge (tgt := 36) hx hb dX11_bytesOf_6 (by decide) (fun c249 => ?_) (fun c249 => ?_)
                  ·
                    refine lv_iload_n hx hb dX11_bytesOf_36 rfl (lv_at hl 1 rfl) ?_
                    have hby250 : b1 z0 0 = 0 := b1_0 (by rw [show byS z0 0 = x5 by rw [ex5, ex4]; rfl]; exact c7)
                    have hby251 : b1 z0 8 = 0 := b1_0 (by rw [show byS z0 8 = x157 by rw [ex157, ex156]; rfl]; exact c159)
                    have hby252 : b1 z0 16 = 1 := b1_1 (by rw [show byS z0 16 = x233 by rw [ex233, ex232]; rfl]; exact c235)
                    have hby253 : b1 z0 24 = 1 := b1_1 (by rw [show byS z0 24 = x243 by rw [ex243, ex242]; rfl]; exact c245)
                    exact ret_i (ty := .int) hx hb hr hlocks (rfl) hP hD hS (Nat.le_of_ble_eq_true rfl) (Nat.le_of_ble_eq_true rfl) (⟨rfl, rfl, (⟨by decide, by decide⟩ : In 2 0 4), (by have e0 : (2 : Int32).toInt = 2 := (by decide); unfold nb; omega)⟩) dX11_bytesOf_37
                  ·
                    have cc254 : (4 : Int32).toInt < (4 : Int32).toInt := i32_nle c249
                    exact In.empty (lo := 4) (hi := 3) (In.lt1 (⟨by decide, by decide⟩ : In 4 4 4) (⟨by decide, by decide⟩ : In 4 4 4) cc254 (by omega) (by omega)) (by decide)
                ·
                  have cc255 : x243.toInt = (0 : Int32).toInt := congrArg Int32.toInt c245
                  have hb256 : In x243 0 0 := In.eq1 hb244 (⟨by decide, by decide⟩ : In 0 0 0) cc255 (by omega) (by omega)
                  refine lv_iconst (v := 0) hx hb dX11_bytesOf_23 (by decide) ?_
                  refine lv_goto (tgt := 28) hx hb dX11_bytesOf_24 (by decide) ?_
                  refine lv_iadd hx hb dX11_bytesOf_28 ?_
                  refine lv_topi (fun x257 ex257 => ?_)
                  obtain rfl : x257 = 1 := ex257.trans (by decide)
                  refine lv_istore_n (lv' := [(1, .int 1), (2, .int 3), (0, .int z0)]) hx hb dX11_bytesOf_29 rfl hl (by decide) rfl (fun ls hl => ?_)
                  refine lv_iinc (v := 4) (lv' := [(2, .int 4), (1, .int 1), (0, .int z0)]) hx hb dX11_bytesOf_30 hl (k := 1) rfl (by decide) (by decide) rfl (fun ls hl => ?_)
                  refine lv_goto (tgt := 4) hx hb dX11_bytesOf_33 (by decide) ?_
                  refine lv_iload_n hx hb dX11_bytesOf_4 rfl (lv_at hl 0 rfl) ?_
                  refine lv_iconst (v := 4) hx hb dX11_bytesOf_5 (by decide) ?_
                  refine lv_icmp_ge (tgt := 36) hx hb dX11_bytesOf_6 (by decide) (fun c258 => ?_) (fun c258 => ?_)
                  ·
                    refine lv_iload_n hx hb dX11_bytesOf_36 rfl (lv_at hl 1 rfl) ?_
                    have hby259 : b1 z0 0 = 0 := b1_0 (by rw [show byS z0 0 = x5 by rw [ex5, ex4]; rfl]; exact c7)
                    have hby260 : b1 z0 8 = 0 := b1_0 (by rw [show byS z0 8 = x157 by rw [ex157, ex156]; rfl]; exact c159)
                    have hby261 : b1 z0 16 = 1 := b1_1 (by rw [show byS z0 16 = x233 by rw [ex233, ex232]; rfl]; exact c235)
                    have hby262 : b1 z0 24 = 0 := b1_0 (by rw [show byS z0 24 = x243 by rw [ex243, ex242]; rfl]; exact c245)
                    exact ret_i (ty := .int) hx hb hr hlocks (rfl) hP hD hS (Nat.le_of_ble_eq_true rfl) (Nat.le_of_ble_eq_true rfl) (⟨rfl, rfl, (⟨by decide, by decide⟩ : In 1 0 4), (by have e0 : (1 : Int32).toInt = 1 := (by decide); unfold nb; omega)⟩) dX11_bytesOf_37
                  ·
                    have cc263 : (4 : Int32).toInt < (4 : Int32).toInt := i32_nle c258
                    exact In.empty (lo := 4) (hi := 3) (In.lt1 (⟨by decide, by decide⟩ : In 4 4 4) (⟨by decide, by decide⟩ : In 4 4 4) cc263 (by omega) (by omega)) (by decide)
            ·
              have cc264 : x233.toInt = (0 : Int32).toInt := congrArg Int32.toInt c235
              have hb265 : In x233 0 0 := In.eq1 hb234 (⟨by decide, by decide⟩ : In 0 0 0) cc264 (by omega) (by omega)
              refine lv_iconst (v := 0) hx hb dX11_bytesOf_23 (by decide) ?_
              refine lv_goto (tgt := 28) hx hb dX11_bytesOf_24 (by decide) ?_
              refine lv_iadd hx hb dX11_bytesOf_28 ?_
              refine lv_topi (fun x266 ex266 => ?_)
              obtain rfl : x266 = 0 := ex266.trans (by decide)
              refine lv_istore_n (lv' := [(1, .int 0), (2, .int 2), (0, .int z0)]) hx hb dX11_bytesOf_29 rfl hl (by decide) rfl (fun ls hl => ?_)
              refine lv_iinc (v := 3) (lv' := [(2, .int 3), (1, .int 0), (0, .int z0)]) hx hb dX11_bytesOf_30 hl (k := 1) rfl (by decide) (by decide) rfl (fun ls hl => ?_)
              refine lv_goto (tgt := 4) hx hb dX11_bytesOf_33 (by decide) ?_
              refine lv_iload_n hx hb dX11_bytesOf_4 rfl (lv_at hl 0 rfl) ?_
              refine lv_iconst (v := 4) hx hb dX11_bytesOf_5 (by decide) ?_
              refine lv_icmp_ge (tgt := 36) hx hb dX11_bytesOf_6 (by decide) (fun c267 => ?_) (fun c267 => ?_)
              ·
                have cc268 : (4 : Int32).toInt ≤ (3 : Int32).toInt := i32_le.mp c267
                exact In.empty (lo := 4) (hi := 3) (In.ge1 (⟨by decide, by decide⟩ : In 3 3 3) (⟨by decide, by decide⟩ : In 4 4 4) cc268 (by omega) (by omega)) (by decide)
              ·
                refine lv_iload_n hx hb dX11_bytesOf_9 rfl (lv_at hl 1 rfl) ?_
                refine lv_iload_n hx hb dX11_bytesOf_10 rfl (lv_at hl 2 rfl) ?_
                refine lv_bipush (v := 8) hx hb dX11_bytesOf_11 (by decide) ?_
                refine lv_iload_n hx hb dX11_bytesOf_13 rfl (lv_at hl 0 rfl) ?_
                refine lv_imul hx hb dX11_bytesOf_14 ?_
                refine lv_topi (fun x269 ex269 => ?_)
                obtain rfl : x269 = 24 := ex269.trans (by decide)
                refine lv_ishr hx hb dX11_bytesOf_15 ?_
                refine lv_topi (fun x270 ex270 => ?_)
                refine lv_sipush (v := 255) hx hb dX11_bytesOf_16 (by decide) ?_
                refine lv_iand hx hb dX11_bytesOf_19 ?_
                refine lv_topi (fun x271 ex271 => ?_)
                have hb272 : In x271 0 255 := ex271 ▸ In.andr (⟨by decide, by decide⟩ : In 255 255 255) (by decide)
                refine lv_if_ne (tgt := 27) hx hb dX11_bytesOf_20 (by decide) (fun c273 => ?_) (fun c273 => ?_)
                ·
                  have cc274 : x271.toInt ≠ (0 : Int32).toInt := i32_ne c273
                  have hb275 : In x271 1 255 := In.ne1 hb272 (⟨by decide, by decide⟩ : In 0 0 0) cc274 (by omega) (by omega)
                  refine lv_iconst (v := 1) hx hb dX11_bytesOf_27 (by decide) ?_
                  refine lv_iadd hx hb dX11_bytesOf_28 ?_
                  refine lv_topi (fun x276 ex276 => ?_)
                  obtain rfl : x276 = 1 := ex276.trans (by decide)
                  refine lv_istore_n (lv' := [(1, .int 1), (2, .int 3), (0, .int z0)]) hx hb dX11_bytesOf_29 rfl hl (by decide) rfl (fun ls hl => ?_)
                  refine lv_iinc (v := 4) (lv' := [(2, .int 4), (1, .int 1), (0, .int z0)]) hx hb dX11_bytesOf_30 hl (k := 1) rfl (by decide) (by decide) rfl (fun ls hl => ?_)
                  refine lv_goto (tgt := 4) hx hb dX11_bytesOf_33 (by decide) ?_
                  refine lv_iload_n hx hb dX11_bytesOf_4 rfl (lv_at hl 0 rfl) ?_
                  refine lv_iconst (v := 4) hx hb dX11_bytesOf_5 (by decide) ?_
                  refine lv_icmp_ge (tgt := 36) hx hb dX11_bytesOf_6 (by decide) (fun c277 => ?_) (fun c277 => ?_)
                  ·
                    refine lv_iload_n hx hb dX11_bytesOf_36 rfl (lv_at hl 1 rfl) ?_
                    have hby278 : b1 z0 0 = 0 := b1_0 (by rw [show byS z0 0 = x5 by rw [ex5, ex4]; rfl]; exact c7)
                    have hby279 : b1 z0 8 = 0 := b1_0 (by rw [show byS z0 8 = x157 by rw [ex157, ex156]; rfl]; exact c159)
                    have hby280 : b1 z0 16 = 0 := b1_0 (by rw [show byS z0 16 = x233 by rw [ex233, ex232]; rfl]; exact c235)
                    have hby281 : b1 z0 24 = 1 := b1_1 (by rw [show byS z0 24 = x271 by rw [ex271, ex270]; rfl]; exact c273)
                    exact ret_i (ty := .int) hx hb hr hlocks (rfl) hP hD hS (Nat.le_of_ble_eq_true rfl) (Nat.le_of_ble_eq_true rfl) (⟨rfl, rfl, (⟨by decide, by decide⟩ : In 1 0 4), (by have e0 : (1 : Int32).toInt = 1 := (by decide); unfold nb; omega)⟩) dX11_bytesOf_37
                  ·
                    have cc282 : (4 : Int32).toInt < (4 : Int32).toInt := i32_nle c277
                    exact In.empty (lo := 4) (hi := 3) (In.lt1 (⟨by decide, by decide⟩ : In 4 4 4) (⟨by decide, by decide⟩ : In 4 4 4) cc282 (by omega) (by omega)) (by decide)
                ·
                  have cc283 : x271.toInt = (0 : Int32).toInt := congrArg Int32.toInt c273
                  have hb284 : In x271 0 0 := In.eq1 hb272 (⟨by decide, by decide⟩ : In 0 0 0) cc283 (by omega) (by omega)
                  refine lv_iconst (v := 0) hx hb dX11_bytesOf_23 (by decide) ?_
                  refine lv_goto (tgt := 28) hx hb dX11_bytesOf_24 (by decide) ?_
                  refine lv_iadd hx hb dX11_bytesOf_28 ?_
                  refine lv_topi (fun x285 ex285 => ?_)
                  obtain rfl : x285 = 0 := ex285.trans (by decide)
                  refine lv_istore_n (lv' := [(1, .int 0), (2, .int 3), (0, .int z0)]) hx hb dX11_bytesOf_29 rfl hl (by decide) rfl (fun ls hl => ?_)
                  refine lv_iinc (v := 4) (lv' := [(2, .int 4), (1, .int 0), (0, .int z0)]) hx hb dX11_bytesOf_30 hl (k := 1) rfl (by decide) (by decide) rfl (fun ls hl => ?_)
                  refine lv_goto (tgt := 4) hx hb dX11_bytesOf_33 (by decide) ?_
                  refine lv_iload_n hx hb dX11_bytesOf_4 rfl (lv_at hl 0 rfl) ?_
                  refine lv_iconst (v := 4) hx hb dX11_bytesOf_5 (by decide) ?_
                  refine lv_icmp_ge (tgt := 36) hx hb dX11_bytesOf_6 (by decide) (fun c286 => ?_) (fun c286 => ?_)
                  ·
                    refine lv_iload_n hx hb dX11_bytesOf_36 rfl (lv_at hl 1 rfl) ?_
                    have hby287 : b1 z0 0 = 0 := b1_0 (by rw [show byS z0 0 = x5 by rw [ex5, ex4]; rfl]; exact c7)
                    have hby288 : b1 z0 8 = 0 := b1_0 (by rw [show byS z0 8 = x157 by rw [ex157, ex156]; rfl]; exact c159)
                    have hby289 : b1 z0 16 = 0 := b1_0 (by rw [show byS z0 16 = x233 by rw [ex233, ex232]; rfl]; exact c235)
                    have hby290 : b1 z0 24 = 0 := b1_0 (by rw [show byS z0 24 = x271 by rw [ex271, ex270]; rfl]; exact c273)
                    exact ret_i (ty := .int) hx hb hr hlocks (rfl) hP hD hS (Nat.le_of_ble_eq_true rfl) (Nat.le_of_ble_eq_true rfl) (⟨rfl, rfl, (⟨by decide, by decide⟩ : In 0 0 4), (by have e0 : (0 : Int32).toInt = 0 := (by decide); unfold nb; omega)⟩) dX11_bytesOf_37
                  ·
                    have cc291 : (4 : Int32).toInt < (4 : Int32).toInt := i32_nle c286
                    exact In.empty (lo := 4) (hi := 3) (In.lt1 (⟨by decide, by decide⟩ : In 4 4 4) (⟨by decide, by decide⟩ : In 4 4 4) cc291 (by omega) (by omega)) (by decide)

abbrev rm_X11_brings : Room := { frames := 0, cells := 0, slots := 0, locals := 0 }
abbrev po_X11_brings (g : GG) (ad : Nat → Nat) (th : Nat → Int) (L : List Nat) (f : HP) (z1 : Int32) : (List Nat × HP) → Prop := fun u => u.1 = L ∧ (∃ zz : Int, (zz = th 13 + nb z1) ∧ TI g ad (gset th 13 zz) u.2) ∧ (∀ b, b ≠ (ad 255) → b ≠ (ad 256) → u.2 b = f b)
set_option maxHeartbeats 4000000 in
set_option maxRecDepth 100000 in
theorem s_X11_brings (l : Launch) (g : GG) (ad : Nat → Nat) (th : Nat → Int) (L : List Nat) (f : HP) (sz : Nat) (z1 : Int32) (hst : ST ad L) (hT : TI g ad th f) (hbr : th 13 + nb z1 ≤ 500) : MtV l g yX11_brings cX11_brings 4 rm_X11_brings [.ref (ad 255), .int z1] L f sz (po_X11_brings g ad th L f z1) := by
  refine MtV.of (by decide +kernel) (Nat.le_of_ble_eq_true rfl) ?_
  intro p e s m below meth c A hEn hP hD hS ls hl
  obtain ⟨hx, hb, hr, hml, hown, hlocks, hts, hG, hA, hE, hnm⟩ := hEn
  have hown : s.vm.findClass "RulerWordModel" = some m.cls := hown
  have hl : lv_has ls 4 [(0, .ref (ad 255)), (1, .int z1)] := hl
  have hfr : (∀ b, b ≠ (ad 255) → b ≠ (ad 256) → f b = f b) := fun b z0_ z1_ => rfl
  have hnb := nb_r z1
  refine lv_bipush (v := 24) hx hb dX11_brings_0 (by decide) ?_
  refine lv_istore_n (lv' := [(2, .int 24), (0, .ref (ad 255)), (1, .int z1)]) hx hb dX11_brings_2 rfl hl (by decide) rfl (fun ls hl => ?_)
  refine lv_iload_n hx hb dX11_brings_3 rfl (lv_at hl 0 rfl) ?_
  refine lv_if_lt (tgt := 49) hx hb dX11_brings_4 (by decide) (fun c1 => ?_) (fun c1 => ?_)
  ·
    have oc24 : (24 : Int32).toInt = 24 := by decide
    have oc0 : (0 : Int32).toInt = 0 := by decide
    have cc2 : (24 : Int32).toInt < (0 : Int32).toInt := i32_lt.mp c1
    exact In.empty (lo := 24) (hi := (-1)) (In.lt1 (⟨by decide, by decide⟩ : In 24 24 24) (⟨by decide, by decide⟩ : In 0 0 0) cc2 (by omega) (by omega)) (by decide)
  ·
    have oc24 : (24 : Int32).toInt = 24 := by decide
    have oc0 : (0 : Int32).toInt = 0 := by decide
    have cc3 : (0 : Int32).toInt ≤ (24 : Int32).toInt := i32_nlt c1
    refine lv_iload_n hx hb dX11_brings_7 rfl (lv_at hl 2 rfl) ?_
    refine lv_iload_n hx hb dX11_brings_8 rfl (lv_at hl 0 rfl) ?_
    refine lv_ishr hx hb dX11_brings_9 ?_
    refine lv_topi (fun x4 ex4 => ?_)
    refine lv_sipush (v := 255) hx hb dX11_brings_10 (by decide) ?_
    refine lv_iand hx hb dX11_brings_13 ?_
    refine lv_topi (fun x5 ex5 => ?_)
    have hb6 : In x5 0 255 := ex5 ▸ In.andr (⟨by decide, by decide⟩ : In 255 255 255) (by decide)
    refine lv_istore_n (lv' := [(3, .int x5), (2, .int 24), (0, .ref (ad 255)), (1, .int z1)]) hx hb dX11_brings_14 rfl hl (by decide) rfl (fun ls hl => ?_)
    refine lv_iload_n hx hb dX11_brings_15 rfl (lv_at hl 0 rfl) ?_
    refine lv_if_ne (tgt := 22) hx hb dX11_brings_16 (by decide) (fun c7 => ?_) (fun c7 => ?_)
    ·
      have oc0 : (0 : Int32).toInt = 0 := by decide
      have cc8 : x5.toInt ≠ (0 : Int32).toInt := i32_ne c7
      have hb9 : In x5 1 255 := In.ne1 hb6 (⟨by decide, by decide⟩ : In 0 0 0) cc8 (by omega) (by omega)
      refine lv_aload_n hx hb dX11_brings_22 rfl (lv_at hl 2 rfl) ?_
      obtain ⟨v0_10, v2_10, v3_10, v4_10, v5_10, v6_10, v8_10, v9_10, v12_10, v13_10, v14_10, v15_10, v16_10, v17_10, v18_10, v19_10, v20_10, v21_10, v22_10, v23_10, v25_10, v36_10, v37_10, v38_10, v39_10, v40_10, v45_10, v46_10, v47_10, v48_10, v50_10, v51_10, v53_10, v55_10, hf11, hv0_10, hv2_10, hg2_10, hv3_10, hg3_10, hv4_10, hg4_10, hv5_10, hg5_10, hv6_10, hg6_10, hv8_10, hg8_10, hv9_10, hg9_10, hv12_10, hv13_10, hg13_10, hv14_10, hg14_10, hv15_10, hg15_10, hv17_10, hg17_10, hv20_10, hg20_10, hv23_10, hg23_10, hv25_10, hv36_10, hg36_10, hv47_10, hg47_10, hv48_10, hg48_10, hv53_10, hg53_10, hv55_10, hg55_10, hrel0_10⟩ := hT.2.2 0 (by decide)
      refine pl_get (v := .ref (ad 256)) hx hb hts (fun w h => mT (inX11 w h)) hown hG.1 hP (hst.1 255 (by decide)) hf11 rfl 1 (by decide) (hts _ (mT wg_1337)) (fun _ h => h) rfl dX11_brings_23 ?_
      refine lv_aload_n hx hb dX11_brings_26 rfl (lv_at hl 2 rfl) ?_
      refine pl_get (v := .int v2_10) hx hb hts (fun w h => mT (inX11 w h)) hown hG.1 hP (hst.1 255 (by decide)) hf11 rfl 2 (by decide) (hts _ (mT wg_1338)) (fun _ h => h) rfl dX11_brings_27 ?_
      refine lv_iload_n hx hb dX11_brings_30 rfl (lv_at hl 0 rfl) ?_
      refine lv_i2b hx hb dX11_brings_31 rfl ?_
      refine lv_topi (fun x12 ex12 => ?_)
      have hby13 : b1 z1 24 = 1 := b1_1 (by rw [show byS z1 24 = x5 by rw [ex5, ex4]; rfl]; exact c7)
      obtain ⟨rw14, hf15, hc16⟩ := hT.2.2 1 (by decide)
      refine pl_bastE hx hb hG.1 hP hD hS (hst.1 256 (by decide)) 2 hf15 rfl (vp_of (by obtain ⟨o0a, o0b⟩ := (hv2_10 : In _ _ _); obtain ⟨o1a, o1b⟩ := (hv3_10 : In _ _ _); obtain ⟨o2a, o2b⟩ := (hv4_10 : In _ _ _); obtain ⟨o3a, o3b⟩ := (hv5_10 : In _ _ _); obtain ⟨o4a, o4b⟩ := (hv6_10 : In _ _ _); obtain ⟨o5a, o5b⟩ := (hv8_10 : In _ _ _); obtain ⟨o6a, o6b⟩ := (hv9_10 : In _ _ _); obtain ⟨o7a, o7b⟩ := (hv13_10 : In _ _ _); obtain ⟨o8a, o8b⟩ := (hv14_10 : In _ _ _); obtain ⟨o9a, o9b⟩ := (hv15_10 : In _ _ _); obtain ⟨o10a, o10b⟩ := (hv17_10 : In _ _ _); obtain ⟨o11a, o11b⟩ := (hv20_10 : In _ _ _); obtain ⟨o12a, o12b⟩ := (hv23_10 : In _ _ _); obtain ⟨o13a, o13b⟩ := (hv36_10 : In _ _ _); obtain ⟨o14a, o14b⟩ := (hv47_10 : In _ _ _); obtain ⟨o15a, o15b⟩ := (hv48_10 : In _ _ _); obtain ⟨o16a, o16b⟩ := (hv53_10 : In _ _ _); obtain ⟨o17a, o17b⟩ := (hv55_10 : In _ _ _); omega) (by obtain ⟨o0a, o0b⟩ := (hv2_10 : In _ _ _); obtain ⟨o1a, o1b⟩ := (hv3_10 : In _ _ _); obtain ⟨o2a, o2b⟩ := (hv4_10 : In _ _ _); obtain ⟨o3a, o3b⟩ := (hv5_10 : In _ _ _); obtain ⟨o4a, o4b⟩ := (hv6_10 : In _ _ _); obtain ⟨o5a, o5b⟩ := (hv8_10 : In _ _ _); obtain ⟨o6a, o6b⟩ := (hv9_10 : In _ _ _); obtain ⟨o7a, o7b⟩ := (hv13_10 : In _ _ _); obtain ⟨o8a, o8b⟩ := (hv14_10 : In _ _ _); obtain ⟨o9a, o9b⟩ := (hv15_10 : In _ _ _); obtain ⟨o10a, o10b⟩ := (hv17_10 : In _ _ _); obtain ⟨o11a, o11b⟩ := (hv20_10 : In _ _ _); obtain ⟨o12a, o12b⟩ := (hv23_10 : In _ _ _); obtain ⟨o13a, o13b⟩ := (hv36_10 : In _ _ _); obtain ⟨o14a, o14b⟩ := (hv47_10 : In _ _ _); obtain ⟨o15a, o15b⟩ := (hv48_10 : In _ _ _); obtain ⟨o16a, o16b⟩ := (hv53_10 : In _ _ _); obtain ⟨o17a, o17b⟩ := (hv55_10 : In _ _ _); omega)) dX11_brings_32 (fun H locs f17 r20 er20 hf18 ho19 hP hD hS => ?_)
      have hc21 : ∀ i : Nat, i < 500 → In (r20 i) (-128) 127 := cont_upd er20 hc16 (nar_byte _)
      have hf22 := (ho19 (ad 255) (hst.ne (by decide) (by decide) (by decide))).trans hf11
      have hfr : (∀ b, b ≠ (ad 255) → b ≠ (ad 256) → f17 b = f b) := fun b z0_ z1_ => (ho19 b z1_).trans (hfr b z0_ z1_)
      refine lv_aload_n hx hb dX11_brings_33 rfl (lv_at hl 2 rfl) ?_
      refine lv_dup hx hb dX11_brings_34 rfl ?_
      refine pl_get (v := .int v2_10) hx hb hts (fun w h => mT (inX11 w h)) hown hG.1 hP (hst.1 255 (by decide)) hf22 rfl 2 (by decide) (hts _ (mT wg_1338)) (fun _ h => h) rfl dX11_brings_35 ?_
      refine lv_iconst (v := 1) hx hb dX11_brings_38 (by decide) ?_
      refine lv_iadd hx hb dX11_brings_39 ?_
      refine lv_topi (fun x23 ex23 => ?_)
      have hb24 : In x23 1 501 := ex23 ▸ In.add hv2_10 (⟨by decide, by decide⟩ : In 1 1 1) (by decide) (by decide) (by decide) (by decide)
      have et25 : x23.toInt = v2_10.toInt + 1 := In.adde ex23 hv2_10 (k := 1) (by decide) (by decide) (by decide)
      have hT := TI.updM hT hst (k := 1) (by decide) hf18 ho19 ⟨r20, rfl, hc21⟩
      refine pl_put (ty := .int) (v := .int x23) (fs' := [.int v0_10, .ref (ad 256), .int x23, .int v3_10, .int v4_10, .int v5_10, .int v6_10, .ref (ad 257), .int v8_10, .int v9_10, .ref (ad 258), .ref (ad 259), .int v12_10, .int v13_10, .int v14_10, .int v15_10, .int v16_10, .int v17_10, .int v18_10, .int v19_10, .int v20_10, .long v21_10, .long v22_10, .int v23_10, .ref (ad 260), .int v25_10, .ref (ad 261), .ref (ad 262), .ref (ad 263), .ref (ad 264), .ref (ad 265), .ref (ad 266), .ref (ad 267), .ref (ad 268), .ref (ad 269), .ref (ad 270), .int v36_10, .int v37_10, .int v38_10, .int v39_10, .int v40_10, .ref (ad 271), .ref (ad 272), .ref (ad 273), .ref (ad 274), .long v45_10, .long v46_10, .int v47_10, .int v48_10, .ref (ad 275), .int v50_10, .int v51_10, .ref (ad 276), .int v53_10, .ref (ad 277), .int v55_10]) hx hb hts (fun w h => mT (inX11 w h)) tyX11 tyX11_ok nmX11 hown hG.1 hP hD hS (hst.1 255 (by decide)) hf22 rfl 2 (by decide) (hts _ (mT wg_1338)) (fun _ h => h) rfl (by decide +kernel) (rfl) (rfl) (Nat.le_of_ble_eq_true rfl) rfl dX11_brings_40 (fun H locs f26 hf27 ho28 hP hD hS => ?_)
      have hf29 := (ho28 (ad 256) (hst.ne (by decide) (by decide) (by decide))).trans hf18
      have hfr : (∀ b, b ≠ (ad 255) → b ≠ (ad 256) → f26 b = f b) := fun b z0_ z1_ => (ho28 b z0_).trans (hfr b z0_ z1_)
      refine lv_iinc (v := 16) (lv' := [(2, .int 16), (3, .int x5), (0, .ref (ad 255)), (1, .int z1)]) hx hb dX11_brings_43 hl (k := 1) rfl (by decide) (by decide) rfl (fun ls hl => ?_)
      have hT := TI.updMG (th' := (gset th 13 (x23.toInt))) hT hst (k := 0) (by decide) hf27 ho28 ⟨v0_10, x23, v3_10, v4_10, v5_10, v6_10, v8_10, v9_10, v12_10, v13_10, v14_10, v15_10, v16_10, v17_10, v18_10, v19_10, v20_10, v21_10, v22_10, v23_10, v25_10, v36_10, v37_10, v38_10, v39_10, v40_10, v45_10, v46_10, v47_10, v48_10, v50_10, v51_10, v53_10, v55_10, rfl, hv0_10, (In.mk (by obtain ⟨o0a, o0b⟩ := (hb24 : In _ _ _); obtain ⟨o1a, o1b⟩ := (hv3_10 : In _ _ _); obtain ⟨o2a, o2b⟩ := (hv4_10 : In _ _ _); obtain ⟨o3a, o3b⟩ := (hv5_10 : In _ _ _); obtain ⟨o4a, o4b⟩ := (hv6_10 : In _ _ _); obtain ⟨o5a, o5b⟩ := (hv8_10 : In _ _ _); obtain ⟨o6a, o6b⟩ := (hv9_10 : In _ _ _); obtain ⟨o7a, o7b⟩ := (hv13_10 : In _ _ _); obtain ⟨o8a, o8b⟩ := (hv14_10 : In _ _ _); obtain ⟨o9a, o9b⟩ := (hv15_10 : In _ _ _); obtain ⟨o10a, o10b⟩ := (hv17_10 : In _ _ _); obtain ⟨o11a, o11b⟩ := (hv20_10 : In _ _ _); obtain ⟨o12a, o12b⟩ := (hv23_10 : In _ _ _); obtain ⟨o13a, o13b⟩ := (hv36_10 : In _ _ _); obtain ⟨o14a, o14b⟩ := (hv47_10 : In _ _ _); obtain ⟨o15a, o15b⟩ := (hv48_10 : In _ _ _); obtain ⟨o16a, o16b⟩ := (hv53_10 : In _ _ _); obtain ⟨o17a, o17b⟩ := (hv55_10 : In _ _ _); obtain ⟨o18a, o18b⟩ := (hv2_10 : In _ _ _); omega) (by obtain ⟨o0a, o0b⟩ := (hb24 : In _ _ _); obtain ⟨o1a, o1b⟩ := (hv3_10 : In _ _ _); obtain ⟨o2a, o2b⟩ := (hv4_10 : In _ _ _); obtain ⟨o3a, o3b⟩ := (hv5_10 : In _ _ _); obtain ⟨o4a, o4b⟩ := (hv6_10 : In _ _ _); obtain ⟨o5a, o5b⟩ := (hv8_10 : In _ _ _); obtain ⟨o6a, o6b⟩ := (hv9_10 : In _ _ _); obtain ⟨o7a, o7b⟩ := (hv13_10 : In _ _ _); obtain ⟨o8a, o8b⟩ := (hv14_10 : In _ _ _); obtain ⟨o9a, o9b⟩ := (hv15_10 : In _ _ _); obtain ⟨o10a, o10b⟩ := (hv17_10 : In _ _ _); obtain ⟨o11a, o11b⟩ := (hv20_10 : In _ _ _); obtain ⟨o12a, o12b⟩ := (hv23_10 : In _ _ _); obtain ⟨o13a, o13b⟩ := (hv36_10 : In _ _ _); obtain ⟨o14a, o14b⟩ := (hv47_10 : In _ _ _); obtain ⟨o15a, o15b⟩ := (hv48_10 : In _ _ _); obtain ⟨o16a, o16b⟩ := (hv53_10 : In _ _ _); obtain ⟨o17a, o17b⟩ := (hv55_10 : In _ _ _); obtain ⟨o18a, o18b⟩ := (hv2_10 : In _ _ _); omega)), (by simp [gset]), hv3_10, (by rw [hg3_10]; simp [gset]), hv4_10, (by rw [hg4_10]; simp [gset]), hv5_10, (by rw [hg5_10]; simp [gset]), hv6_10, (by rw [hg6_10]; simp [gset]), hv8_10, (by rw [hg8_10]; simp [gset]), hv9_10, (by rw [hg9_10]; simp [gset]), hv12_10, hv13_10, (by rw [hg13_10]; simp [gset]), hv14_10, (by rw [hg14_10]; simp [gset]), hv15_10, (by rw [hg15_10]; simp [gset]), hv17_10, (by rw [hg17_10]; simp [gset]), hv20_10, (by rw [hg20_10]; simp [gset]), hv23_10, (by rw [hg23_10]; simp [gset]), hv25_10, hv36_10, (by rw [hg36_10]; simp [gset]), hv47_10, (by rw [hg47_10]; simp [gset]), hv48_10, (by rw [hg48_10]; simp [gset]), hv53_10, (by rw [hg53_10]; simp [gset]), hv55_10, (by rw [hg55_10]; simp [gset]), hrel0_10⟩ (fun q hq => ((gset_ne (fun e => hq (by subst e; decide))).trans rfl))
      have hT : TI g ad (gset th 13 x23.toInt) f26 := TI.cast hT (by funext q; simp only [gset]; (repeat' split); all_goals first | rfl | omega | (subst_vars; rfl) | (exfalso; omega))
      refine lv_goto (tgt := 3) hx hb dX11_brings_46 (by decide) ?_
      refine lv_iload_n hx hb dX11_brings_3 rfl (lv_at hl 0 rfl) ?_
      refine lv_if_lt (tgt := 49) hx hb dX11_brings_4 (by decide) (fun c30 => ?_) (fun c30 => ?_)
      ·
        have oc16 : (16 : Int32).toInt = 16 := by decide
        have oc0 : (0 : Int32).toInt = 0 := by decide
        have cc31 : (16 : Int32).toInt < (0 : Int32).toInt := i32_lt.mp c30
        exact In.empty (lo := 16) (hi := (-1)) (In.lt1 (⟨by decide, by decide⟩ : In 16 16 16) (⟨by decide, by decide⟩ : In 0 0 0) cc31 (by omega) (by omega)) (by decide)
      ·
        have oc16 : (16 : Int32).toInt = 16 := by decide
        have oc0 : (0 : Int32).toInt = 0 := by decide
        have cc32 : (0 : Int32).toInt ≤ (16 : Int32).toInt := i32_nlt c30
        refine lv_iload_n hx hb dX11_brings_7 rfl (lv_at hl 3 rfl) ?_
        refine lv_iload_n hx hb dX11_brings_8 rfl (lv_at hl 0 rfl) ?_
        refine lv_ishr hx hb dX11_brings_9 ?_
        refine lv_topi (fun x33 ex33 => ?_)
        refine lv_sipush (v := 255) hx hb dX11_brings_10 (by decide) ?_
        refine lv_iand hx hb dX11_brings_13 ?_
        refine lv_topi (fun x34 ex34 => ?_)
        have hb35 : In x34 0 255 := ex34 ▸ In.andr (⟨by decide, by decide⟩ : In 255 255 255) (by decide)
        refine lv_istore_n (lv' := [(3, .int x34), (2, .int 16), (0, .ref (ad 255)), (1, .int z1)]) hx hb dX11_brings_14 rfl hl (by decide) rfl (fun ls hl => ?_)
        refine lv_iload_n hx hb dX11_brings_15 rfl (lv_at hl 0 rfl) ?_
        refine lv_if_ne (tgt := 22) hx hb dX11_brings_16 (by decide) (fun c36 => ?_) (fun c36 => ?_)
        ·
          have oc0 : (0 : Int32).toInt = 0 := by decide
          have cc37 : x34.toInt ≠ (0 : Int32).toInt := i32_ne c36
          have hb38 : In x34 1 255 := In.ne1 hb35 (⟨by decide, by decide⟩ : In 0 0 0) cc37 (by omega) (by omega)
          refine lv_aload_n hx hb dX11_brings_22 rfl (lv_at hl 2 rfl) ?_
          obtain ⟨v0_39, v2_39, v3_39, v4_39, v5_39, v6_39, v8_39, v9_39, v12_39, v13_39, v14_39, v15_39, v16_39, v17_39, v18_39, v19_39, v20_39, v21_39, v22_39, v23_39, v25_39, v36_39, v37_39, v38_39, v39_39, v40_39, v45_39, v46_39, v47_39, v48_39, v50_39, v51_39, v53_39, v55_39, hf40, hv0_39, hv2_39, hg2_39, hv3_39, hg3_39, hv4_39, hg4_39, hv5_39, hg5_39, hv6_39, hg6_39, hv8_39, hg8_39, hv9_39, hg9_39, hv12_39, hv13_39, hg13_39, hv14_39, hg14_39, hv15_39, hg15_39, hv17_39, hg17_39, hv20_39, hg20_39, hv23_39, hg23_39, hv25_39, hv36_39, hg36_39, hv47_39, hg47_39, hv48_39, hg48_39, hv53_39, hg53_39, hv55_39, hg55_39, hrel0_39⟩ := hT.2.2 0 (by decide)
          have hg2_39 : v2_39.toInt = x23.toInt := hg2_39
          have hg3_39 : v3_39.toInt = th 37 := hg3_39
          have hg4_39 : v4_39.toInt = th 42 := hg4_39
          have hg5_39 : v5_39.toInt = th 40 := hg5_39
          have hg6_39 : v6_39.toInt = th 41 := hg6_39
          have hg8_39 : v8_39.toInt = th 43 := hg8_39
          have hg9_39 : v9_39.toInt = th 35 := hg9_39
          have hg13_39 : v13_39.toInt = th 36 := hg13_39
          have hg14_39 : v14_39.toInt = th 10 := hg14_39
          have hg15_39 : v15_39.toInt = th 11 := hg15_39
          have hg17_39 : v17_39.toInt = th 12 := hg17_39
          have hg20_39 : v20_39.toInt = th 14 := hg20_39
          have hg23_39 : v23_39.toInt = th 15 := hg23_39
          have hg36_39 : v36_39.toInt = th 18 := hg36_39
          have hg47_39 : v47_39.toInt = th 16 := hg47_39
          have hg48_39 : v48_39.toInt = th 17 := hg48_39
          have hg53_39 : v53_39.toInt = th 38 := hg53_39
          have hg55_39 : v55_39.toInt = th 39 := hg55_39
          refine pl_get (v := .ref (ad 256)) hx hb hts (fun w h => mT (inX11 w h)) hown hG.1 hP (hst.1 255 (by decide)) hf40 rfl 1 (by decide) (hts _ (mT wg_1337)) (fun _ h => h) rfl dX11_brings_23 ?_
          refine lv_aload_n hx hb dX11_brings_26 rfl (lv_at hl 2 rfl) ?_
          refine pl_get (v := .int v2_39) hx hb hts (fun w h => mT (inX11 w h)) hown hG.1 hP (hst.1 255 (by decide)) hf40 rfl 2 (by decide) (hts _ (mT wg_1338)) (fun _ h => h) rfl dX11_brings_27 ?_
          refine lv_iload_n hx hb dX11_brings_30 rfl (lv_at hl 0 rfl) ?_
          refine lv_i2b hx hb dX11_brings_31 rfl ?_
          refine lv_topi (fun x41 ex41 => ?_)
          have hby42 : b1 z1 24 = 1 := b1_1 (by rw [show byS z1 24 = x5 by rw [ex5, ex4]; rfl]; exact c7)
          have hby43 : b1 z1 16 = 1 := b1_1 (by rw [show byS z1 16 = x34 by rw [ex34, ex33]; rfl]; exact c36)
          refine pl_bastE hx hb hG.1 hP hD hS (hst.1 256 (by decide)) 2 hf29 rfl (vp_of (by obtain ⟨o0a, o0b⟩ := (hv2_39 : In _ _ _); obtain ⟨o1a, o1b⟩ := (hv3_39 : In _ _ _); obtain ⟨o2a, o2b⟩ := (hv4_39 : In _ _ _); obtain ⟨o3a, o3b⟩ := (hv5_39 : In _ _ _); obtain ⟨o4a, o4b⟩ := (hv6_39 : In _ _ _); obtain ⟨o5a, o5b⟩ := (hv8_39 : In _ _ _); obtain ⟨o6a, o6b⟩ := (hv9_39 : In _ _ _); obtain ⟨o7a, o7b⟩ := (hv13_39 : In _ _ _); obtain ⟨o8a, o8b⟩ := (hv14_39 : In _ _ _); obtain ⟨o9a, o9b⟩ := (hv15_39 : In _ _ _); obtain ⟨o10a, o10b⟩ := (hv17_39 : In _ _ _); obtain ⟨o11a, o11b⟩ := (hv20_39 : In _ _ _); obtain ⟨o12a, o12b⟩ := (hv23_39 : In _ _ _); obtain ⟨o13a, o13b⟩ := (hv36_39 : In _ _ _); obtain ⟨o14a, o14b⟩ := (hv47_39 : In _ _ _); obtain ⟨o15a, o15b⟩ := (hv48_39 : In _ _ _); obtain ⟨o16a, o16b⟩ := (hv53_39 : In _ _ _); obtain ⟨o17a, o17b⟩ := (hv55_39 : In _ _ _); omega) (by obtain ⟨o0a, o0b⟩ := (hv2_39 : In _ _ _); obtain ⟨o1a, o1b⟩ := (hv3_39 : In _ _ _); obtain ⟨o2a, o2b⟩ := (hv4_39 : In _ _ _); obtain ⟨o3a, o3b⟩ := (hv5_39 : In _ _ _); obtain ⟨o4a, o4b⟩ := (hv6_39 : In _ _ _); obtain ⟨o5a, o5b⟩ := (hv8_39 : In _ _ _); obtain ⟨o6a, o6b⟩ := (hv9_39 : In _ _ _); obtain ⟨o7a, o7b⟩ := (hv13_39 : In _ _ _); obtain ⟨o8a, o8b⟩ := (hv14_39 : In _ _ _); obtain ⟨o9a, o9b⟩ := (hv15_39 : In _ _ _); obtain ⟨o10a, o10b⟩ := (hv17_39 : In _ _ _); obtain ⟨o11a, o11b⟩ := (hv20_39 : In _ _ _); obtain ⟨o12a, o12b⟩ := (hv23_39 : In _ _ _); obtain ⟨o13a, o13b⟩ := (hv36_39 : In _ _ _); obtain ⟨o14a, o14b⟩ := (hv47_39 : In _ _ _); obtain ⟨o15a, o15b⟩ := (hv48_39 : In _ _ _); obtain ⟨o16a, o16b⟩ := (hv53_39 : In _ _ _); obtain ⟨o17a, o17b⟩ := (hv55_39 : In _ _ _); omega)) dX11_brings_32 (fun H locs f44 r47 er47 hf45 ho46 hP hD hS => ?_)
          have hc48 : ∀ i : Nat, i < 500 → In (r47 i) (-128) 127 := cont_upd er47 hc21 (nar_byte _)
          have hf49 := (ho46 (ad 255) (hst.ne (by decide) (by decide) (by decide))).trans hf40
          have hfr : (∀ b, b ≠ (ad 255) → b ≠ (ad 256) → f44 b = f b) := fun b z0_ z1_ => (ho46 b z1_).trans (hfr b z0_ z1_)
          refine lv_aload_n hx hb dX11_brings_33 rfl (lv_at hl 2 rfl) ?_
          refine lv_dup hx hb dX11_brings_34 rfl ?_
          refine pl_get (v := .int v2_39) hx hb hts (fun w h => mT (inX11 w h)) hown hG.1 hP (hst.1 255 (by decide)) hf49 rfl 2 (by decide) (hts _ (mT wg_1338)) (fun _ h => h) rfl dX11_brings_35 ?_
          refine lv_iconst (v := 1) hx hb dX11_brings_38 (by decide) ?_
          refine lv_iadd hx hb dX11_brings_39 ?_
          refine lv_topi (fun x50 ex50 => ?_)
          have hb51 : In x50 1 501 := ex50 ▸ In.add hv2_39 (⟨by decide, by decide⟩ : In 1 1 1) (by decide) (by decide) (by decide) (by decide)
          have et52 : x50.toInt = v2_39.toInt + 1 := In.adde ex50 hv2_39 (k := 1) (by decide) (by decide) (by decide)
          have hT := TI.updM hT hst (k := 1) (by decide) hf45 ho46 ⟨r47, rfl, hc48⟩
          refine pl_put (ty := .int) (v := .int x50) (fs' := [.int v0_39, .ref (ad 256), .int x50, .int v3_39, .int v4_39, .int v5_39, .int v6_39, .ref (ad 257), .int v8_39, .int v9_39, .ref (ad 258), .ref (ad 259), .int v12_39, .int v13_39, .int v14_39, .int v15_39, .int v16_39, .int v17_39, .int v18_39, .int v19_39, .int v20_39, .long v21_39, .long v22_39, .int v23_39, .ref (ad 260), .int v25_39, .ref (ad 261), .ref (ad 262), .ref (ad 263), .ref (ad 264), .ref (ad 265), .ref (ad 266), .ref (ad 267), .ref (ad 268), .ref (ad 269), .ref (ad 270), .int v36_39, .int v37_39, .int v38_39, .int v39_39, .int v40_39, .ref (ad 271), .ref (ad 272), .ref (ad 273), .ref (ad 274), .long v45_39, .long v46_39, .int v47_39, .int v48_39, .ref (ad 275), .int v50_39, .int v51_39, .ref (ad 276), .int v53_39, .ref (ad 277), .int v55_39]) hx hb hts (fun w h => mT (inX11 w h)) tyX11 tyX11_ok nmX11 hown hG.1 hP hD hS (hst.1 255 (by decide)) hf49 rfl 2 (by decide) (hts _ (mT wg_1338)) (fun _ h => h) rfl (by decide +kernel) (rfl) (rfl) (Nat.le_of_ble_eq_true rfl) rfl dX11_brings_40 (fun H locs f53 hf54 ho55 hP hD hS => ?_)
          have hf56 := (ho55 (ad 256) (hst.ne (by decide) (by decide) (by decide))).trans hf45
          have hfr : (∀ b, b ≠ (ad 255) → b ≠ (ad 256) → f53 b = f b) := fun b z0_ z1_ => (ho55 b z0_).trans (hfr b z0_ z1_)
          refine lv_iinc (v := 8) (lv' := [(2, .int 8), (3, .int x34), (0, .ref (ad 255)), (1, .int z1)]) hx hb dX11_brings_43 hl (k := 1) rfl (by decide) (by decide) rfl (fun ls hl => ?_)
          have hT := TI.updMG (th' := (gset (gset th 13 x23.toInt) 13 (x50.toInt))) hT hst (k := 0) (by decide) hf54 ho55 ⟨v0_39, x50, v3_39, v4_39, v5_39, v6_39, v8_39, v9_39, v12_39, v13_39, v14_39, v15_39, v16_39, v17_39, v18_39, v19_39, v20_39, v21_39, v22_39, v23_39, v25_39, v36_39, v37_39, v38_39, v39_39, v40_39, v45_39, v46_39, v47_39, v48_39, v50_39, v51_39, v53_39, v55_39, rfl, hv0_39, (In.mk (by obtain ⟨o0a, o0b⟩ := (hb51 : In _ _ _); obtain ⟨o1a, o1b⟩ := (hv3_39 : In _ _ _); obtain ⟨o2a, o2b⟩ := (hv4_39 : In _ _ _); obtain ⟨o3a, o3b⟩ := (hv5_39 : In _ _ _); obtain ⟨o4a, o4b⟩ := (hv6_39 : In _ _ _); obtain ⟨o5a, o5b⟩ := (hv8_39 : In _ _ _); obtain ⟨o6a, o6b⟩ := (hv9_39 : In _ _ _); obtain ⟨o7a, o7b⟩ := (hv13_39 : In _ _ _); obtain ⟨o8a, o8b⟩ := (hv14_39 : In _ _ _); obtain ⟨o9a, o9b⟩ := (hv15_39 : In _ _ _); obtain ⟨o10a, o10b⟩ := (hv17_39 : In _ _ _); obtain ⟨o11a, o11b⟩ := (hv20_39 : In _ _ _); obtain ⟨o12a, o12b⟩ := (hv23_39 : In _ _ _); obtain ⟨o13a, o13b⟩ := (hv36_39 : In _ _ _); obtain ⟨o14a, o14b⟩ := (hv47_39 : In _ _ _); obtain ⟨o15a, o15b⟩ := (hv48_39 : In _ _ _); obtain ⟨o16a, o16b⟩ := (hv53_39 : In _ _ _); obtain ⟨o17a, o17b⟩ := (hv55_39 : In _ _ _); obtain ⟨o18a, o18b⟩ := (hv2_39 : In _ _ _); omega) (by obtain ⟨o0a, o0b⟩ := (hb51 : In _ _ _); obtain ⟨o1a, o1b⟩ := (hv3_39 : In _ _ _); obtain ⟨o2a, o2b⟩ := (hv4_39 : In _ _ _); obtain ⟨o3a, o3b⟩ := (hv5_39 : In _ _ _); obtain ⟨o4a, o4b⟩ := (hv6_39 : In _ _ _); obtain ⟨o5a, o5b⟩ := (hv8_39 : In _ _ _); obtain ⟨o6a, o6b⟩ := (hv9_39 : In _ _ _); obtain ⟨o7a, o7b⟩ := (hv13_39 : In _ _ _); obtain ⟨o8a, o8b⟩ := (hv14_39 : In _ _ _); obtain ⟨o9a, o9b⟩ := (hv15_39 : In _ _ _); obtain ⟨o10a, o10b⟩ := (hv17_39 : In _ _ _); obtain ⟨o11a, o11b⟩ := (hv20_39 : In _ _ _); obtain ⟨o12a, o12b⟩ := (hv23_39 : In _ _ _); obtain ⟨o13a, o13b⟩ := (hv36_39 : In _ _ _); obtain ⟨o14a, o14b⟩ := (hv47_39 : In _ _ _); obtain ⟨o15a, o15b⟩ := (hv48_39 : In _ _ _); obtain ⟨o16a, o16b⟩ := (hv53_39 : In _ _ _); obtain ⟨o17a, o17b⟩ := (hv55_39 : In _ _ _); obtain ⟨o18a, o18b⟩ := (hv2_39 : In _ _ _); omega)), (by simp [gset]), hv3_39, (by rw [hg3_39]; simp [gset]), hv4_39, (by rw [hg4_39]; simp [gset]), hv5_39, (by rw [hg5_39]; simp [gset]), hv6_39, (by rw [hg6_39]; simp [gset]), hv8_39, (by rw [hg8_39]; simp [gset]), hv9_39, (by rw [hg9_39]; simp [gset]), hv12_39, hv13_39, (by rw [hg13_39]; simp [gset]), hv14_39, (by rw [hg14_39]; simp [gset]), hv15_39, (by rw [hg15_39]; simp [gset]), hv17_39, (by rw [hg17_39]; simp [gset]), hv20_39, (by rw [hg20_39]; simp [gset]), hv23_39, (by rw [hg23_39]; simp [gset]), hv25_39, hv36_39, (by rw [hg36_39]; simp [gset]), hv47_39, (by rw [hg47_39]; simp [gset]), hv48_39, (by rw [hg48_39]; simp [gset]), hv53_39, (by rw [hg53_39]; simp [gset]), hv55_39, (by rw [hg55_39]; simp [gset]), hrel0_39⟩ (fun q hq => ((gset_ne (fun e => hq (by subst e; decide))).trans rfl))
          have hT : TI g ad (gset th 13 x50.toInt) f53 := TI.cast hT (by funext q; simp only [gset]; (repeat' split); all_goals first | rfl | omega | (subst_vars; rfl) | (exfalso; omega))
          refine lv_goto (tgt := 3) hx hb dX11_brings_46 (by decide) ?_
          refine lv_iload_n hx hb dX11_brings_3 rfl (lv_at hl 0 rfl) ?_
          refine lv_if_lt (tgt := 49) hx hb dX11_brings_4 (by decide) (fun c57 => ?_) (fun c57 => ?_)
          ·
            have oc8 : (8 : Int32).toInt = 8 := by decide
            have oc0 : (0 : Int32).toInt = 0 := by decide
            have cc58 : (8 : Int32).toInt < (0 : Int32).toInt := i32_lt.mp c57
            exact In.empty (lo := 8) (hi := (-1)) (In.lt1 (⟨by decide, by decide⟩ : In 8 8 8) (⟨by decide, by decide⟩ : In 0 0 0) cc58 (by omega) (by omega)) (by decide)
          ·
            have oc8 : (8 : Int32).toInt = 8 := by decide
            have oc0 : (0 : Int32).toInt = 0 := by decide
            have cc59 : (0 : Int32).toInt ≤ (8 : Int32).toInt := i32_nlt c57
            refine lv_iload_n hx hb dX11_brings_7 rfl (lv_at hl 3 rfl) ?_
            refine lv_iload_n hx hb dX11_brings_8 rfl (lv_at hl 0 rfl) ?_
            refine lv_ishr hx hb dX11_brings_9 ?_
            refine lv_topi (fun x60 ex60 => ?_)
            refine lv_sipush (v := 255) hx hb dX11_brings_10 (by decide) ?_
            refine lv_iand hx hb dX11_brings_13 ?_
            refine lv_topi (fun x61 ex61 => ?_)
            have hb62 : In x61 0 255 := ex61 ▸ In.andr (⟨by decide, by decide⟩ : In 255 255 255) (by decide)
            refine lv_istore_n (lv' := [(3, .int x61), (2, .int 8), (0, .ref (ad 255)), (1, .int z1)]) hx hb dX11_brings_14 rfl hl (by decide) rfl (fun ls hl => ?_)
            refine lv_iload_n hx hb dX11_brings_15 rfl (lv_at hl 0 rfl) ?_
            refine lv_if_ne (tgt := 22) hx hb dX11_brings_16 (by decide) (fun c63 => ?_) (fun c63 => ?_)
            ·
              have oc0 : (0 : Int32).toInt = 0 := by decide
              have cc64 : x61.toInt ≠ (0 : Int32).toInt := i32_ne c63
              have hb65 : In x61 1 255 := In.ne1 hb62 (⟨by decide, by decide⟩ : In 0 0 0) cc64 (by omega) (by omega)
              refine lv_aload_n hx hb dX11_brings_22 rfl (lv_at hl 2 rfl) ?_
              obtain ⟨v0_66, v2_66, v3_66, v4_66, v5_66, v6_66, v8_66, v9_66, v12_66, v13_66, v14_66, v15_66, v16_66, v17_66, v18_66, v19_66, v20_66, v21_66, v22_66, v23_66, v25_66, v36_66, v37_66, v38_66, v39_66, v40_66, v45_66, v46_66, v47_66, v48_66, v50_66, v51_66, v53_66, v55_66, hf67, hv0_66, hv2_66, hg2_66, hv3_66, hg3_66, hv4_66, hg4_66, hv5_66, hg5_66, hv6_66, hg6_66, hv8_66, hg8_66, hv9_66, hg9_66, hv12_66, hv13_66, hg13_66, hv14_66, hg14_66, hv15_66, hg15_66, hv17_66, hg17_66, hv20_66, hg20_66, hv23_66, hg23_66, hv25_66, hv36_66, hg36_66, hv47_66, hg47_66, hv48_66, hg48_66, hv53_66, hg53_66, hv55_66, hg55_66, hrel0_66⟩ := hT.2.2 0 (by decide)
              have hg2_66 : v2_66.toInt = x50.toInt := hg2_66
              have hg3_66 : v3_66.toInt = th 37 := hg3_66
              have hg4_66 : v4_66.toInt = th 42 := hg4_66
              have hg5_66 : v5_66.toInt = th 40 := hg5_66
              have hg6_66 : v6_66.toInt = th 41 := hg6_66
              have hg8_66 : v8_66.toInt = th 43 := hg8_66
              have hg9_66 : v9_66.toInt = th 35 := hg9_66
              have hg13_66 : v13_66.toInt = th 36 := hg13_66
              have hg14_66 : v14_66.toInt = th 10 := hg14_66
              have hg15_66 : v15_66.toInt = th 11 := hg15_66
              have hg17_66 : v17_66.toInt = th 12 := hg17_66
              have hg20_66 : v20_66.toInt = th 14 := hg20_66
              have hg23_66 : v23_66.toInt = th 15 := hg23_66
              have hg36_66 : v36_66.toInt = th 18 := hg36_66
              have hg47_66 : v47_66.toInt = th 16 := hg47_66
              have hg48_66 : v48_66.toInt = th 17 := hg48_66
              have hg53_66 : v53_66.toInt = th 38 := hg53_66
              have hg55_66 : v55_66.toInt = th 39 := hg55_66
              refine pl_get (v := .ref (ad 256)) hx hb hts (fun w h => mT (inX11 w h)) hown hG.1 hP (hst.1 255 (by decide)) hf67 rfl 1 (by decide) (hts _ (mT wg_1337)) (fun _ h => h) rfl dX11_brings_23 ?_
              refine lv_aload_n hx hb dX11_brings_26 rfl (lv_at hl 2 rfl) ?_
              refine pl_get (v := .int v2_66) hx hb hts (fun w h => mT (inX11 w h)) hown hG.1 hP (hst.1 255 (by decide)) hf67 rfl 2 (by decide) (hts _ (mT wg_1338)) (fun _ h => h) rfl dX11_brings_27 ?_
              refine lv_iload_n hx hb dX11_brings_30 rfl (lv_at hl 0 rfl) ?_
              refine lv_i2b hx hb dX11_brings_31 rfl ?_
              refine lv_topi (fun x68 ex68 => ?_)
              have hby69 : b1 z1 24 = 1 := b1_1 (by rw [show byS z1 24 = x5 by rw [ex5, ex4]; rfl]; exact c7)
              have hby70 : b1 z1 16 = 1 := b1_1 (by rw [show byS z1 16 = x34 by rw [ex34, ex33]; rfl]; exact c36)
              have hby71 : b1 z1 8 = 1 := b1_1 (by rw [show byS z1 8 = x61 by rw [ex61, ex60]; rfl]; exact c63)
              refine pl_bastE hx hb hG.1 hP hD hS (hst.1 256 (by decide)) 2 hf56 rfl (vp_of (by obtain ⟨o0a, o0b⟩ := (hv2_66 : In _ _ _); obtain ⟨o1a, o1b⟩ := (hv3_66 : In _ _ _); obtain ⟨o2a, o2b⟩ := (hv4_66 : In _ _ _); obtain ⟨o3a, o3b⟩ := (hv5_66 : In _ _ _); obtain ⟨o4a, o4b⟩ := (hv6_66 : In _ _ _); obtain ⟨o5a, o5b⟩ := (hv8_66 : In _ _ _); obtain ⟨o6a, o6b⟩ := (hv9_66 : In _ _ _); obtain ⟨o7a, o7b⟩ := (hv13_66 : In _ _ _); obtain ⟨o8a, o8b⟩ := (hv14_66 : In _ _ _); obtain ⟨o9a, o9b⟩ := (hv15_66 : In _ _ _); obtain ⟨o10a, o10b⟩ := (hv17_66 : In _ _ _); obtain ⟨o11a, o11b⟩ := (hv20_66 : In _ _ _); obtain ⟨o12a, o12b⟩ := (hv23_66 : In _ _ _); obtain ⟨o13a, o13b⟩ := (hv36_66 : In _ _ _); obtain ⟨o14a, o14b⟩ := (hv47_66 : In _ _ _); obtain ⟨o15a, o15b⟩ := (hv48_66 : In _ _ _); obtain ⟨o16a, o16b⟩ := (hv53_66 : In _ _ _); obtain ⟨o17a, o17b⟩ := (hv55_66 : In _ _ _); omega) (by obtain ⟨o0a, o0b⟩ := (hv2_66 : In _ _ _); obtain ⟨o1a, o1b⟩ := (hv3_66 : In _ _ _); obtain ⟨o2a, o2b⟩ := (hv4_66 : In _ _ _); obtain ⟨o3a, o3b⟩ := (hv5_66 : In _ _ _); obtain ⟨o4a, o4b⟩ := (hv6_66 : In _ _ _); obtain ⟨o5a, o5b⟩ := (hv8_66 : In _ _ _); obtain ⟨o6a, o6b⟩ := (hv9_66 : In _ _ _); obtain ⟨o7a, o7b⟩ := (hv13_66 : In _ _ _); obtain ⟨o8a, o8b⟩ := (hv14_66 : In _ _ _); obtain ⟨o9a, o9b⟩ := (hv15_66 : In _ _ _); obtain ⟨o10a, o10b⟩ := (hv17_66 : In _ _ _); obtain ⟨o11a, o11b⟩ := (hv20_66 : In _ _ _); obtain ⟨o12a, o12b⟩ := (hv23_66 : In _ _ _); obtain ⟨o13a, o13b⟩ := (hv36_66 : In _ _ _); obtain ⟨o14a, o14b⟩ := (hv47_66 : In _ _ _); obtain ⟨o15a, o15b⟩ := (hv48_66 : In _ _ _); obtain ⟨o16a, o16b⟩ := (hv53_66 : In _ _ _); obtain ⟨o17a, o17b⟩ := (hv55_66 : In _ _ _); omega)) dX11_brings_32 (fun H locs f72 r75 er75 hf73 ho74 hP hD hS => ?_)
              have hc76 : ∀ i : Nat, i < 500 → In (r75 i) (-128) 127 := cont_upd er75 hc48 (nar_byte _)
              have hf77 := (ho74 (ad 255) (hst.ne (by decide) (by decide) (by decide))).trans hf67
              have hfr : (∀ b, b ≠ (ad 255) → b ≠ (ad 256) → f72 b = f b) := fun b z0_ z1_ => (ho74 b z1_).trans (hfr b z0_ z1_)
              refine lv_aload_n hx hb dX11_brings_33 rfl (lv_at hl 2 rfl) ?_
              refine lv_dup hx hb dX11_brings_34 rfl ?_
              refine pl_get (v := .int v2_66) hx hb hts (fun w h => mT (inX11 w h)) hown hG.1 hP (hst.1 255 (by decide)) hf77 rfl 2 (by decide) (hts _ (mT wg_1338)) (fun _ h => h) rfl dX11_brings_35 ?_
              refine lv_iconst (v := 1) hx hb dX11_brings_38 (by decide) ?_
              refine lv_iadd hx hb dX11_brings_39 ?_
              refine lv_topi (fun x78 ex78 => ?_)
              have hb79 : In x78 1 501 := ex78 ▸ In.add hv2_66 (⟨by decide, by decide⟩ : In 1 1 1) (by decide) (by decide) (by decide) (by decide)
              have et80 : x78.toInt = v2_66.toInt + 1 := In.adde ex78 hv2_66 (k := 1) (by decide) (by decide) (by decide)
              have hT := TI.updM hT hst (k := 1) (by decide) hf73 ho74 ⟨r75, rfl, hc76⟩
              refine pl_put (ty := .int) (v := .int x78) (fs' := [.int v0_66, .ref (ad 256), .int x78, .int v3_66, .int v4_66, .int v5_66, .int v6_66, .ref (ad 257), .int v8_66, .int v9_66, .ref (ad 258), .ref (ad 259), .int v12_66, .int v13_66, .int v14_66, .int v15_66, .int v16_66, .int v17_66, .int v18_66, .int v19_66, .int v20_66, .long v21_66, .long v22_66, .int v23_66, .ref (ad 260), .int v25_66, .ref (ad 261), .ref (ad 262), .ref (ad 263), .ref (ad 264), .ref (ad 265), .ref (ad 266), .ref (ad 267), .ref (ad 268), .ref (ad 269), .ref (ad 270), .int v36_66, .int v37_66, .int v38_66, .int v39_66, .int v40_66, .ref (ad 271), .ref (ad 272), .ref (ad 273), .ref (ad 274), .long v45_66, .long v46_66, .int v47_66, .int v48_66, .ref (ad 275), .int v50_66, .int v51_66, .ref (ad 276), .int v53_66, .ref (ad 277), .int v55_66]) hx hb hts (fun w h => mT (inX11 w h)) tyX11 tyX11_ok nmX11 hown hG.1 hP hD hS (hst.1 255 (by decide)) hf77 rfl 2 (by decide) (hts _ (mT wg_1338)) (fun _ h => h) rfl (by decide +kernel) (rfl) (rfl) (Nat.le_of_ble_eq_true rfl) rfl dX11_brings_40 (fun H locs f81 hf82 ho83 hP hD hS => ?_)
              have hf84 := (ho83 (ad 256) (hst.ne (by decide) (by decide) (by decide))).trans hf73
              have hfr : (∀ b, b ≠ (ad 255) → b ≠ (ad 256) → f81 b = f b) := fun b z0_ z1_ => (ho83 b z0_).trans (hfr b z0_ z1_)
              refine lv_iinc (v := 0) (lv' := [(2, .int 0), (3, .int x61), (0, .ref (ad 255)), (1, .int z1)]) hx hb dX11_brings_43 hl (k := 1) rfl (by decide) (by decide) rfl (fun ls hl => ?_)
              have hT := TI.updMG (th' := (gset (gset th 13 x50.toInt) 13 (x78.toInt))) hT hst (k := 0) (by decide) hf82 ho83 ⟨v0_66, x78, v3_66, v4_66, v5_66, v6_66, v8_66, v9_66, v12_66, v13_66, v14_66, v15_66, v16_66, v17_66, v18_66, v19_66, v20_66, v21_66, v22_66, v23_66, v25_66, v36_66, v37_66, v38_66, v39_66, v40_66, v45_66, v46_66, v47_66, v48_66, v50_66, v51_66, v53_66, v55_66, rfl, hv0_66, (In.mk (by obtain ⟨o0a, o0b⟩ := (hb79 : In _ _ _); obtain ⟨o1a, o1b⟩ := (hv3_66 : In _ _ _); obtain ⟨o2a, o2b⟩ := (hv4_66 : In _ _ _); obtain ⟨o3a, o3b⟩ := (hv5_66 : In _ _ _); obtain ⟨o4a, o4b⟩ := (hv6_66 : In _ _ _); obtain ⟨o5a, o5b⟩ := (hv8_66 : In _ _ _); obtain ⟨o6a, o6b⟩ := (hv9_66 : In _ _ _); obtain ⟨o7a, o7b⟩ := (hv13_66 : In _ _ _); obtain ⟨o8a, o8b⟩ := (hv14_66 : In _ _ _); obtain ⟨o9a, o9b⟩ := (hv15_66 : In _ _ _); obtain ⟨o10a, o10b⟩ := (hv17_66 : In _ _ _); obtain ⟨o11a, o11b⟩ := (hv20_66 : In _ _ _); obtain ⟨o12a, o12b⟩ := (hv23_66 : In _ _ _); obtain ⟨o13a, o13b⟩ := (hv36_66 : In _ _ _); obtain ⟨o14a, o14b⟩ := (hv47_66 : In _ _ _); obtain ⟨o15a, o15b⟩ := (hv48_66 : In _ _ _); obtain ⟨o16a, o16b⟩ := (hv53_66 : In _ _ _); obtain ⟨o17a, o17b⟩ := (hv55_66 : In _ _ _); obtain ⟨o18a, o18b⟩ := (hv2_66 : In _ _ _); omega) (by obtain ⟨o0a, o0b⟩ := (hb79 : In _ _ _); obtain ⟨o1a, o1b⟩ := (hv3_66 : In _ _ _); obtain ⟨o2a, o2b⟩ := (hv4_66 : In _ _ _); obtain ⟨o3a, o3b⟩ := (hv5_66 : In _ _ _); obtain ⟨o4a, o4b⟩ := (hv6_66 : In _ _ _); obtain ⟨o5a, o5b⟩ := (hv8_66 : In _ _ _); obtain ⟨o6a, o6b⟩ := (hv9_66 : In _ _ _); obtain ⟨o7a, o7b⟩ := (hv13_66 : In _ _ _); obtain ⟨o8a, o8b⟩ := (hv14_66 : In _ _ _); obtain ⟨o9a, o9b⟩ := (hv15_66 : In _ _ _); obtain ⟨o10a, o10b⟩ := (hv17_66 : In _ _ _); obtain ⟨o11a, o11b⟩ := (hv20_66 : In _ _ _); obtain ⟨o12a, o12b⟩ := (hv23_66 : In _ _ _); obtain ⟨o13a, o13b⟩ := (hv36_66 : In _ _ _); obtain ⟨o14a, o14b⟩ := (hv47_66 : In _ _ _); obtain ⟨o15a, o15b⟩ := (hv48_66 : In _ _ _); obtain ⟨o16a, o16b⟩ := (hv53_66 : In _ _ _); obtain ⟨o17a, o17b⟩ := (hv55_66 : In _ _ _); obtain ⟨o18a, o18b⟩ := (hv2_66 : In _ _ _); omega)), (by simp [gset]), hv3_66, (by rw [hg3_66]; simp [gset]), hv4_66, (by rw [hg4_66]; simp [gset]), hv5_66, (by rw [hg5_66]; simp [gset]), hv6_66, (by rw [hg6_66]; simp [gset]), hv8_66, (by rw [hg8_66]; simp [gset]), hv9_66, (by rw [hg9_66]; simp [gset]), hv12_66, hv13_66, (by rw [hg13_66]; simp [gset]), hv14_66, (by rw [hg14_66]; simp [gset]), hv15_66, (by rw [hg15_66]; simp [gset]), hv17_66, (by rw [hg17_66]; simp [gset]), hv20_66, (by rw [hg20_66]; simp [gset]), hv23_66, (by rw [hg23_66]; simp [gset]), hv25_66, hv36_66, (by rw [hg36_66]; simp [gset]), hv47_66, (by rw [hg47_66]; simp [gset]), hv48_66, (by rw [hg48_66]; simp [gset]), hv53_66, (by rw [hg53_66]; simp [gset]), hv55_66, (by rw [hg55_66]; simp [gset]), hrel0_66⟩ (fun q hq => ((gset_ne (fun e => hq (by subst e; decide))).trans rfl))
              have hT : TI g ad (gset th 13 x78.toInt) f81 := TI.cast hT (by funext q; simp only [gset]; (repeat' split); all_goals first | rfl | omega | (subst_vars; rfl) | (exfalso; omega))
              refine lv_goto (tgt := 3) hx hb dX11_brings_46 (by decide) ?_
              refine lv_iload_n hx hb dX11_brings_3 rfl (lv_at hl 0 rfl) ?_
              refine lv_if_lt (tgt := 49) hx hb dX11_brings_4 (by decide) (fun c85 => ?_) (fun c85 => ?_)
              ·
                have oc0 : (0 : Int32).toInt = 0 := by decide
                have oc0 : (0 : Int32).toInt = 0 := by decide
                have cc86 : (0 : Int32).toInt < (0 : Int32).toInt := i32_lt.mp c85
                exact In.empty (lo := 0) (hi := (-1)) (In.lt1 (⟨by decide, by decide⟩ : In 0 0 0) (⟨by decide, by decide⟩ : In 0 0 0) cc86 (by omega) (by omega)) (by decide)
              ·
                have oc0 : (0 : Int32).toInt = 0 := by decide
                have oc0 : (0 : Int32).toInt = 0 := by decide
                have cc87 : (0 : Int32).toInt ≤ (0 : Int32).toInt := i32_nlt c85
                refine lv_iload_n hx hb dX11_brings_7 rfl (lv_at hl 3 rfl) ?_
                refine lv_iload_n hx hb dX11_brings_8 rfl (lv_at hl 0 rfl) ?_
                refine lv_ishr hx hb dX11_brings_9 ?_
                refine lv_topi (fun x88 ex88 => ?_)
                refine lv_sipush (v := 255) hx hb dX11_brings_10 (by decide) ?_
                refine lv_iand hx hb dX11_brings_13 ?_
                refine lv_topi (fun x89 ex89 => ?_)
                have hb90 : In x89 0 255 := ex89 ▸ In.andr (⟨by decide, by decide⟩ : In 255 255 255) (by decide)
                refine lv_istore_n (lv' := [(3, .int x89), (2, .int 0), (0, .ref (ad 255)), (1, .int z1)]) hx hb dX11_brings_14 rfl hl (by decide) rfl (fun ls hl => ?_)
                refine lv_iload_n hx hb dX11_brings_15 rfl (lv_at hl 0 rfl) ?_
                refine lv_if_ne (tgt := 22) hx hb dX11_brings_16 (by decide) (fun c91 => ?_) (fun c91 => ?_)
                ·
                  have oc0 : (0 : Int32).toInt = 0 := by decide
                  have cc92 : x89.toInt ≠ (0 : Int32).toInt := i32_ne c91
                  have hb93 : In x89 1 255 := In.ne1 hb90 (⟨by decide, by decide⟩ : In 0 0 0) cc92 (by omega) (by omega)
                  refine lv_aload_n hx hb dX11_brings_22 rfl (lv_at hl 2 rfl) ?_
                  obtain ⟨v0_94, v2_94, v3_94, v4_94, v5_94, v6_94, v8_94, v9_94, v12_94, v13_94, v14_94, v15_94, v16_94, v17_94, v18_94, v19_94, v20_94, v21_94, v22_94, v23_94, v25_94, v36_94, v37_94, v38_94, v39_94, v40_94, v45_94, v46_94, v47_94, v48_94, v50_94, v51_94, v53_94, v55_94, hf95, hv0_94, hv2_94, hg2_94, hv3_94, hg3_94, hv4_94, hg4_94, hv5_94, hg5_94, hv6_94, hg6_94, hv8_94, hg8_94, hv9_94, hg9_94, hv12_94, hv13_94, hg13_94, hv14_94, hg14_94, hv15_94, hg15_94, hv17_94, hg17_94, hv20_94, hg20_94, hv23_94, hg23_94, hv25_94, hv36_94, hg36_94, hv47_94, hg47_94, hv48_94, hg48_94, hv53_94, hg53_94, hv55_94, hg55_94, hrel0_94⟩ := hT.2.2 0 (by decide)
                  have hg2_94 : v2_94.toInt = x78.toInt := hg2_94
                  have hg3_94 : v3_94.toInt = th 37 := hg3_94
                  have hg4_94 : v4_94.toInt = th 42 := hg4_94
                  have hg5_94 : v5_94.toInt = th 40 := hg5_94
                  have hg6_94 : v6_94.toInt = th 41 := hg6_94
                  have hg8_94 : v8_94.toInt = th 43 := hg8_94
                  have hg9_94 : v9_94.toInt = th 35 := hg9_94
                  have hg13_94 : v13_94.toInt = th 36 := hg13_94
                  have hg14_94 : v14_94.toInt = th 10 := hg14_94
                  have hg15_94 : v15_94.toInt = th 11 := hg15_94
                  have hg17_94 : v17_94.toInt = th 12 := hg17_94
                  have hg20_94 : v20_94.toInt = th 14 := hg20_94
                  have hg23_94 : v23_94.toInt = th 15 := hg23_94
                  have hg36_94 : v36_94.toInt = th 18 := hg36_94
                  have hg47_94 : v47_94.toInt = th 16 := hg47_94
                  have hg48_94 : v48_94.toInt = th 17 := hg48_94
                  have hg53_94 : v53_94.toInt = th 38 := hg53_94
                  have hg55_94 : v55_94.toInt = th 39 := hg55_94
                  refine pl_get (v := .ref (ad 256)) hx hb hts (fun w h => mT (inX11 w h)) hown hG.1 hP (hst.1 255 (by decide)) hf95 rfl 1 (by decide) (hts _ (mT wg_1337)) (fun _ h => h) rfl dX11_brings_23 ?_
                  refine lv_aload_n hx hb dX11_brings_26 rfl (lv_at hl 2 rfl) ?_
                  refine pl_get (v := .int v2_94) hx hb hts (fun w h => mT (inX11 w h)) hown hG.1 hP (hst.1 255 (by decide)) hf95 rfl 2 (by decide) (hts _ (mT wg_1338)) (fun _ h => h) rfl dX11_brings_27 ?_
                  refine lv_iload_n hx hb dX11_brings_30 rfl (lv_at hl 0 rfl) ?_
                  refine lv_i2b hx hb dX11_brings_31 rfl ?_
                  refine lv_topi (fun x96 ex96 => ?_)
                  have hby97 : b1 z1 24 = 1 := b1_1 (by rw [show byS z1 24 = x5 by rw [ex5, ex4]; rfl]; exact c7)
                  have hby98 : b1 z1 16 = 1 := b1_1 (by rw [show byS z1 16 = x34 by rw [ex34, ex33]; rfl]; exact c36)
                  have hby99 : b1 z1 8 = 1 := b1_1 (by rw [show byS z1 8 = x61 by rw [ex61, ex60]; rfl]; exact c63)
                  have hby100 : b1 z1 0 = 1 := b1_1 (by rw [show byS z1 0 = x89 by rw [ex89, ex88]; rfl]; exact c91)
                  refine pl_bastE hx hb hG.1 hP hD hS (hst.1 256 (by decide)) 2 hf84 rfl (vp_of (by obtain ⟨o0a, o0b⟩ := (hv2_94 : In _ _ _); obtain ⟨o1a, o1b⟩ := (hv3_94 : In _ _ _); obtain ⟨o2a, o2b⟩ := (hv4_94 : In _ _ _); obtain ⟨o3a, o3b⟩ := (hv5_94 : In _ _ _); obtain ⟨o4a, o4b⟩ := (hv6_94 : In _ _ _); obtain ⟨o5a, o5b⟩ := (hv8_94 : In _ _ _); obtain ⟨o6a, o6b⟩ := (hv9_94 : In _ _ _); obtain ⟨o7a, o7b⟩ := (hv13_94 : In _ _ _); obtain ⟨o8a, o8b⟩ := (hv14_94 : In _ _ _); obtain ⟨o9a, o9b⟩ := (hv15_94 : In _ _ _); obtain ⟨o10a, o10b⟩ := (hv17_94 : In _ _ _); obtain ⟨o11a, o11b⟩ := (hv20_94 : In _ _ _); obtain ⟨o12a, o12b⟩ := (hv23_94 : In _ _ _); obtain ⟨o13a, o13b⟩ := (hv36_94 : In _ _ _); obtain ⟨o14a, o14b⟩ := (hv47_94 : In _ _ _); obtain ⟨o15a, o15b⟩ := (hv48_94 : In _ _ _); obtain ⟨o16a, o16b⟩ := (hv53_94 : In _ _ _); obtain ⟨o17a, o17b⟩ := (hv55_94 : In _ _ _); omega) (by obtain ⟨o0a, o0b⟩ := (hv2_94 : In _ _ _); obtain ⟨o1a, o1b⟩ := (hv3_94 : In _ _ _); obtain ⟨o2a, o2b⟩ := (hv4_94 : In _ _ _); obtain ⟨o3a, o3b⟩ := (hv5_94 : In _ _ _); obtain ⟨o4a, o4b⟩ := (hv6_94 : In _ _ _); obtain ⟨o5a, o5b⟩ := (hv8_94 : In _ _ _); obtain ⟨o6a, o6b⟩ := (hv9_94 : In _ _ _); obtain ⟨o7a, o7b⟩ := (hv13_94 : In _ _ _); obtain ⟨o8a, o8b⟩ := (hv14_94 : In _ _ _); obtain ⟨o9a, o9b⟩ := (hv15_94 : In _ _ _); obtain ⟨o10a, o10b⟩ := (hv17_94 : In _ _ _); obtain ⟨o11a, o11b⟩ := (hv20_94 : In _ _ _); obtain ⟨o12a, o12b⟩ := (hv23_94 : In _ _ _); obtain ⟨o13a, o13b⟩ := (hv36_94 : In _ _ _); obtain ⟨o14a, o14b⟩ := (hv47_94 : In _ _ _); obtain ⟨o15a, o15b⟩ := (hv48_94 : In _ _ _); obtain ⟨o16a, o16b⟩ := (hv53_94 : In _ _ _); obtain ⟨o17a, o17b⟩ := (hv55_94 : In _ _ _); omega)) dX11_brings_32 (fun H locs f101 r104 er104 hf102 ho103 hP hD hS => ?_)
                  have hc105 : ∀ i : Nat, i < 500 → In (r104 i) (-128) 127 := cont_upd er104 hc76 (nar_byte _)
                  have hf106 := (ho103 (ad 255) (hst.ne (by decide) (by decide) (by decide))).trans hf95
                  have hfr : (∀ b, b ≠ (ad 255) → b ≠ (ad 256) → f101 b = f b) := fun b z0_ z1_ => (ho103 b z1_).trans (hfr b z0_ z1_)
                  refine lv_aload_n hx hb dX11_brings_33 rfl (lv_at hl 2 rfl) ?_
                  refine lv_dup hx hb dX11_brings_34 rfl ?_
                  refine pl_get (v := .int v2_94) hx hb hts (fun w h => mT (inX11 w h)) hown hG.1 hP (hst.1 255 (by decide)) hf106 rfl 2 (by decide) (hts _ (mT wg_1338)) (fun _ h => h) rfl dX11_brings_35 ?_
                  refine lv_iconst (v := 1) hx hb dX11_brings_38 (by decide) ?_
                  refine lv_iadd hx hb dX11_brings_39 ?_
                  refine lv_topi (fun x107 ex107 => ?_)
                  have hb108 : In x107 1 501 := ex107 ▸ In.add hv2_94 (⟨by decide, by decide⟩ : In 1 1 1) (by decide) (by decide) (by decide) (by decide)
                  have et109 : x107.toInt = v2_94.toInt + 1 := In.adde ex107 hv2_94 (k := 1) (by decide) (by decide) (by decide)
                  have hT := TI.updM hT hst (k := 1) (by decide) hf102 ho103 ⟨r104, rfl, hc105⟩
                  refine pl_put (ty := .int) (v := .int x107) (fs' := [.int v0_94, .ref (ad 256), .int x107, .int v3_94, .int v4_94, .int v5_94, .int v6_94, .ref (ad 257), .int v8_94, .int v9_94, .ref (ad 258), .ref (ad 259), .int v12_94, .int v13_94, .int v14_94, .int v15_94, .int v16_94, .int v17_94, .int v18_94, .int v19_94, .int v20_94, .long v21_94, .long v22_94, .int v23_94, .ref (ad 260), .int v25_94, .ref (ad 261), .ref (ad 262), .ref (ad 263), .ref (ad 264), .ref (ad 265), .ref (ad 266), .ref (ad 267), .ref (ad 268), .ref (ad 269), .ref (ad 270), .int v36_94, .int v37_94, .int v38_94, .int v39_94, .int v40_94, .ref (ad 271), .ref (ad 272), .ref (ad 273), .ref (ad 274), .long v45_94, .long v46_94, .int v47_94, .int v48_94, .ref (ad 275), .int v50_94, .int v51_94, .ref (ad 276), .int v53_94, .ref (ad 277), .int v55_94]) hx hb hts (fun w h => mT (inX11 w h)) tyX11 tyX11_ok nmX11 hown hG.1 hP hD hS (hst.1 255 (by decide)) hf106 rfl 2 (by decide) (hts _ (mT wg_1338)) (fun _ h => h) rfl (by decide +kernel) (rfl) (rfl) (Nat.le_of_ble_eq_true rfl) rfl dX11_brings_40 (fun H locs f110 hf111 ho112 hP hD hS => ?_)
                  have hf113 := (ho112 (ad 256) (hst.ne (by decide) (by decide) (by decide))).trans hf102
                  have hfr : (∀ b, b ≠ (ad 255) → b ≠ (ad 256) → f110 b = f b) := fun b z0_ z1_ => (ho112 b z0_).trans (hfr b z0_ z1_)
                  refine lv_iinc (v := (-8)) (lv' := [(2, .int (-8)), (3, .int x89), (0, .ref (ad 255)), (1, .int z1)]) hx hb dX11_brings_43 hl (k := 1) rfl (by decide) (by decide) rfl (fun ls hl => ?_)
                  have hT := TI.updMG (th' := (gset (gset th 13 x78.toInt) 13 (x107.toInt))) hT hst (k := 0) (by decide) hf111 ho112 ⟨v0_94, x107, v3_94, v4_94, v5_94, v6_94, v8_94, v9_94, v12_94, v13_94, v14_94, v15_94, v16_94, v17_94, v18_94, v19_94, v20_94, v21_94, v22_94, v23_94, v25_94, v36_94, v37_94, v38_94, v39_94, v40_94, v45_94, v46_94, v47_94, v48_94, v50_94, v51_94, v53_94, v55_94, rfl, hv0_94, (In.mk (by obtain ⟨o0a, o0b⟩ := (hb108 : In _ _ _); obtain ⟨o1a, o1b⟩ := (hv3_94 : In _ _ _); obtain ⟨o2a, o2b⟩ := (hv4_94 : In _ _ _); obtain ⟨o3a, o3b⟩ := (hv5_94 : In _ _ _); obtain ⟨o4a, o4b⟩ := (hv6_94 : In _ _ _); obtain ⟨o5a, o5b⟩ := (hv8_94 : In _ _ _); obtain ⟨o6a, o6b⟩ := (hv9_94 : In _ _ _); obtain ⟨o7a, o7b⟩ := (hv13_94 : In _ _ _); obtain ⟨o8a, o8b⟩ := (hv14_94 : In _ _ _); obtain ⟨o9a, o9b⟩ := (hv15_94 : In _ _ _); obtain ⟨o10a, o10b⟩ := (hv17_94 : In _ _ _); obtain ⟨o11a, o11b⟩ := (hv20_94 : In _ _ _); obtain ⟨o12a, o12b⟩ := (hv23_94 : In _ _ _); obtain ⟨o13a, o13b⟩ := (hv36_94 : In _ _ _); obtain ⟨o14a, o14b⟩ := (hv47_94 : In _ _ _); obtain ⟨o15a, o15b⟩ := (hv48_94 : In _ _ _); obtain ⟨o16a, o16b⟩ := (hv53_94 : In _ _ _); obtain ⟨o17a, o17b⟩ := (hv55_94 : In _ _ _); obtain ⟨o18a, o18b⟩ := (hv2_94 : In _ _ _); omega) (by obtain ⟨o0a, o0b⟩ := (hb108 : In _ _ _); obtain ⟨o1a, o1b⟩ := (hv3_94 : In _ _ _); obtain ⟨o2a, o2b⟩ := (hv4_94 : In _ _ _); obtain ⟨o3a, o3b⟩ := (hv5_94 : In _ _ _); obtain ⟨o4a, o4b⟩ := (hv6_94 : In _ _ _); obtain ⟨o5a, o5b⟩ := (hv8_94 : In _ _ _); obtain ⟨o6a, o6b⟩ := (hv9_94 : In _ _ _); obtain ⟨o7a, o7b⟩ := (hv13_94 : In _ _ _); obtain ⟨o8a, o8b⟩ := (hv14_94 : In _ _ _); obtain ⟨o9a, o9b⟩ := (hv15_94 : In _ _ _); obtain ⟨o10a, o10b⟩ := (hv17_94 : In _ _ _); obtain ⟨o11a, o11b⟩ := (hv20_94 : In _ _ _); obtain ⟨o12a, o12b⟩ := (hv23_94 : In _ _ _); obtain ⟨o13a, o13b⟩ := (hv36_94 : In _ _ _); obtain ⟨o14a, o14b⟩ := (hv47_94 : In _ _ _); obtain ⟨o15a, o15b⟩ := (hv48_94 : In _ _ _); obtain ⟨o16a, o16b⟩ := (hv53_94 : In _ _ _); obtain ⟨o17a, o17b⟩ := (hv55_94 : In _ _ _); obtain ⟨o18a, o18b⟩ := (hv2_94 : In _ _ _); omega)), (by simp [gset]), hv3_94, (by rw [hg3_94]; simp [gset]), hv4_94, (by rw [hg4_94]; simp [gset]), hv5_94, (by rw [hg5_94]; simp [gset]), hv6_94, (by rw [hg6_94]; simp [gset]), hv8_94, (by rw [hg8_94]; simp [gset]), hv9_94, (by rw [hg9_94]; simp [gset]), hv12_94, hv13_94, (by rw [hg13_94]; simp [gset]), hv14_94, (by rw [hg14_94]; simp [gset]), hv15_94, (by rw [hg15_94]; simp [gset]), hv17_94, (by rw [hg17_94]; simp [gset]), hv20_94, (by rw [hg20_94]; simp [gset]), hv23_94, (by rw [hg23_94]; simp [gset]), hv25_94, hv36_94, (by rw [hg36_94]; simp [gset]), hv47_94, (by rw [hg47_94]; simp [gset]), hv48_94, (by rw [hg48_94]; simp [gset]), hv53_94, (by rw [hg53_94]; simp [gset]), hv55_94, (by rw [hg55_94]; simp [gset]), hrel0_94⟩ (fun q hq => ((gset_ne (fun e => hq (by subst e; decide))).trans rfl))
                  have hT : TI g ad (gset th 13 x107.toInt) f110 := TI.cast hT (by funext q; simp only [gset]; (repeat' split); all_goals first | rfl | omega | (subst_vars; rfl) | (exfalso; omega))
                  refine lv_goto (tgt := 3) hx hb dX11_brings_46 (by decide) ?_
                  refine lv_iload_n hx hb dX11_brings_3 rfl (lv_at hl 0 rfl) ?_
                  refine lv_if_lt (tgt := 49) hx hb dX11_brings_4 (by decide) (fun c114 => ?_) (fun c114 => ?_)
                  ·
                    have ocm8 : ((-8) : Int32).toInt = (-8) := by decide
                    have oc0 : (0 : Int32).toInt = 0 := by decide
                    have cc115 : ((-8) : Int32).toInt < (0 : Int32).toInt := i32_lt.mp c114
                    have hby116 : b1 z1 24 = 1 := b1_1 (by rw [show byS z1 24 = x5 by rw [ex5, ex4]; rfl]; exact c7)
                    have hby117 : b1 z1 16 = 1 := b1_1 (by rw [show byS z1 16 = x34 by rw [ex34, ex33]; rfl]; exact c36)
                    have hby118 : b1 z1 8 = 1 := b1_1 (by rw [show byS z1 8 = x61 by rw [ex61, ex60]; rfl]; exact c63)
                    have hby119 : b1 z1 0 = 1 := b1_1 (by rw [show byS z1 0 = x89 by rw [ex89, ex88]; rfl]; exact c91)
                    exact ret_v hx hb hr hlocks hP hD hS (Nat.le_of_ble_eq_true rfl) (Nat.le_of_ble_eq_true rfl) (⟨rfl, ⟨x107.toInt, (show x107.toInt = th 13 + nb z1 from (by omega)), TI.cast hT (by funext q; simp only [gset]; (repeat' split); all_goals first | rfl | omega | (subst_vars; rfl) | (exfalso; omega))⟩, hfr⟩) dX11_brings_49
                  ·
                    have ocm8 : ((-8) : Int32).toInt = (-8) := by decide
                    have oc0 : (0 : Int32).toInt = 0 := by decide
                    have cc120 : (0 : Int32).toInt ≤ ((-8) : Int32).toInt := i32_nlt c114
                    exact In.empty (lo := 0) (hi := (-8)) (In.ge1 (⟨by decide, by decide⟩ : In (-8) (-8) (-8)) (⟨by decide, by decide⟩ : In 0 0 0) cc120 (by omega) (by omega)) (by decide)
                ·
                  have oc0 : (0 : Int32).toInt = 0 := by decide
                  have cc121 : x89.toInt = (0 : Int32).toInt := congrArg Int32.toInt c91
                  have hb122 : In x89 0 0 := In.eq1 hb90 (⟨by decide, by decide⟩ : In 0 0 0) cc121 (by omega) (by omega)
                  refine lv_goto (tgt := 43) hx hb dX11_brings_19 (by decide) ?_
                  refine lv_iinc (v := (-8)) (lv' := [(2, .int (-8)), (3, .int x89), (0, .ref (ad 255)), (1, .int z1)]) hx hb dX11_brings_43 hl (k := 1) rfl (by decide) (by decide) rfl (fun ls hl => ?_)
                  refine lv_goto (tgt := 3) hx hb dX11_brings_46 (by decide) ?_
                  refine lv_iload_n hx hb dX11_brings_3 rfl (lv_at hl 0 rfl) ?_
                  refine lv_if_lt (tgt := 49) hx hb dX11_brings_4 (by decide) (fun c123 => ?_) (fun c123 => ?_)
                  ·
                    have ocm8 : ((-8) : Int32).toInt = (-8) := by decide
                    have oc0 : (0 : Int32).toInt = 0 := by decide
                    have cc124 : ((-8) : Int32).toInt < (0 : Int32).toInt := i32_lt.mp c123
                    have hby125 : b1 z1 24 = 1 := b1_1 (by rw [show byS z1 24 = x5 by rw [ex5, ex4]; rfl]; exact c7)
                    have hby126 : b1 z1 16 = 1 := b1_1 (by rw [show byS z1 16 = x34 by rw [ex34, ex33]; rfl]; exact c36)
                    have hby127 : b1 z1 8 = 1 := b1_1 (by rw [show byS z1 8 = x61 by rw [ex61, ex60]; rfl]; exact c63)
                    have hby128 : b1 z1 0 = 0 := b1_0 (by rw [show byS z1 0 = x89 by rw [ex89, ex88]; rfl]; exact c91)
                    exact ret_v hx hb hr hlocks hP hD hS (Nat.le_of_ble_eq_true rfl) (Nat.le_of_ble_eq_true rfl) (⟨rfl, ⟨x78.toInt, (show x78.toInt = th 13 + nb z1 from (by omega)), TI.cast hT (by funext q; simp only [gset]; (repeat' split); all_goals first | rfl | omega | (subst_vars; rfl) | (exfalso; omega))⟩, hfr⟩) dX11_brings_49
                  ·
                    have ocm8 : ((-8) : Int32).toInt = (-8) := by decide
                    have oc0 : (0 : Int32).toInt = 0 := by decide
                    have cc129 : (0 : Int32).toInt ≤ ((-8) : Int32).toInt := i32_nlt c123
                    exact In.empty (lo := 0) (hi := (-8)) (In.ge1 (⟨by decide, by decide⟩ : In (-8) (-8) (-8)) (⟨by decide, by decide⟩ : In 0 0 0) cc129 (by omega) (by omega)) (by decide)
            ·
              have oc0 : (0 : Int32).toInt = 0 := by decide
              have cc130 : x61.toInt = (0 : Int32).toInt := congrArg Int32.toInt c63
              have hb131 : In x61 0 0 := In.eq1 hb62 (⟨by decide, by decide⟩ : In 0 0 0) cc130 (by omega) (by omega)
              refine lv_goto (tgt := 43) hx hb dX11_brings_19 (by decide) ?_
              refine lv_iinc (v := 0) (lv' := [(2, .int 0), (3, .int x61), (0, .ref (ad 255)), (1, .int z1)]) hx hb dX11_brings_43 hl (k := 1) rfl (by decide) (by decide) rfl (fun ls hl => ?_)
              refine lv_goto (tgt := 3) hx hb dX11_brings_46 (by decide) ?_
              refine lv_iload_n hx hb dX11_brings_3 rfl (lv_at hl 0 rfl) ?_
              refine lv_if_lt (tgt := 49) hx hb dX11_brings_4 (by decide) (fun c132 => ?_) (fun c132 => ?_)
              ·
                have oc0 : (0 : Int32).toInt = 0 := by decide
                have oc0 : (0 : Int32).toInt = 0 := by decide
                have cc133 : (0 : Int32).toInt < (0 : Int32).toInt := i32_lt.mp c132
                exact In.empty (lo := 0) (hi := (-1)) (In.lt1 (⟨by decide, by decide⟩ : In 0 0 0) (⟨by decide, by decide⟩ : In 0 0 0) cc133 (by omega) (by omega)) (by decide)
              ·
                have oc0 : (0 : Int32).toInt = 0 := by decide
                have oc0 : (0 : Int32).toInt = 0 := by decide
                have cc134 : (0 : Int32).toInt ≤ (0 : Int32).toInt := i32_nlt c132
                refine lv_iload_n hx hb dX11_brings_7 rfl (lv_at hl 3 rfl) ?_
                refine lv_iload_n hx hb dX11_brings_8 rfl (lv_at hl 0 rfl) ?_
                refine lv_ishr hx hb dX11_brings_9 ?_
                refine lv_topi (fun x135 ex135 => ?_)
                refine lv_sipush (v := 255) hx hb dX11_brings_10 (by decide) ?_
                refine lv_iand hx hb dX11_brings_13 ?_
                refine lv_topi (fun x136 ex136 => ?_)
                have hb137 : In x136 0 255 := ex136 ▸ In.andr (⟨by decide, by decide⟩ : In 255 255 255) (by decide)
                refine lv_istore_n (lv' := [(3, .int x136), (2, .int 0), (0, .ref (ad 255)), (1, .int z1)]) hx hb dX11_brings_14 rfl hl (by decide) rfl (fun ls hl => ?_)
                refine lv_iload_n hx hb dX11_brings_15 rfl (lv_at hl 0 rfl) ?_
                refine lv_if_ne (tgt := 22) hx hb dX11_brings_16 (by decide) (fun c138 => ?_) (fun c138 => ?_)
                ·
                  have oc0 : (0 : Int32).toInt = 0 := by decide
                  have cc139 : x136.toInt ≠ (0 : Int32).toInt := i32_ne c138
                  have hb140 : In x136 1 255 := In.ne1 hb137 (⟨by decide, by decide⟩ : In 0 0 0) cc139 (by omega) (by omega)
                  refine lv_aload_n hx hb dX11_brings_22 rfl (lv_at hl 2 rfl) ?_
                  obtain ⟨v0_141, v2_141, v3_141, v4_141, v5_141, v6_141, v8_141, v9_141, v12_141, v13_141, v14_141, v15_141, v16_141, v17_141, v18_141, v19_141, v20_141, v21_141, v22_141, v23_141, v25_141, v36_141, v37_141, v38_141, v39_141, v40_141, v45_141, v46_141, v47_141, v48_141, v50_141, v51_141, v53_141, v55_141, hf142, hv0_141, hv2_141, hg2_141, hv3_141, hg3_141, hv4_141, hg4_141, hv5_141, hg5_141, hv6_141, hg6_141, hv8_141, hg8_141, hv9_141, hg9_141, hv12_141, hv13_141, hg13_141, hv14_141, hg14_141, hv15_141, hg15_141, hv17_141, hg17_141, hv20_141, hg20_141, hv23_141, hg23_141, hv25_141, hv36_141, hg36_141, hv47_141, hg47_141, hv48_141, hg48_141, hv53_141, hg53_141, hv55_141, hg55_141, hrel0_141⟩ := hT.2.2 0 (by decide)
                  have hg2_141 : v2_141.toInt = x50.toInt := hg2_141
                  have hg3_141 : v3_141.toInt = th 37 := hg3_141
                  have hg4_141 : v4_141.toInt = th 42 := hg4_141
                  have hg5_141 : v5_141.toInt = th 40 := hg5_141
                  have hg6_141 : v6_141.toInt = th 41 := hg6_141
                  have hg8_141 : v8_141.toInt = th 43 := hg8_141
                  have hg9_141 : v9_141.toInt = th 35 := hg9_141
                  have hg13_141 : v13_141.toInt = th 36 := hg13_141
                  have hg14_141 : v14_141.toInt = th 10 := hg14_141
                  have hg15_141 : v15_141.toInt = th 11 := hg15_141
                  have hg17_141 : v17_141.toInt = th 12 := hg17_141
                  have hg20_141 : v20_141.toInt = th 14 := hg20_141
                  have hg23_141 : v23_141.toInt = th 15 := hg23_141
                  have hg36_141 : v36_141.toInt = th 18 := hg36_141
                  have hg47_141 : v47_141.toInt = th 16 := hg47_141
                  have hg48_141 : v48_141.toInt = th 17 := hg48_141
                  have hg53_141 : v53_141.toInt = th 38 := hg53_141
                  have hg55_141 : v55_141.toInt = th 39 := hg55_141
                  refine pl_get (v := .ref (ad 256)) hx hb hts (fun w h => mT (inX11 w h)) hown hG.1 hP (hst.1 255 (by decide)) hf142 rfl 1 (by decide) (hts _ (mT wg_1337)) (fun _ h => h) rfl dX11_brings_23 ?_
                  refine lv_aload_n hx hb dX11_brings_26 rfl (lv_at hl 2 rfl) ?_
                  refine pl_get (v := .int v2_141) hx hb hts (fun w h => mT (inX11 w h)) hown hG.1 hP (hst.1 255 (by decide)) hf142 rfl 2 (by decide) (hts _ (mT wg_1338)) (fun _ h => h) rfl dX11_brings_27 ?_
                  refine lv_iload_n hx hb dX11_brings_30 rfl (lv_at hl 0 rfl) ?_
                  refine lv_i2b hx hb dX11_brings_31 rfl ?_
                  refine lv_topi (fun x143 ex143 => ?_)
                  have hby144 : b1 z1 24 = 1 := b1_1 (by rw [show byS z1 24 = x5 by rw [ex5, ex4]; rfl]; exact c7)
                  have hby145 : b1 z1 16 = 1 := b1_1 (by rw [show byS z1 16 = x34 by rw [ex34, ex33]; rfl]; exact c36)
                  have hby146 : b1 z1 8 = 0 := b1_0 (by rw [show byS z1 8 = x61 by rw [ex61, ex60]; rfl]; exact c63)
                  have hby147 : b1 z1 0 = 1 := b1_1 (by rw [show byS z1 0 = x136 by rw [ex136, ex135]; rfl]; exact c138)
                  refine pl_bastE hx hb hG.1 hP hD hS (hst.1 256 (by decide)) 2 hf56 rfl (vp_of (by obtain ⟨o0a, o0b⟩ := (hv2_141 : In _ _ _); obtain ⟨o1a, o1b⟩ := (hv3_141 : In _ _ _); obtain ⟨o2a, o2b⟩ := (hv4_141 : In _ _ _); obtain ⟨o3a, o3b⟩ := (hv5_141 : In _ _ _); obtain ⟨o4a, o4b⟩ := (hv6_141 : In _ _ _); obtain ⟨o5a, o5b⟩ := (hv8_141 : In _ _ _); obtain ⟨o6a, o6b⟩ := (hv9_141 : In _ _ _); obtain ⟨o7a, o7b⟩ := (hv13_141 : In _ _ _); obtain ⟨o8a, o8b⟩ := (hv14_141 : In _ _ _); obtain ⟨o9a, o9b⟩ := (hv15_141 : In _ _ _); obtain ⟨o10a, o10b⟩ := (hv17_141 : In _ _ _); obtain ⟨o11a, o11b⟩ := (hv20_141 : In _ _ _); obtain ⟨o12a, o12b⟩ := (hv23_141 : In _ _ _); obtain ⟨o13a, o13b⟩ := (hv36_141 : In _ _ _); obtain ⟨o14a, o14b⟩ := (hv47_141 : In _ _ _); obtain ⟨o15a, o15b⟩ := (hv48_141 : In _ _ _); obtain ⟨o16a, o16b⟩ := (hv53_141 : In _ _ _); obtain ⟨o17a, o17b⟩ := (hv55_141 : In _ _ _); omega) (by obtain ⟨o0a, o0b⟩ := (hv2_141 : In _ _ _); obtain ⟨o1a, o1b⟩ := (hv3_141 : In _ _ _); obtain ⟨o2a, o2b⟩ := (hv4_141 : In _ _ _); obtain ⟨o3a, o3b⟩ := (hv5_141 : In _ _ _); obtain ⟨o4a, o4b⟩ := (hv6_141 : In _ _ _); obtain ⟨o5a, o5b⟩ := (hv8_141 : In _ _ _); obtain ⟨o6a, o6b⟩ := (hv9_141 : In _ _ _); obtain ⟨o7a, o7b⟩ := (hv13_141 : In _ _ _); obtain ⟨o8a, o8b⟩ := (hv14_141 : In _ _ _); obtain ⟨o9a, o9b⟩ := (hv15_141 : In _ _ _); obtain ⟨o10a, o10b⟩ := (hv17_141 : In _ _ _); obtain ⟨o11a, o11b⟩ := (hv20_141 : In _ _ _); obtain ⟨o12a, o12b⟩ := (hv23_141 : In _ _ _); obtain ⟨o13a, o13b⟩ := (hv36_141 : In _ _ _); obtain ⟨o14a, o14b⟩ := (hv47_141 : In _ _ _); obtain ⟨o15a, o15b⟩ := (hv48_141 : In _ _ _); obtain ⟨o16a, o16b⟩ := (hv53_141 : In _ _ _); obtain ⟨o17a, o17b⟩ := (hv55_141 : In _ _ _); omega)) dX11_brings_32 (fun H locs f148 r151 er151 hf149 ho150 hP hD hS => ?_)
                  have hc152 : ∀ i : Nat, i < 500 → In (r151 i) (-128) 127 := cont_upd er151 hc48 (nar_byte _)
                  have hf153 := (ho150 (ad 255) (hst.ne (by decide) (by decide) (by decide))).trans hf142
                  have hfr : (∀ b, b ≠ (ad 255) → b ≠ (ad 256) → f148 b = f b) := fun b z0_ z1_ => (ho150 b z1_).trans (hfr b z0_ z1_)
                  refine lv_aload_n hx hb dX11_brings_33 rfl (lv_at hl 2 rfl) ?_
                  refine lv_dup hx hb dX11_brings_34 rfl ?_
                  refine pl_get (v := .int v2_141) hx hb hts (fun w h => mT (inX11 w h)) hown hG.1 hP (hst.1 255 (by decide)) hf153 rfl 2 (by decide) (hts _ (mT wg_1338)) (fun _ h => h) rfl dX11_brings_35 ?_
                  refine lv_iconst (v := 1) hx hb dX11_brings_38 (by decide) ?_
                  refine lv_iadd hx hb dX11_brings_39 ?_
                  refine lv_topi (fun x154 ex154 => ?_)
                  have hb155 : In x154 1 501 := ex154 ▸ In.add hv2_141 (⟨by decide, by decide⟩ : In 1 1 1) (by decide) (by decide) (by decide) (by decide)
                  have et156 : x154.toInt = v2_141.toInt + 1 := In.adde ex154 hv2_141 (k := 1) (by decide) (by decide) (by decide)
                  have hT := TI.updM hT hst (k := 1) (by decide) hf149 ho150 ⟨r151, rfl, hc152⟩
                  refine pl_put (ty := .int) (v := .int x154) (fs' := [.int v0_141, .ref (ad 256), .int x154, .int v3_141, .int v4_141, .int v5_141, .int v6_141, .ref (ad 257), .int v8_141, .int v9_141, .ref (ad 258), .ref (ad 259), .int v12_141, .int v13_141, .int v14_141, .int v15_141, .int v16_141, .int v17_141, .int v18_141, .int v19_141, .int v20_141, .long v21_141, .long v22_141, .int v23_141, .ref (ad 260), .int v25_141, .ref (ad 261), .ref (ad 262), .ref (ad 263), .ref (ad 264), .ref (ad 265), .ref (ad 266), .ref (ad 267), .ref (ad 268), .ref (ad 269), .ref (ad 270), .int v36_141, .int v37_141, .int v38_141, .int v39_141, .int v40_141, .ref (ad 271), .ref (ad 272), .ref (ad 273), .ref (ad 274), .long v45_141, .long v46_141, .int v47_141, .int v48_141, .ref (ad 275), .int v50_141, .int v51_141, .ref (ad 276), .int v53_141, .ref (ad 277), .int v55_141]) hx hb hts (fun w h => mT (inX11 w h)) tyX11 tyX11_ok nmX11 hown hG.1 hP hD hS (hst.1 255 (by decide)) hf153 rfl 2 (by decide) (hts _ (mT wg_1338)) (fun _ h => h) rfl (by decide +kernel) (rfl) (rfl) (Nat.le_of_ble_eq_true rfl) rfl dX11_brings_40 (fun H locs f157 hf158 ho159 hP hD hS => ?_)
                  have hf160 := (ho159 (ad 256) (hst.ne (by decide) (by decide) (by decide))).trans hf149
                  have hfr : (∀ b, b ≠ (ad 255) → b ≠ (ad 256) → f157 b = f b) := fun b z0_ z1_ => (ho159 b z0_).trans (hfr b z0_ z1_)
                  refine lv_iinc (v := (-8)) (lv' := [(2, .int (-8)), (3, .int x136), (0, .ref (ad 255)), (1, .int z1)]) hx hb dX11_brings_43 hl (k := 1) rfl (by decide) (by decide) rfl (fun ls hl => ?_)
                  have hT := TI.updMG (th' := (gset (gset th 13 x50.toInt) 13 (x154.toInt))) hT hst (k := 0) (by decide) hf158 ho159 ⟨v0_141, x154, v3_141, v4_141, v5_141, v6_141, v8_141, v9_141, v12_141, v13_141, v14_141, v15_141, v16_141, v17_141, v18_141, v19_141, v20_141, v21_141, v22_141, v23_141, v25_141, v36_141, v37_141, v38_141, v39_141, v40_141, v45_141, v46_141, v47_141, v48_141, v50_141, v51_141, v53_141, v55_141, rfl, hv0_141, (In.mk (by obtain ⟨o0a, o0b⟩ := (hb155 : In _ _ _); obtain ⟨o1a, o1b⟩ := (hv3_141 : In _ _ _); obtain ⟨o2a, o2b⟩ := (hv4_141 : In _ _ _); obtain ⟨o3a, o3b⟩ := (hv5_141 : In _ _ _); obtain ⟨o4a, o4b⟩ := (hv6_141 : In _ _ _); obtain ⟨o5a, o5b⟩ := (hv8_141 : In _ _ _); obtain ⟨o6a, o6b⟩ := (hv9_141 : In _ _ _); obtain ⟨o7a, o7b⟩ := (hv13_141 : In _ _ _); obtain ⟨o8a, o8b⟩ := (hv14_141 : In _ _ _); obtain ⟨o9a, o9b⟩ := (hv15_141 : In _ _ _); obtain ⟨o10a, o10b⟩ := (hv17_141 : In _ _ _); obtain ⟨o11a, o11b⟩ := (hv20_141 : In _ _ _); obtain ⟨o12a, o12b⟩ := (hv23_141 : In _ _ _); obtain ⟨o13a, o13b⟩ := (hv36_141 : In _ _ _); obtain ⟨o14a, o14b⟩ := (hv47_141 : In _ _ _); obtain ⟨o15a, o15b⟩ := (hv48_141 : In _ _ _); obtain ⟨o16a, o16b⟩ := (hv53_141 : In _ _ _); obtain ⟨o17a, o17b⟩ := (hv55_141 : In _ _ _); obtain ⟨o18a, o18b⟩ := (hv2_141 : In _ _ _); omega) (by obtain ⟨o0a, o0b⟩ := (hb155 : In _ _ _); obtain ⟨o1a, o1b⟩ := (hv3_141 : In _ _ _); obtain ⟨o2a, o2b⟩ := (hv4_141 : In _ _ _); obtain ⟨o3a, o3b⟩ := (hv5_141 : In _ _ _); obtain ⟨o4a, o4b⟩ := (hv6_141 : In _ _ _); obtain ⟨o5a, o5b⟩ := (hv8_141 : In _ _ _); obtain ⟨o6a, o6b⟩ := (hv9_141 : In _ _ _); obtain ⟨o7a, o7b⟩ := (hv13_141 : In _ _ _); obtain ⟨o8a, o8b⟩ := (hv14_141 : In _ _ _); obtain ⟨o9a, o9b⟩ := (hv15_141 : In _ _ _); obtain ⟨o10a, o10b⟩ := (hv17_141 : In _ _ _); obtain ⟨o11a, o11b⟩ := (hv20_141 : In _ _ _); obtain ⟨o12a, o12b⟩ := (hv23_141 : In _ _ _); obtain ⟨o13a, o13b⟩ := (hv36_141 : In _ _ _); obtain ⟨o14a, o14b⟩ := (hv47_141 : In _ _ _); obtain ⟨o15a, o15b⟩ := (hv48_141 : In _ _ _); obtain ⟨o16a, o16b⟩ := (hv53_141 : In _ _ _); obtain ⟨o17a, o17b⟩ := (hv55_141 : In _ _ _); obtain ⟨o18a, o18b⟩ := (hv2_141 : In _ _ _); omega)), (by simp [gset]), hv3_141, (by rw [hg3_141]; simp [gset]), hv4_141, (by rw [hg4_141]; simp [gset]), hv5_141, (by rw [hg5_141]; simp [gset]), hv6_141, (by rw [hg6_141]; simp [gset]), hv8_141, (by rw [hg8_141]; simp [gset]), hv9_141, (by rw [hg9_141]; simp [gset]), hv12_141, hv13_141, (by rw [hg13_141]; simp [gset]), hv14_141, (by rw [hg14_141]; simp [gset]), hv15_141, (by rw [hg15_141]; simp [gset]), hv17_141, (by rw [hg17_141]; simp [gset]), hv20_141, (by rw [hg20_141]; simp [gset]), hv23_141, (by rw [hg23_141]; simp [gset]), hv25_141, hv36_141, (by rw [hg36_141]; simp [gset]), hv47_141, (by rw [hg47_141]; simp [gset]), hv48_141, (by rw [hg48_141]; simp [gset]), hv53_141, (by rw [hg53_141]; simp [gset]), hv55_141, (by rw [hg55_141]; simp [gset]), hrel0_141⟩ (fun q hq => ((gset_ne (fun e => hq (by subst e; decide))).trans rfl))
                  have hT : TI g ad (gset th 13 x154.toInt) f157 := TI.cast hT (by funext q; simp only [gset]; (repeat' split); all_goals first | rfl | omega | (subst_vars; rfl) | (exfalso; omega))
                  refine lv_goto (tgt := 3) hx hb dX11_brings_46 (by decide) ?_
                  refine lv_iload_n hx hb dX11_brings_3 rfl (lv_at hl 0 rfl) ?_
                  refine lv_if_lt (tgt := 49) hx hb dX11_brings_4 (by decide) (fun c161 => ?_) (fun c161 => ?_)
                  ·
                    have ocm8 : ((-8) : Int32).toInt = (-8) := by decide
                    have oc0 : (0 : Int32).toInt = 0 := by decide
                    have cc162 : ((-8) : Int32).toInt < (0 : Int32).toInt := i32_lt.mp c161
                    have hby163 : b1 z1 24 = 1 := b1_1 (by rw [show byS z1 24 = x5 by rw [ex5, ex4]; rfl]; exact c7)
                    have hby164 : b1 z1 16 = 1 := b1_1 (by rw [show byS z1 16 = x34 by rw [ex34, ex33]; rfl]; exact c36)
                    have hby165 : b1 z1 8 = 0 := b1_0 (by rw [show byS z1 8 = x61 by rw [ex61, ex60]; rfl]; exact c63)
                    have hby166 : b1 z1 0 = 1 := b1_1 (by rw [show byS z1 0 = x136 by rw [ex136, ex135]; rfl]; exact c138)
                    exact ret_v hx hb hr hlocks hP hD hS (Nat.le_of_ble_eq_true rfl) (Nat.le_of_ble_eq_true rfl) (⟨rfl, ⟨x154.toInt, (show x154.toInt = th 13 + nb z1 from (by omega)), TI.cast hT (by funext q; simp only [gset]; (repeat' split); all_goals first | rfl | omega | (subst_vars; rfl) | (exfalso; omega))⟩, hfr⟩) dX11_brings_49
                  ·
                    have ocm8 : ((-8) : Int32).toInt = (-8) := by decide
                    have oc0 : (0 : Int32).toInt = 0 := by decide
                    have cc167 : (0 : Int32).toInt ≤ ((-8) : Int32).toInt := i32_nlt c161
                    exact In.empty (lo := 0) (hi := (-8)) (In.ge1 (⟨by decide, by decide⟩ : In (-8) (-8) (-8)) (⟨by decide, by decide⟩ : In 0 0 0) cc167 (by omega) (by omega)) (by decide)
                ·
                  have oc0 : (0 : Int32).toInt = 0 := by decide
                  have cc168 : x136.toInt = (0 : Int32).toInt := congrArg Int32.toInt c138
                  have hb169 : In x136 0 0 := In.eq1 hb137 (⟨by decide, by decide⟩ : In 0 0 0) cc168 (by omega) (by omega)
                  refine lv_goto (tgt := 43) hx hb dX11_brings_19 (by decide) ?_
                  refine lv_iinc (v := (-8)) (lv' := [(2, .int (-8)), (3, .int x136), (0, .ref (ad 255)), (1, .int z1)]) hx hb dX11_brings_43 hl (k := 1) rfl (by decide) (by decide) rfl (fun ls hl => ?_)
                  refine lv_goto (tgt := 3) hx hb dX11_brings_46 (by decide) ?_
                  refine lv_iload_n hx hb dX11_brings_3 rfl (lv_at hl 0 rfl) ?_
                  refine lv_if_lt (tgt := 49) hx hb dX11_brings_4 (by decide) (fun c170 => ?_) (fun c170 => ?_)
                  ·
                    have ocm8 : ((-8) : Int32).toInt = (-8) := by decide
                    have oc0 : (0 : Int32).toInt = 0 := by decide
                    have cc171 : ((-8) : Int32).toInt < (0 : Int32).toInt := i32_lt.mp c170
                    have hby172 : b1 z1 24 = 1 := b1_1 (by rw [show byS z1 24 = x5 by rw [ex5, ex4]; rfl]; exact c7)
                    have hby173 : b1 z1 16 = 1 := b1_1 (by rw [show byS z1 16 = x34 by rw [ex34, ex33]; rfl]; exact c36)
                    have hby174 : b1 z1 8 = 0 := b1_0 (by rw [show byS z1 8 = x61 by rw [ex61, ex60]; rfl]; exact c63)
                    have hby175 : b1 z1 0 = 0 := b1_0 (by rw [show byS z1 0 = x136 by rw [ex136, ex135]; rfl]; exact c138)
                    exact ret_v hx hb hr hlocks hP hD hS (Nat.le_of_ble_eq_true rfl) (Nat.le_of_ble_eq_true rfl) (⟨rfl, ⟨x50.toInt, (show x50.toInt = th 13 + nb z1 from (by omega)), TI.cast hT (by funext q; simp only [gset]; (repeat' split); all_goals first | rfl | omega | (subst_vars; rfl) | (exfalso; omega))⟩, hfr⟩) dX11_brings_49
                  ·
                    have ocm8 : ((-8) : Int32).toInt = (-8) := by decide
                    have oc0 : (0 : Int32).toInt = 0 := by decide
                    have cc176 : (0 : Int32).toInt ≤ ((-8) : Int32).toInt := i32_nlt c170
                    exact In.empty (lo := 0) (hi := (-8)) (In.ge1 (⟨by decide, by decide⟩ : In (-8) (-8) (-8)) (⟨by decide, by decide⟩ : In 0 0 0) cc176 (by omega) (by omega)) (by decide)
        ·
          have oc0 : (0 : Int32).toInt = 0 := by decide
          have cc177 : x34.toInt = (0 : Int32).toInt := congrArg Int32.toInt c36
          have hb178 : In x34 0 0 := In.eq1 hb35 (⟨by decide, by decide⟩ : In 0 0 0) cc177 (by omega) (by omega)
          refine lv_goto (tgt := 43) hx hb dX11_brings_19 (by decide) ?_
          refine lv_iinc (v := 8) (lv' := [(2, .int 8), (3, .int x34), (0, .ref (ad 255)), (1, .int z1)]) hx hb dX11_brings_43 hl (k := 1) rfl (by decide) (by decide) rfl (fun ls hl => ?_)
          refine lv_goto (tgt := 3) hx hb dX11_brings_46 (by decide) ?_
          refine lv_iload_n hx hb dX11_brings_3 rfl (lv_at hl 0 rfl) ?_
          refine lv_if_lt (tgt := 49) hx hb dX11_brings_4 (by decide) (fun c179 => ?_) (fun c179 => ?_)
          ·
            have oc8 : (8 : Int32).toInt = 8 := by decide
            have oc0 : (0 : Int32).toInt = 0 := by decide
            have cc180 : (8 : Int32).toInt < (0 : Int32).toInt := i32_lt.mp c179
            exact In.empty (lo := 8) (hi := (-1)) (In.lt1 (⟨by decide, by decide⟩ : In 8 8 8) (⟨by decide, by decide⟩ : In 0 0 0) cc180 (by omega) (by omega)) (by decide)
          ·
            have oc8 : (8 : Int32).toInt = 8 := by decide
            have oc0 : (0 : Int32).toInt = 0 := by decide
            have cc181 : (0 : Int32).toInt ≤ (8 : Int32).toInt := i32_nlt c179
            refine lv_iload_n hx hb dX11_brings_7 rfl (lv_at hl 3 rfl) ?_
            refine lv_iload_n hx hb dX11_brings_8 rfl (lv_at hl 0 rfl) ?_
            refine lv_ishr hx hb dX11_brings_9 ?_
            refine lv_topi (fun x182 ex182 => ?_)
            refine lv_sipush (v := 255) hx hb dX11_brings_10 (by decide) ?_
            refine lv_iand hx hb dX11_brings_13 ?_
            refine lv_topi (fun x183 ex183 => ?_)
            have hb184 : In x183 0 255 := ex183 ▸ In.andr (⟨by decide, by decide⟩ : In 255 255 255) (by decide)
            refine lv_istore_n (lv' := [(3, .int x183), (2, .int 8), (0, .ref (ad 255)), (1, .int z1)]) hx hb dX11_brings_14 rfl hl (by decide) rfl (fun ls hl => ?_)
            refine lv_iload_n hx hb dX11_brings_15 rfl (lv_at hl 0 rfl) ?_
            refine lv_if_ne (tgt := 22) hx hb dX11_brings_16 (by decide) (fun c185 => ?_) (fun c185 => ?_)
            ·
              have oc0 : (0 : Int32).toInt = 0 := by decide
              have cc186 : x183.toInt ≠ (0 : Int32).toInt := i32_ne c185
              have hb187 : In x183 1 255 := In.ne1 hb184 (⟨by decide, by decide⟩ : In 0 0 0) cc186 (by omega) (by omega)
              refine lv_aload_n hx hb dX11_brings_22 rfl (lv_at hl 2 rfl) ?_
              obtain ⟨v0_188, v2_188, v3_188, v4_188, v5_188, v6_188, v8_188, v9_188, v12_188, v13_188, v14_188, v15_188, v16_188, v17_188, v18_188, v19_188, v20_188, v21_188, v22_188, v23_188, v25_188, v36_188, v37_188, v38_188, v39_188, v40_188, v45_188, v46_188, v47_188, v48_188, v50_188, v51_188, v53_188, v55_188, hf189, hv0_188, hv2_188, hg2_188, hv3_188, hg3_188, hv4_188, hg4_188, hv5_188, hg5_188, hv6_188, hg6_188, hv8_188, hg8_188, hv9_188, hg9_188, hv12_188, hv13_188, hg13_188, hv14_188, hg14_188, hv15_188, hg15_188, hv17_188, hg17_188, hv20_188, hg20_188, hv23_188, hg23_188, hv25_188, hv36_188, hg36_188, hv47_188, hg47_188, hv48_188, hg48_188, hv53_188, hg53_188, hv55_188, hg55_188, hrel0_188⟩ := hT.2.2 0 (by decide)
              have hg2_188 : v2_188.toInt = x23.toInt := hg2_188
              have hg3_188 : v3_188.toInt = th 37 := hg3_188
              have hg4_188 : v4_188.toInt = th 42 := hg4_188
              have hg5_188 : v5_188.toInt = th 40 := hg5_188
              have hg6_188 : v6_188.toInt = th 41 := hg6_188
              have hg8_188 : v8_188.toInt = th 43 := hg8_188
              have hg9_188 : v9_188.toInt = th 35 := hg9_188
              have hg13_188 : v13_188.toInt = th 36 := hg13_188
              have hg14_188 : v14_188.toInt = th 10 := hg14_188
              have hg15_188 : v15_188.toInt = th 11 := hg15_188
              have hg17_188 : v17_188.toInt = th 12 := hg17_188
              have hg20_188 : v20_188.toInt = th 14 := hg20_188
              have hg23_188 : v23_188.toInt = th 15 := hg23_188
              have hg36_188 : v36_188.toInt = th 18 := hg36_188
              have hg47_188 : v47_188.toInt = th 16 := hg47_188
              have hg48_188 : v48_188.toInt = th 17 := hg48_188
              have hg53_188 : v53_188.toInt = th 38 := hg53_188
              have hg55_188 : v55_188.toInt = th 39 := hg55_188
              refine pl_get (v := .ref (ad 256)) hx hb hts (fun w h => mT (inX11 w h)) hown hG.1 hP (hst.1 255 (by decide)) hf189 rfl 1 (by decide) (hts _ (mT wg_1337)) (fun _ h => h) rfl dX11_brings_23 ?_
              refine lv_aload_n hx hb dX11_brings_26 rfl (lv_at hl 2 rfl) ?_
              refine pl_get (v := .int v2_188) hx hb hts (fun w h => mT (inX11 w h)) hown hG.1 hP (hst.1 255 (by decide)) hf189 rfl 2 (by decide) (hts _ (mT wg_1338)) (fun _ h => h) rfl dX11_brings_27 ?_
              refine lv_iload_n hx hb dX11_brings_30 rfl (lv_at hl 0 rfl) ?_
              refine lv_i2b hx hb dX11_brings_31 rfl ?_
              refine lv_topi (fun x190 ex190 => ?_)
              have hby191 : b1 z1 24 = 1 := b1_1 (by rw [show byS z1 24 = x5 by rw [ex5, ex4]; rfl]; exact c7)
              have hby192 : b1 z1 16 = 0 := b1_0 (by rw [show byS z1 16 = x34 by rw [ex34, ex33]; rfl]; exact c36)
              have hby193 : b1 z1 8 = 1 := b1_1 (by rw [show byS z1 8 = x183 by rw [ex183, ex182]; rfl]; exact c185)
              refine pl_bastE hx hb hG.1 hP hD hS (hst.1 256 (by decide)) 2 hf29 rfl (vp_of (by obtain ⟨o0a, o0b⟩ := (hv2_188 : In _ _ _); obtain ⟨o1a, o1b⟩ := (hv3_188 : In _ _ _); obtain ⟨o2a, o2b⟩ := (hv4_188 : In _ _ _); obtain ⟨o3a, o3b⟩ := (hv5_188 : In _ _ _); obtain ⟨o4a, o4b⟩ := (hv6_188 : In _ _ _); obtain ⟨o5a, o5b⟩ := (hv8_188 : In _ _ _); obtain ⟨o6a, o6b⟩ := (hv9_188 : In _ _ _); obtain ⟨o7a, o7b⟩ := (hv13_188 : In _ _ _); obtain ⟨o8a, o8b⟩ := (hv14_188 : In _ _ _); obtain ⟨o9a, o9b⟩ := (hv15_188 : In _ _ _); obtain ⟨o10a, o10b⟩ := (hv17_188 : In _ _ _); obtain ⟨o11a, o11b⟩ := (hv20_188 : In _ _ _); obtain ⟨o12a, o12b⟩ := (hv23_188 : In _ _ _); obtain ⟨o13a, o13b⟩ := (hv36_188 : In _ _ _); obtain ⟨o14a, o14b⟩ := (hv47_188 : In _ _ _); obtain ⟨o15a, o15b⟩ := (hv48_188 : In _ _ _); obtain ⟨o16a, o16b⟩ := (hv53_188 : In _ _ _); obtain ⟨o17a, o17b⟩ := (hv55_188 : In _ _ _); omega) (by obtain ⟨o0a, o0b⟩ := (hv2_188 : In _ _ _); obtain ⟨o1a, o1b⟩ := (hv3_188 : In _ _ _); obtain ⟨o2a, o2b⟩ := (hv4_188 : In _ _ _); obtain ⟨o3a, o3b⟩ := (hv5_188 : In _ _ _); obtain ⟨o4a, o4b⟩ := (hv6_188 : In _ _ _); obtain ⟨o5a, o5b⟩ := (hv8_188 : In _ _ _); obtain ⟨o6a, o6b⟩ := (hv9_188 : In _ _ _); obtain ⟨o7a, o7b⟩ := (hv13_188 : In _ _ _); obtain ⟨o8a, o8b⟩ := (hv14_188 : In _ _ _); obtain ⟨o9a, o9b⟩ := (hv15_188 : In _ _ _); obtain ⟨o10a, o10b⟩ := (hv17_188 : In _ _ _); obtain ⟨o11a, o11b⟩ := (hv20_188 : In _ _ _); obtain ⟨o12a, o12b⟩ := (hv23_188 : In _ _ _); obtain ⟨o13a, o13b⟩ := (hv36_188 : In _ _ _); obtain ⟨o14a, o14b⟩ := (hv47_188 : In _ _ _); obtain ⟨o15a, o15b⟩ := (hv48_188 : In _ _ _); obtain ⟨o16a, o16b⟩ := (hv53_188 : In _ _ _); obtain ⟨o17a, o17b⟩ := (hv55_188 : In _ _ _); omega)) dX11_brings_32 (fun H locs f194 r197 er197 hf195 ho196 hP hD hS => ?_)
              have hc198 : ∀ i : Nat, i < 500 → In (r197 i) (-128) 127 := cont_upd er197 hc21 (nar_byte _)
              have hf199 := (ho196 (ad 255) (hst.ne (by decide) (by decide) (by decide))).trans hf189
              have hfr : (∀ b, b ≠ (ad 255) → b ≠ (ad 256) → f194 b = f b) := fun b z0_ z1_ => (ho196 b z1_).trans (hfr b z0_ z1_)
              refine lv_aload_n hx hb dX11_brings_33 rfl (lv_at hl 2 rfl) ?_
              refine lv_dup hx hb dX11_brings_34 rfl ?_
              refine pl_get (v := .int v2_188) hx hb hts (fun w h => mT (inX11 w h)) hown hG.1 hP (hst.1 255 (by decide)) hf199 rfl 2 (by decide) (hts _ (mT wg_1338)) (fun _ h => h) rfl dX11_brings_35 ?_
              refine lv_iconst (v := 1) hx hb dX11_brings_38 (by decide) ?_
              refine lv_iadd hx hb dX11_brings_39 ?_
              refine lv_topi (fun x200 ex200 => ?_)
              have hb201 : In x200 1 501 := ex200 ▸ In.add hv2_188 (⟨by decide, by decide⟩ : In 1 1 1) (by decide) (by decide) (by decide) (by decide)
              have et202 : x200.toInt = v2_188.toInt + 1 := In.adde ex200 hv2_188 (k := 1) (by decide) (by decide) (by decide)
              have hT := TI.updM hT hst (k := 1) (by decide) hf195 ho196 ⟨r197, rfl, hc198⟩
              refine pl_put (ty := .int) (v := .int x200) (fs' := [.int v0_188, .ref (ad 256), .int x200, .int v3_188, .int v4_188, .int v5_188, .int v6_188, .ref (ad 257), .int v8_188, .int v9_188, .ref (ad 258), .ref (ad 259), .int v12_188, .int v13_188, .int v14_188, .int v15_188, .int v16_188, .int v17_188, .int v18_188, .int v19_188, .int v20_188, .long v21_188, .long v22_188, .int v23_188, .ref (ad 260), .int v25_188, .ref (ad 261), .ref (ad 262), .ref (ad 263), .ref (ad 264), .ref (ad 265), .ref (ad 266), .ref (ad 267), .ref (ad 268), .ref (ad 269), .ref (ad 270), .int v36_188, .int v37_188, .int v38_188, .int v39_188, .int v40_188, .ref (ad 271), .ref (ad 272), .ref (ad 273), .ref (ad 274), .long v45_188, .long v46_188, .int v47_188, .int v48_188, .ref (ad 275), .int v50_188, .int v51_188, .ref (ad 276), .int v53_188, .ref (ad 277), .int v55_188]) hx hb hts (fun w h => mT (inX11 w h)) tyX11 tyX11_ok nmX11 hown hG.1 hP hD hS (hst.1 255 (by decide)) hf199 rfl 2 (by decide) (hts _ (mT wg_1338)) (fun _ h => h) rfl (by decide +kernel) (rfl) (rfl) (Nat.le_of_ble_eq_true rfl) rfl dX11_brings_40 (fun H locs f203 hf204 ho205 hP hD hS => ?_)
              have hf206 := (ho205 (ad 256) (hst.ne (by decide) (by decide) (by decide))).trans hf195
              have hfr : (∀ b, b ≠ (ad 255) → b ≠ (ad 256) → f203 b = f b) := fun b z0_ z1_ => (ho205 b z0_).trans (hfr b z0_ z1_)
              refine lv_iinc (v := 0) (lv' := [(2, .int 0), (3, .int x183), (0, .ref (ad 255)), (1, .int z1)]) hx hb dX11_brings_43 hl (k := 1) rfl (by decide) (by decide) rfl (fun ls hl => ?_)
              have hT := TI.updMG (th' := (gset (gset th 13 x23.toInt) 13 (x200.toInt))) hT hst (k := 0) (by decide) hf204 ho205 ⟨v0_188, x200, v3_188, v4_188, v5_188, v6_188, v8_188, v9_188, v12_188, v13_188, v14_188, v15_188, v16_188, v17_188, v18_188, v19_188, v20_188, v21_188, v22_188, v23_188, v25_188, v36_188, v37_188, v38_188, v39_188, v40_188, v45_188, v46_188, v47_188, v48_188, v50_188, v51_188, v53_188, v55_188, rfl, hv0_188, (In.mk (by obtain ⟨o0a, o0b⟩ := (hb201 : In _ _ _); obtain ⟨o1a, o1b⟩ := (hv3_188 : In _ _ _); obtain ⟨o2a, o2b⟩ := (hv4_188 : In _ _ _); obtain ⟨o3a, o3b⟩ := (hv5_188 : In _ _ _); obtain ⟨o4a, o4b⟩ := (hv6_188 : In _ _ _); obtain ⟨o5a, o5b⟩ := (hv8_188 : In _ _ _); obtain ⟨o6a, o6b⟩ := (hv9_188 : In _ _ _); obtain ⟨o7a, o7b⟩ := (hv13_188 : In _ _ _); obtain ⟨o8a, o8b⟩ := (hv14_188 : In _ _ _); obtain ⟨o9a, o9b⟩ := (hv15_188 : In _ _ _); obtain ⟨o10a, o10b⟩ := (hv17_188 : In _ _ _); obtain ⟨o11a, o11b⟩ := (hv20_188 : In _ _ _); obtain ⟨o12a, o12b⟩ := (hv23_188 : In _ _ _); obtain ⟨o13a, o13b⟩ := (hv36_188 : In _ _ _); obtain ⟨o14a, o14b⟩ := (hv47_188 : In _ _ _); obtain ⟨o15a, o15b⟩ := (hv48_188 : In _ _ _); obtain ⟨o16a, o16b⟩ := (hv53_188 : In _ _ _); obtain ⟨o17a, o17b⟩ := (hv55_188 : In _ _ _); obtain ⟨o18a, o18b⟩ := (hv2_188 : In _ _ _); omega) (by obtain ⟨o0a, o0b⟩ := (hb201 : In _ _ _); obtain ⟨o1a, o1b⟩ := (hv3_188 : In _ _ _); obtain ⟨o2a, o2b⟩ := (hv4_188 : In _ _ _); obtain ⟨o3a, o3b⟩ := (hv5_188 : In _ _ _); obtain ⟨o4a, o4b⟩ := (hv6_188 : In _ _ _); obtain ⟨o5a, o5b⟩ := (hv8_188 : In _ _ _); obtain ⟨o6a, o6b⟩ := (hv9_188 : In _ _ _); obtain ⟨o7a, o7b⟩ := (hv13_188 : In _ _ _); obtain ⟨o8a, o8b⟩ := (hv14_188 : In _ _ _); obtain ⟨o9a, o9b⟩ := (hv15_188 : In _ _ _); obtain ⟨o10a, o10b⟩ := (hv17_188 : In _ _ _); obtain ⟨o11a, o11b⟩ := (hv20_188 : In _ _ _); obtain ⟨o12a, o12b⟩ := (hv23_188 : In _ _ _); obtain ⟨o13a, o13b⟩ := (hv36_188 : In _ _ _); obtain ⟨o14a, o14b⟩ := (hv47_188 : In _ _ _); obtain ⟨o15a, o15b⟩ := (hv48_188 : In _ _ _); obtain ⟨o16a, o16b⟩ := (hv53_188 : In _ _ _); obtain ⟨o17a, o17b⟩ := (hv55_188 : In _ _ _); obtain ⟨o18a, o18b⟩ := (hv2_188 : In _ _ _); omega)), (by simp [gset]), hv3_188, (by rw [hg3_188]; simp [gset]), hv4_188, (by rw [hg4_188]; simp [gset]), hv5_188, (by rw [hg5_188]; simp [gset]), hv6_188, (by rw [hg6_188]; simp [gset]), hv8_188, (by rw [hg8_188]; simp [gset]), hv9_188, (by rw [hg9_188]; simp [gset]), hv12_188, hv13_188, (by rw [hg13_188]; simp [gset]), hv14_188, (by rw [hg14_188]; simp [gset]), hv15_188, (by rw [hg15_188]; simp [gset]), hv17_188, (by rw [hg17_188]; simp [gset]), hv20_188, (by rw [hg20_188]; simp [gset]), hv23_188, (by rw [hg23_188]; simp [gset]), hv25_188, hv36_188, (by rw [hg36_188]; simp [gset]), hv47_188, (by rw [hg47_188]; simp [gset]), hv48_188, (by rw [hg48_188]; simp [gset]), hv53_188, (by rw [hg53_188]; simp [gset]), hv55_188, (by rw [hg55_188]; simp [gset]), hrel0_188⟩ (fun q hq => ((gset_ne (fun e => hq (by subst e; decide))).trans rfl))
              have hT : TI g ad (gset th 13 x200.toInt) f203 := TI.cast hT (by funext q; simp only [gset]; (repeat' split); all_goals first | rfl | omega | (subst_vars; rfl) | (exfalso; omega))
              refine lv_goto (tgt := 3) hx hb dX11_brings_46 (by decide) ?_
              refine lv_iload_n hx hb dX11_brings_3 rfl (lv_at hl 0 rfl) ?_
              refine lv_if_lt (tgt := 49) hx hb dX11_brings_4 (by decide) (fun c207 => ?_) (fun c207 => ?_)
              ·
                have oc0 : (0 : Int32).toInt = 0 := by decide
                have oc0 : (0 : Int32).toInt = 0 := by decide
                have cc208 : (0 : Int32).toInt < (0 : Int32).toInt := i32_lt.mp c207
                exact In.empty (lo := 0) (hi := (-1)) (In.lt1 (⟨by decide, by decide⟩ : In 0 0 0) (⟨by decide, by decide⟩ : In 0 0 0) cc208 (by omega) (by omega)) (by decide)
              ·
                have oc0 : (0 : Int32).toInt = 0 := by decide
                have oc0 : (0 : Int32).toInt = 0 := by decide
                have cc209 : (0 : Int32).toInt ≤ (0 : Int32).toInt := i32_nlt c207
                refine lv_iload_n hx hb dX11_brings_7 rfl (lv_at hl 3 rfl) ?_
                refine lv_iload_n hx hb dX11_brings_8 rfl (lv_at hl 0 rfl) ?_
                refine lv_ishr hx hb dX11_brings_9 ?_
                refine lv_topi (fun x210 ex210 => ?_)
                refine lv_sipush (v := 255) hx hb dX11_brings_10 (by decide) ?_
                refine lv_iand hx hb dX11_brings_13 ?_
                refine lv_topi (fun x211 ex211 => ?_)
                have hb212 : In x211 0 255 := ex211 ▸ In.andr (⟨by decide, by decide⟩ : In 255 255 255) (by decide)
                refine lv_istore_n (lv' := [(3, .int x211), (2, .int 0), (0, .ref (ad 255)), (1, .int z1)]) hx hb dX11_brings_14 rfl hl (by decide) rfl (fun ls hl => ?_)
                refine lv_iload_n hx hb dX11_brings_15 rfl (lv_at hl 0 rfl) ?_
                refine lv_if_ne (tgt := 22) hx hb dX11_brings_16 (by decide) (fun c213 => ?_) (fun c213 => ?_)
                ·
                  have oc0 : (0 : Int32).toInt = 0 := by decide
                  have cc214 : x211.toInt ≠ (0 : Int32).toInt := i32_ne c213
                  have hb215 : In x211 1 255 := In.ne1 hb212 (⟨by decide, by decide⟩ : In 0 0 0) cc214 (by omega) (by omega)
                  refine lv_aload_n hx hb dX11_brings_22 rfl (lv_at hl 2 rfl) ?_
                  obtain ⟨v0_216, v2_216, v3_216, v4_216, v5_216, v6_216, v8_216, v9_216, v12_216, v13_216, v14_216, v15_216, v16_216, v17_216, v18_216, v19_216, v20_216, v21_216, v22_216, v23_216, v25_216, v36_216, v37_216, v38_216, v39_216, v40_216, v45_216, v46_216, v47_216, v48_216, v50_216, v51_216, v53_216, v55_216, hf217, hv0_216, hv2_216, hg2_216, hv3_216, hg3_216, hv4_216, hg4_216, hv5_216, hg5_216, hv6_216, hg6_216, hv8_216, hg8_216, hv9_216, hg9_216, hv12_216, hv13_216, hg13_216, hv14_216, hg14_216, hv15_216, hg15_216, hv17_216, hg17_216, hv20_216, hg20_216, hv23_216, hg23_216, hv25_216, hv36_216, hg36_216, hv47_216, hg47_216, hv48_216, hg48_216, hv53_216, hg53_216, hv55_216, hg55_216, hrel0_216⟩ := hT.2.2 0 (by decide)
                  have hg2_216 : v2_216.toInt = x200.toInt := hg2_216
                  have hg3_216 : v3_216.toInt = th 37 := hg3_216
                  have hg4_216 : v4_216.toInt = th 42 := hg4_216
                  have hg5_216 : v5_216.toInt = th 40 := hg5_216
                  have hg6_216 : v6_216.toInt = th 41 := hg6_216
                  have hg8_216 : v8_216.toInt = th 43 := hg8_216
                  have hg9_216 : v9_216.toInt = th 35 := hg9_216
                  have hg13_216 : v13_216.toInt = th 36 := hg13_216
                  have hg14_216 : v14_216.toInt = th 10 := hg14_216
                  have hg15_216 : v15_216.toInt = th 11 := hg15_216
                  have hg17_216 : v17_216.toInt = th 12 := hg17_216
                  have hg20_216 : v20_216.toInt = th 14 := hg20_216
                  have hg23_216 : v23_216.toInt = th 15 := hg23_216
                  have hg36_216 : v36_216.toInt = th 18 := hg36_216
                  have hg47_216 : v47_216.toInt = th 16 := hg47_216
                  have hg48_216 : v48_216.toInt = th 17 := hg48_216
                  have hg53_216 : v53_216.toInt = th 38 := hg53_216
                  have hg55_216 : v55_216.toInt = th 39 := hg55_216
                  refine pl_get (v := .ref (ad 256)) hx hb hts (fun w h => mT (inX11 w h)) hown hG.1 hP (hst.1 255 (by decide)) hf217 rfl 1 (by decide) (hts _ (mT wg_1337)) (fun _ h => h) rfl dX11_brings_23 ?_
                  refine lv_aload_n hx hb dX11_brings_26 rfl (lv_at hl 2 rfl) ?_
                  refine pl_get (v := .int v2_216) hx hb hts (fun w h => mT (inX11 w h)) hown hG.1 hP (hst.1 255 (by decide)) hf217 rfl 2 (by decide) (hts _ (mT wg_1338)) (fun _ h => h) rfl dX11_brings_27 ?_
                  refine lv_iload_n hx hb dX11_brings_30 rfl (lv_at hl 0 rfl) ?_
                  refine lv_i2b hx hb dX11_brings_31 rfl ?_
                  refine lv_topi (fun x218 ex218 => ?_)
                  have hby219 : b1 z1 24 = 1 := b1_1 (by rw [show byS z1 24 = x5 by rw [ex5, ex4]; rfl]; exact c7)
                  have hby220 : b1 z1 16 = 0 := b1_0 (by rw [show byS z1 16 = x34 by rw [ex34, ex33]; rfl]; exact c36)
                  have hby221 : b1 z1 8 = 1 := b1_1 (by rw [show byS z1 8 = x183 by rw [ex183, ex182]; rfl]; exact c185)
                  have hby222 : b1 z1 0 = 1 := b1_1 (by rw [show byS z1 0 = x211 by rw [ex211, ex210]; rfl]; exact c213)
                  refine pl_bastE hx hb hG.1 hP hD hS (hst.1 256 (by decide)) 2 hf206 rfl (vp_of (by obtain ⟨o0a, o0b⟩ := (hv2_216 : In _ _ _); obtain ⟨o1a, o1b⟩ := (hv3_216 : In _ _ _); obtain ⟨o2a, o2b⟩ := (hv4_216 : In _ _ _); obtain ⟨o3a, o3b⟩ := (hv5_216 : In _ _ _); obtain ⟨o4a, o4b⟩ := (hv6_216 : In _ _ _); obtain ⟨o5a, o5b⟩ := (hv8_216 : In _ _ _); obtain ⟨o6a, o6b⟩ := (hv9_216 : In _ _ _); obtain ⟨o7a, o7b⟩ := (hv13_216 : In _ _ _); obtain ⟨o8a, o8b⟩ := (hv14_216 : In _ _ _); obtain ⟨o9a, o9b⟩ := (hv15_216 : In _ _ _); obtain ⟨o10a, o10b⟩ := (hv17_216 : In _ _ _); obtain ⟨o11a, o11b⟩ := (hv20_216 : In _ _ _); obtain ⟨o12a, o12b⟩ := (hv23_216 : In _ _ _); obtain ⟨o13a, o13b⟩ := (hv36_216 : In _ _ _); obtain ⟨o14a, o14b⟩ := (hv47_216 : In _ _ _); obtain ⟨o15a, o15b⟩ := (hv48_216 : In _ _ _); obtain ⟨o16a, o16b⟩ := (hv53_216 : In _ _ _); obtain ⟨o17a, o17b⟩ := (hv55_216 : In _ _ _); omega) (by obtain ⟨o0a, o0b⟩ := (hv2_216 : In _ _ _); obtain ⟨o1a, o1b⟩ := (hv3_216 : In _ _ _); obtain ⟨o2a, o2b⟩ := (hv4_216 : In _ _ _); obtain ⟨o3a, o3b⟩ := (hv5_216 : In _ _ _); obtain ⟨o4a, o4b⟩ := (hv6_216 : In _ _ _); obtain ⟨o5a, o5b⟩ := (hv8_216 : In _ _ _); obtain ⟨o6a, o6b⟩ := (hv9_216 : In _ _ _); obtain ⟨o7a, o7b⟩ := (hv13_216 : In _ _ _); obtain ⟨o8a, o8b⟩ := (hv14_216 : In _ _ _); obtain ⟨o9a, o9b⟩ := (hv15_216 : In _ _ _); obtain ⟨o10a, o10b⟩ := (hv17_216 : In _ _ _); obtain ⟨o11a, o11b⟩ := (hv20_216 : In _ _ _); obtain ⟨o12a, o12b⟩ := (hv23_216 : In _ _ _); obtain ⟨o13a, o13b⟩ := (hv36_216 : In _ _ _); obtain ⟨o14a, o14b⟩ := (hv47_216 : In _ _ _); obtain ⟨o15a, o15b⟩ := (hv48_216 : In _ _ _); obtain ⟨o16a, o16b⟩ := (hv53_216 : In _ _ _); obtain ⟨o17a, o17b⟩ := (hv55_216 : In _ _ _); omega)) dX11_brings_32 (fun H locs f223 r226 er226 hf224 ho225 hP hD hS => ?_)
                  have hc227 : ∀ i : Nat, i < 500 → In (r226 i) (-128) 127 := cont_upd er226 hc198 (nar_byte _)
                  have hf228 := (ho225 (ad 255) (hst.ne (by decide) (by decide) (by decide))).trans hf217
                  have hfr : (∀ b, b ≠ (ad 255) → b ≠ (ad 256) → f223 b = f b) := fun b z0_ z1_ => (ho225 b z1_).trans (hfr b z0_ z1_)
                  refine lv_aload_n hx hb dX11_brings_33 rfl (lv_at hl 2 rfl) ?_
                  refine lv_dup hx hb dX11_brings_34 rfl ?_
                  refine pl_get (v := .int v2_216) hx hb hts (fun w h => mT (inX11 w h)) hown hG.1 hP (hst.1 255 (by decide)) hf228 rfl 2 (by decide) (hts _ (mT wg_1338)) (fun _ h => h) rfl dX11_brings_35 ?_
                  refine lv_iconst (v := 1) hx hb dX11_brings_38 (by decide) ?_
                  refine lv_iadd hx hb dX11_brings_39 ?_
                  refine lv_topi (fun x229 ex229 => ?_)
                  have hb230 : In x229 1 501 := ex229 ▸ In.add hv2_216 (⟨by decide, by decide⟩ : In 1 1 1) (by decide) (by decide) (by decide) (by decide)
                  have et231 : x229.toInt = v2_216.toInt + 1 := In.adde ex229 hv2_216 (k := 1) (by decide) (by decide) (by decide)
                  have hT := TI.updM hT hst (k := 1) (by decide) hf224 ho225 ⟨r226, rfl, hc227⟩
                  refine pl_put (ty := .int) (v := .int x229) (fs' := [.int v0_216, .ref (ad 256), .int x229, .int v3_216, .int v4_216, .int v5_216, .int v6_216, .ref (ad 257), .int v8_216, .int v9_216, .ref (ad 258), .ref (ad 259), .int v12_216, .int v13_216, .int v14_216, .int v15_216, .int v16_216, .int v17_216, .int v18_216, .int v19_216, .int v20_216, .long v21_216, .long v22_216, .int v23_216, .ref (ad 260), .int v25_216, .ref (ad 261), .ref (ad 262), .ref (ad 263), .ref (ad 264), .ref (ad 265), .ref (ad 266), .ref (ad 267), .ref (ad 268), .ref (ad 269), .ref (ad 270), .int v36_216, .int v37_216, .int v38_216, .int v39_216, .int v40_216, .ref (ad 271), .ref (ad 272), .ref (ad 273), .ref (ad 274), .long v45_216, .long v46_216, .int v47_216, .int v48_216, .ref (ad 275), .int v50_216, .int v51_216, .ref (ad 276), .int v53_216, .ref (ad 277), .int v55_216]) hx hb hts (fun w h => mT (inX11 w h)) tyX11 tyX11_ok nmX11 hown hG.1 hP hD hS (hst.1 255 (by decide)) hf228 rfl 2 (by decide) (hts _ (mT wg_1338)) (fun _ h => h) rfl (by decide +kernel) (rfl) (rfl) (Nat.le_of_ble_eq_true rfl) rfl dX11_brings_40 (fun H locs f232 hf233 ho234 hP hD hS => ?_)
                  have hf235 := (ho234 (ad 256) (hst.ne (by decide) (by decide) (by decide))).trans hf224
                  have hfr : (∀ b, b ≠ (ad 255) → b ≠ (ad 256) → f232 b = f b) := fun b z0_ z1_ => (ho234 b z0_).trans (hfr b z0_ z1_)
                  refine lv_iinc (v := (-8)) (lv' := [(2, .int (-8)), (3, .int x211), (0, .ref (ad 255)), (1, .int z1)]) hx hb dX11_brings_43 hl (k := 1) rfl (by decide) (by decide) rfl (fun ls hl => ?_)
                  have hT := TI.updMG (th' := (gset (gset th 13 x200.toInt) 13 (x229.toInt))) hT hst (k := 0) (by decide) hf233 ho234 ⟨v0_216, x229, v3_216, v4_216, v5_216, v6_216, v8_216, v9_216, v12_216, v13_216, v14_216, v15_216, v16_216, v17_216, v18_216, v19_216, v20_216, v21_216, v22_216, v23_216, v25_216, v36_216, v37_216, v38_216, v39_216, v40_216, v45_216, v46_216, v47_216, v48_216, v50_216, v51_216, v53_216, v55_216, rfl, hv0_216, (In.mk (by obtain ⟨o0a, o0b⟩ := (hb230 : In _ _ _); obtain ⟨o1a, o1b⟩ := (hv3_216 : In _ _ _); obtain ⟨o2a, o2b⟩ := (hv4_216 : In _ _ _); obtain ⟨o3a, o3b⟩ := (hv5_216 : In _ _ _); obtain ⟨o4a, o4b⟩ := (hv6_216 : In _ _ _); obtain ⟨o5a, o5b⟩ := (hv8_216 : In _ _ _); obtain ⟨o6a, o6b⟩ := (hv9_216 : In _ _ _); obtain ⟨o7a, o7b⟩ := (hv13_216 : In _ _ _); obtain ⟨o8a, o8b⟩ := (hv14_216 : In _ _ _); obtain ⟨o9a, o9b⟩ := (hv15_216 : In _ _ _); obtain ⟨o10a, o10b⟩ := (hv17_216 : In _ _ _); obtain ⟨o11a, o11b⟩ := (hv20_216 : In _ _ _); obtain ⟨o12a, o12b⟩ := (hv23_216 : In _ _ _); obtain ⟨o13a, o13b⟩ := (hv36_216 : In _ _ _); obtain ⟨o14a, o14b⟩ := (hv47_216 : In _ _ _); obtain ⟨o15a, o15b⟩ := (hv48_216 : In _ _ _); obtain ⟨o16a, o16b⟩ := (hv53_216 : In _ _ _); obtain ⟨o17a, o17b⟩ := (hv55_216 : In _ _ _); obtain ⟨o18a, o18b⟩ := (hv2_216 : In _ _ _); omega) (by obtain ⟨o0a, o0b⟩ := (hb230 : In _ _ _); obtain ⟨o1a, o1b⟩ := (hv3_216 : In _ _ _); obtain ⟨o2a, o2b⟩ := (hv4_216 : In _ _ _); obtain ⟨o3a, o3b⟩ := (hv5_216 : In _ _ _); obtain ⟨o4a, o4b⟩ := (hv6_216 : In _ _ _); obtain ⟨o5a, o5b⟩ := (hv8_216 : In _ _ _); obtain ⟨o6a, o6b⟩ := (hv9_216 : In _ _ _); obtain ⟨o7a, o7b⟩ := (hv13_216 : In _ _ _); obtain ⟨o8a, o8b⟩ := (hv14_216 : In _ _ _); obtain ⟨o9a, o9b⟩ := (hv15_216 : In _ _ _); obtain ⟨o10a, o10b⟩ := (hv17_216 : In _ _ _); obtain ⟨o11a, o11b⟩ := (hv20_216 : In _ _ _); obtain ⟨o12a, o12b⟩ := (hv23_216 : In _ _ _); obtain ⟨o13a, o13b⟩ := (hv36_216 : In _ _ _); obtain ⟨o14a, o14b⟩ := (hv47_216 : In _ _ _); obtain ⟨o15a, o15b⟩ := (hv48_216 : In _ _ _); obtain ⟨o16a, o16b⟩ := (hv53_216 : In _ _ _); obtain ⟨o17a, o17b⟩ := (hv55_216 : In _ _ _); obtain ⟨o18a, o18b⟩ := (hv2_216 : In _ _ _); omega)), (by simp [gset]), hv3_216, (by rw [hg3_216]; simp [gset]), hv4_216, (by rw [hg4_216]; simp [gset]), hv5_216, (by rw [hg5_216]; simp [gset]), hv6_216, (by rw [hg6_216]; simp [gset]), hv8_216, (by rw [hg8_216]; simp [gset]), hv9_216, (by rw [hg9_216]; simp [gset]), hv12_216, hv13_216, (by rw [hg13_216]; simp [gset]), hv14_216, (by rw [hg14_216]; simp [gset]), hv15_216, (by rw [hg15_216]; simp [gset]), hv17_216, (by rw [hg17_216]; simp [gset]), hv20_216, (by rw [hg20_216]; simp [gset]), hv23_216, (by rw [hg23_216]; simp [gset]), hv25_216, hv36_216, (by rw [hg36_216]; simp [gset]), hv47_216, (by rw [hg47_216]; simp [gset]), hv48_216, (by rw [hg48_216]; simp [gset]), hv53_216, (by rw [hg53_216]; simp [gset]), hv55_216, (by rw [hg55_216]; simp [gset]), hrel0_216⟩ (fun q hq => ((gset_ne (fun e => hq (by subst e; decide))).trans rfl))
                  have hT : TI g ad (gset th 13 x229.toInt) f232 := TI.cast hT (by funext q; simp only [gset]; (repeat' split); all_goals first | rfl | omega | (subst_vars; rfl) | (exfalso; omega))
                  refine lv_goto (tgt := 3) hx hb dX11_brings_46 (by decide) ?_
                  refine lv_iload_n hx hb dX11_brings_3 rfl (lv_at hl 0 rfl) ?_
                  refine lv_if_lt (tgt := 49) hx hb dX11_brings_4 (by decide) (fun c236 => ?_) (fun c236 => ?_)
                  ·
                    have ocm8 : ((-8) : Int32).toInt = (-8) := by decide
                    have oc0 : (0 : Int32).toInt = 0 := by decide
                    have cc237 : ((-8) : Int32).toInt < (0 : Int32).toInt := i32_lt.mp c236
                    have hby238 : b1 z1 24 = 1 := b1_1 (by rw [show byS z1 24 = x5 by rw [ex5, ex4]; rfl]; exact c7)
                    have hby239 : b1 z1 16 = 0 := b1_0 (by rw [show byS z1 16 = x34 by rw [ex34, ex33]; rfl]; exact c36)
                    have hby240 : b1 z1 8 = 1 := b1_1 (by rw [show byS z1 8 = x183 by rw [ex183, ex182]; rfl]; exact c185)
                    have hby241 : b1 z1 0 = 1 := b1_1 (by rw [show byS z1 0 = x211 by rw [ex211, ex210]; rfl]; exact c213)
                    exact ret_v hx hb hr hlocks hP hD hS (Nat.le_of_ble_eq_true rfl) (Nat.le_of_ble_eq_true rfl) (⟨rfl, ⟨x229.toInt, (show x229.toInt = th 13 + nb z1 from (by omega)), TI.cast hT (by funext q; simp only [gset]; (repeat' split); all_goals first | rfl | omega | (subst_vars; rfl) | (exfalso; omega))⟩, hfr⟩) dX11_brings_49
                  ·
                    have ocm8 : ((-8) : Int32).toInt = (-8) := by decide
                    have oc0 : (0 : Int32).toInt = 0 := by decide
                    have cc242 : (0 : Int32).toInt ≤ ((-8) : Int32).toInt := i32_nlt c236
                    exact In.empty (lo := 0) (hi := (-8)) (In.ge1 (⟨by decide, by decide⟩ : In (-8) (-8) (-8)) (⟨by decide, by decide⟩ : In 0 0 0) cc242 (by omega) (by omega)) (by decide)
                ·
                  have oc0 : (0 : Int32).toInt = 0 := by decide
                  have cc243 : x211.toInt = (0 : Int32).toInt := congrArg Int32.toInt c213
                  have hb244 : In x211 0 0 := In.eq1 hb212 (⟨by decide, by decide⟩ : In 0 0 0) cc243 (by omega) (by omega)
                  refine lv_goto (tgt := 43) hx hb dX11_brings_19 (by decide) ?_
                  refine lv_iinc (v := (-8)) (lv' := [(2, .int (-8)), (3, .int x211), (0, .ref (ad 255)), (1, .int z1)]) hx hb dX11_brings_43 hl (k := 1) rfl (by decide) (by decide) rfl (fun ls hl => ?_)
                  refine lv_goto (tgt := 3) hx hb dX11_brings_46 (by decide) ?_
                  refine lv_iload_n hx hb dX11_brings_3 rfl (lv_at hl 0 rfl) ?_
                  refine lv_if_lt (tgt := 49) hx hb dX11_brings_4 (by decide) (fun c245 => ?_) (fun c245 => ?_)
                  ·
                    have ocm8 : ((-8) : Int32).toInt = (-8) := by decide
                    have oc0 : (0 : Int32).toInt = 0 := by decide
                    have cc246 : ((-8) : Int32).toInt < (0 : Int32).toInt := i32_lt.mp c245
                    have hby247 : b1 z1 24 = 1 := b1_1 (by rw [show byS z1 24 = x5 by rw [ex5, ex4]; rfl]; exact c7)
                    have hby248 : b1 z1 16 = 0 := b1_0 (by rw [show byS z1 16 = x34 by rw [ex34, ex33]; rfl]; exact c36)
                    have hby249 : b1 z1 8 = 1 := b1_1 (by rw [show byS z1 8 = x183 by rw [ex183, ex182]; rfl]; exact c185)
                    have hby250 : b1 z1 0 = 0 := b1_0 (by rw [show byS z1 0 = x211 by rw [ex211, ex210]; rfl]; exact c213)
                    exact ret_v hx hb hr hlocks hP hD hS (Nat.le_of_ble_eq_true rfl) (Nat.le_of_ble_eq_true rfl) (⟨rfl, ⟨x200.toInt, (show x200.toInt = th 13 + nb z1 from (by omega)), TI.cast hT (by funext q; simp only [gset]; (repeat' split); all_goals first | rfl | omega | (subst_vars; rfl) | (exfalso; omega))⟩, hfr⟩) dX11_brings_49
                  ·
                    have ocm8 : ((-8) : Int32).toInt = (-8) := by decide
                    have oc0 : (0 : Int32).toInt = 0 := by decide
                    have cc251 : (0 : Int32).toInt ≤ ((-8) : Int32).toInt := i32_nlt c245
                    exact In.empty (lo := 0) (hi := (-8)) (In.ge1 (⟨by decide, by decide⟩ : In (-8) (-8) (-8)) (⟨by decide, by decide⟩ : In 0 0 0) cc251 (by omega) (by omega)) (by decide)
            ·
              have oc0 : (0 : Int32).toInt = 0 := by decide
              have cc252 : x183.toInt = (0 : Int32).toInt := congrArg Int32.toInt c185
              have hb253 : In x183 0 0 := In.eq1 hb184 (⟨by decide, by decide⟩ : In 0 0 0) cc252 (by omega) (by omega)
              refine lv_goto (tgt := 43) hx hb dX11_brings_19 (by decide) ?_
              refine lv_iinc (v := 0) (lv' := [(2, .int 0), (3, .int x183), (0, .ref (ad 255)), (1, .int z1)]) hx hb dX11_brings_43 hl (k := 1) rfl (by decide) (by decide) rfl (fun ls hl => ?_)
              refine lv_goto (tgt := 3) hx hb dX11_brings_46 (by decide) ?_
              refine lv_iload_n hx hb dX11_brings_3 rfl (lv_at hl 0 rfl) ?_
              refine lv_if_lt (tgt := 49) hx hb dX11_brings_4 (by decide) (fun c254 => ?_) (fun c254 => ?_)
              ·
                have oc0 : (0 : Int32).toInt = 0 := by decide
                have oc0 : (0 : Int32).toInt = 0 := by decide
                have cc255 : (0 : Int32).toInt < (0 : Int32).toInt := i32_lt.mp c254
                exact In.empty (lo := 0) (hi := (-1)) (In.lt1 (⟨by decide, by decide⟩ : In 0 0 0) (⟨by decide, by decide⟩ : In 0 0 0) cc255 (by omega) (by omega)) (by decide)
              ·
                have oc0 : (0 : Int32).toInt = 0 := by decide
                have oc0 : (0 : Int32).toInt = 0 := by decide
                have cc256 : (0 : Int32).toInt ≤ (0 : Int32).toInt := i32_nlt c254
                refine lv_iload_n hx hb dX11_brings_7 rfl (lv_at hl 3 rfl) ?_
                refine lv_iload_n hx hb dX11_brings_8 rfl (lv_at hl 0 rfl) ?_
                refine lv_ishr hx hb dX11_brings_9 ?_
                refine lv_topi (fun x257 ex257 => ?_)
                refine lv_sipush (v := 255) hx hb dX11_brings_10 (by decide) ?_
                refine lv_iand hx hb dX11_brings_13 ?_
                refine lv_topi (fun x258 ex258 => ?_)
                have hb259 : In x258 0 255 := ex258 ▸ In.andr (⟨by decide, by decide⟩ : In 255 255 255) (by decide)
                refine lv_istore_n (lv' := [(3, .int x258), (2, .int 0), (0, .ref (ad 255)), (1, .int z1)]) hx hb dX11_brings_14 rfl hl (by decide) rfl (fun ls hl => ?_)
                refine lv_iload_n hx hb dX11_brings_15 rfl (lv_at hl 0 rfl) ?_
                refine lv_if_ne (tgt := 22) hx hb dX11_brings_16 (by decide) (fun c260 => ?_) (fun c260 => ?_)
                ·
                  have oc0 : (0 : Int32).toInt = 0 := by decide
                  have cc261 : x258.toInt ≠ (0 : Int32).toInt := i32_ne c260
                  have hb262 : In x258 1 255 := In.ne1 hb259 (⟨by decide, by decide⟩ : In 0 0 0) cc261 (by omega) (by omega)
                  refine lv_aload_n hx hb dX11_brings_22 rfl (lv_at hl 2 rfl) ?_
                  obtain ⟨v0_263, v2_263, v3_263, v4_263, v5_263, v6_263, v8_263, v9_263, v12_263, v13_263, v14_263, v15_263, v16_263, v17_263, v18_263, v19_263, v20_263, v21_263, v22_263, v23_263, v25_263, v36_263, v37_263, v38_263, v39_263, v40_263, v45_263, v46_263, v47_263, v48_263, v50_263, v51_263, v53_263, v55_263, hf264, hv0_263, hv2_263, hg2_263, hv3_263, hg3_263, hv4_263, hg4_263, hv5_263, hg5_263, hv6_263, hg6_263, hv8_263, hg8_263, hv9_263, hg9_263, hv12_263, hv13_263, hg13_263, hv14_263, hg14_263, hv15_263, hg15_263, hv17_263, hg17_263, hv20_263, hg20_263, hv23_263, hg23_263, hv25_263, hv36_263, hg36_263, hv47_263, hg47_263, hv48_263, hg48_263, hv53_263, hg53_263, hv55_263, hg55_263, hrel0_263⟩ := hT.2.2 0 (by decide)
                  have hg2_263 : v2_263.toInt = x23.toInt := hg2_263
                  have hg3_263 : v3_263.toInt = th 37 := hg3_263
                  have hg4_263 : v4_263.toInt = th 42 := hg4_263
                  have hg5_263 : v5_263.toInt = th 40 := hg5_263
                  have hg6_263 : v6_263.toInt = th 41 := hg6_263
                  have hg8_263 : v8_263.toInt = th 43 := hg8_263
                  have hg9_263 : v9_263.toInt = th 35 := hg9_263
                  have hg13_263 : v13_263.toInt = th 36 := hg13_263
                  have hg14_263 : v14_263.toInt = th 10 := hg14_263
                  have hg15_263 : v15_263.toInt = th 11 := hg15_263
                  have hg17_263 : v17_263.toInt = th 12 := hg17_263
                  have hg20_263 : v20_263.toInt = th 14 := hg20_263
                  have hg23_263 : v23_263.toInt = th 15 := hg23_263
                  have hg36_263 : v36_263.toInt = th 18 := hg36_263
                  have hg47_263 : v47_263.toInt = th 16 := hg47_263
                  have hg48_263 : v48_263.toInt = th 17 := hg48_263
                  have hg53_263 : v53_263.toInt = th 38 := hg53_263
                  have hg55_263 : v55_263.toInt = th 39 := hg55_263
                  refine pl_get (v := .ref (ad 256)) hx hb hts (fun w h => mT (inX11 w h)) hown hG.1 hP (hst.1 255 (by decide)) hf264 rfl 1 (by decide) (hts _ (mT wg_1337)) (fun _ h => h) rfl dX11_brings_23 ?_
                  refine lv_aload_n hx hb dX11_brings_26 rfl (lv_at hl 2 rfl) ?_
                  refine pl_get (v := .int v2_263) hx hb hts (fun w h => mT (inX11 w h)) hown hG.1 hP (hst.1 255 (by decide)) hf264 rfl 2 (by decide) (hts _ (mT wg_1338)) (fun _ h => h) rfl dX11_brings_27 ?_
                  refine lv_iload_n hx hb dX11_brings_30 rfl (lv_at hl 0 rfl) ?_
                  refine lv_i2b hx hb dX11_brings_31 rfl ?_
                  refine lv_topi (fun x265 ex265 => ?_)
                  have hby266 : b1 z1 24 = 1 := b1_1 (by rw [show byS z1 24 = x5 by rw [ex5, ex4]; rfl]; exact c7)
                  have hby267 : b1 z1 16 = 0 := b1_0 (by rw [show byS z1 16 = x34 by rw [ex34, ex33]; rfl]; exact c36)
                  have hby268 : b1 z1 8 = 0 := b1_0 (by rw [show byS z1 8 = x183 by rw [ex183, ex182]; rfl]; exact c185)
                  have hby269 : b1 z1 0 = 1 := b1_1 (by rw [show byS z1 0 = x258 by rw [ex258, ex257]; rfl]; exact c260)
                  refine pl_bastE hx hb hG.1 hP hD hS (hst.1 256 (by decide)) 2 hf29 rfl (vp_of (by obtain ⟨o0a, o0b⟩ := (hv2_263 : In _ _ _); obtain ⟨o1a, o1b⟩ := (hv3_263 : In _ _ _); obtain ⟨o2a, o2b⟩ := (hv4_263 : In _ _ _); obtain ⟨o3a, o3b⟩ := (hv5_263 : In _ _ _); obtain ⟨o4a, o4b⟩ := (hv6_263 : In _ _ _); obtain ⟨o5a, o5b⟩ := (hv8_263 : In _ _ _); obtain ⟨o6a, o6b⟩ := (hv9_263 : In _ _ _); obtain ⟨o7a, o7b⟩ := (hv13_263 : In _ _ _); obtain ⟨o8a, o8b⟩ := (hv14_263 : In _ _ _); obtain ⟨o9a, o9b⟩ := (hv15_263 : In _ _ _); obtain ⟨o10a, o10b⟩ := (hv17_263 : In _ _ _); obtain ⟨o11a, o11b⟩ := (hv20_263 : In _ _ _); obtain ⟨o12a, o12b⟩ := (hv23_263 : In _ _ _); obtain ⟨o13a, o13b⟩ := (hv36_263 : In _ _ _); obtain ⟨o14a, o14b⟩ := (hv47_263 : In _ _ _); obtain ⟨o15a, o15b⟩ := (hv48_263 : In _ _ _); obtain ⟨o16a, o16b⟩ := (hv53_263 : In _ _ _); obtain ⟨o17a, o17b⟩ := (hv55_263 : In _ _ _); omega) (by obtain ⟨o0a, o0b⟩ := (hv2_263 : In _ _ _); obtain ⟨o1a, o1b⟩ := (hv3_263 : In _ _ _); obtain ⟨o2a, o2b⟩ := (hv4_263 : In _ _ _); obtain ⟨o3a, o3b⟩ := (hv5_263 : In _ _ _); obtain ⟨o4a, o4b⟩ := (hv6_263 : In _ _ _); obtain ⟨o5a, o5b⟩ := (hv8_263 : In _ _ _); obtain ⟨o6a, o6b⟩ := (hv9_263 : In _ _ _); obtain ⟨o7a, o7b⟩ := (hv13_263 : In _ _ _); obtain ⟨o8a, o8b⟩ := (hv14_263 : In _ _ _); obtain ⟨o9a, o9b⟩ := (hv15_263 : In _ _ _); obtain ⟨o10a, o10b⟩ := (hv17_263 : In _ _ _); obtain ⟨o11a, o11b⟩ := (hv20_263 : In _ _ _); obtain ⟨o12a, o12b⟩ := (hv23_263 : In _ _ _); obtain ⟨o13a, o13b⟩ := (hv36_263 : In _ _ _); obtain ⟨o14a, o14b⟩ := (hv47_263 : In _ _ _); obtain ⟨o15a, o15b⟩ := (hv48_263 : In _ _ _); obtain ⟨o16a, o16b⟩ := (hv53_263 : In _ _ _); obtain ⟨o17a, o17b⟩ := (hv55_263 : In _ _ _); omega)) dX11_brings_32 (fun H locs f270 r273 er273 hf271 ho272 hP hD hS => ?_)
                  have hc274 : ∀ i : Nat, i < 500 → In (r273 i) (-128) 127 := cont_upd er273 hc21 (nar_byte _)
                  have hf275 := (ho272 (ad 255) (hst.ne (by decide) (by decide) (by decide))).trans hf264
                  have hfr : (∀ b, b ≠ (ad 255) → b ≠ (ad 256) → f270 b = f b) := fun b z0_ z1_ => (ho272 b z1_).trans (hfr b z0_ z1_)
                  refine lv_aload_n hx hb dX11_brings_33 rfl (lv_at hl 2 rfl) ?_
                  refine lv_dup hx hb dX11_brings_34 rfl ?_
                  refine pl_get (v := .int v2_263) hx hb hts (fun w h => mT (inX11 w h)) hown hG.1 hP (hst.1 255 (by decide)) hf275 rfl 2 (by decide) (hts _ (mT wg_1338)) (fun _ h => h) rfl dX11_brings_35 ?_
                  refine lv_iconst (v := 1) hx hb dX11_brings_38 (by decide) ?_
                  refine lv_iadd hx hb dX11_brings_39 ?_
                  refine lv_topi (fun x276 ex276 => ?_)
                  have hb277 : In x276 1 501 := ex276 ▸ In.add hv2_263 (⟨by decide, by decide⟩ : In 1 1 1) (by decide) (by decide) (by decide) (by decide)
                  have et278 : x276.toInt = v2_263.toInt + 1 := In.adde ex276 hv2_263 (k := 1) (by decide) (by decide) (by decide)
                  have hT := TI.updM hT hst (k := 1) (by decide) hf271 ho272 ⟨r273, rfl, hc274⟩
                  refine pl_put (ty := .int) (v := .int x276) (fs' := [.int v0_263, .ref (ad 256), .int x276, .int v3_263, .int v4_263, .int v5_263, .int v6_263, .ref (ad 257), .int v8_263, .int v9_263, .ref (ad 258), .ref (ad 259), .int v12_263, .int v13_263, .int v14_263, .int v15_263, .int v16_263, .int v17_263, .int v18_263, .int v19_263, .int v20_263, .long v21_263, .long v22_263, .int v23_263, .ref (ad 260), .int v25_263, .ref (ad 261), .ref (ad 262), .ref (ad 263), .ref (ad 264), .ref (ad 265), .ref (ad 266), .ref (ad 267), .ref (ad 268), .ref (ad 269), .ref (ad 270), .int v36_263, .int v37_263, .int v38_263, .int v39_263, .int v40_263, .ref (ad 271), .ref (ad 272), .ref (ad 273), .ref (ad 274), .long v45_263, .long v46_263, .int v47_263, .int v48_263, .ref (ad 275), .int v50_263, .int v51_263, .ref (ad 276), .int v53_263, .ref (ad 277), .int v55_263]) hx hb hts (fun w h => mT (inX11 w h)) tyX11 tyX11_ok nmX11 hown hG.1 hP hD hS (hst.1 255 (by decide)) hf275 rfl 2 (by decide) (hts _ (mT wg_1338)) (fun _ h => h) rfl (by decide +kernel) (rfl) (rfl) (Nat.le_of_ble_eq_true rfl) rfl dX11_brings_40 (fun H locs f279 hf280 ho281 hP hD hS => ?_)
                  have hf282 := (ho281 (ad 256) (hst.ne (by decide) (by decide) (by decide))).trans hf271
                  have hfr : (∀ b, b ≠ (ad 255) → b ≠ (ad 256) → f279 b = f b) := fun b z0_ z1_ => (ho281 b z0_).trans (hfr b z0_ z1_)
                  refine lv_iinc (v := (-8)) (lv' := [(2, .int (-8)), (3, .int x258), (0, .ref (ad 255)), (1, .int z1)]) hx hb dX11_brings_43 hl (k := 1) rfl (by decide) (by decide) rfl (fun ls hl => ?_)
                  have hT := TI.updMG (th' := (gset (gset th 13 x23.toInt) 13 (x276.toInt))) hT hst (k := 0) (by decide) hf280 ho281 ⟨v0_263, x276, v3_263, v4_263, v5_263, v6_263, v8_263, v9_263, v12_263, v13_263, v14_263, v15_263, v16_263, v17_263, v18_263, v19_263, v20_263, v21_263, v22_263, v23_263, v25_263, v36_263, v37_263, v38_263, v39_263, v40_263, v45_263, v46_263, v47_263, v48_263, v50_263, v51_263, v53_263, v55_263, rfl, hv0_263, (In.mk (by obtain ⟨o0a, o0b⟩ := (hb277 : In _ _ _); obtain ⟨o1a, o1b⟩ := (hv3_263 : In _ _ _); obtain ⟨o2a, o2b⟩ := (hv4_263 : In _ _ _); obtain ⟨o3a, o3b⟩ := (hv5_263 : In _ _ _); obtain ⟨o4a, o4b⟩ := (hv6_263 : In _ _ _); obtain ⟨o5a, o5b⟩ := (hv8_263 : In _ _ _); obtain ⟨o6a, o6b⟩ := (hv9_263 : In _ _ _); obtain ⟨o7a, o7b⟩ := (hv13_263 : In _ _ _); obtain ⟨o8a, o8b⟩ := (hv14_263 : In _ _ _); obtain ⟨o9a, o9b⟩ := (hv15_263 : In _ _ _); obtain ⟨o10a, o10b⟩ := (hv17_263 : In _ _ _); obtain ⟨o11a, o11b⟩ := (hv20_263 : In _ _ _); obtain ⟨o12a, o12b⟩ := (hv23_263 : In _ _ _); obtain ⟨o13a, o13b⟩ := (hv36_263 : In _ _ _); obtain ⟨o14a, o14b⟩ := (hv47_263 : In _ _ _); obtain ⟨o15a, o15b⟩ := (hv48_263 : In _ _ _); obtain ⟨o16a, o16b⟩ := (hv53_263 : In _ _ _); obtain ⟨o17a, o17b⟩ := (hv55_263 : In _ _ _); obtain ⟨o18a, o18b⟩ := (hv2_263 : In _ _ _); omega) (by obtain ⟨o0a, o0b⟩ := (hb277 : In _ _ _); obtain ⟨o1a, o1b⟩ := (hv3_263 : In _ _ _); obtain ⟨o2a, o2b⟩ := (hv4_263 : In _ _ _); obtain ⟨o3a, o3b⟩ := (hv5_263 : In _ _ _); obtain ⟨o4a, o4b⟩ := (hv6_263 : In _ _ _); obtain ⟨o5a, o5b⟩ := (hv8_263 : In _ _ _); obtain ⟨o6a, o6b⟩ := (hv9_263 : In _ _ _); obtain ⟨o7a, o7b⟩ := (hv13_263 : In _ _ _); obtain ⟨o8a, o8b⟩ := (hv14_263 : In _ _ _); obtain ⟨o9a, o9b⟩ := (hv15_263 : In _ _ _); obtain ⟨o10a, o10b⟩ := (hv17_263 : In _ _ _); obtain ⟨o11a, o11b⟩ := (hv20_263 : In _ _ _); obtain ⟨o12a, o12b⟩ := (hv23_263 : In _ _ _); obtain ⟨o13a, o13b⟩ := (hv36_263 : In _ _ _); obtain ⟨o14a, o14b⟩ := (hv47_263 : In _ _ _); obtain ⟨o15a, o15b⟩ := (hv48_263 : In _ _ _); obtain ⟨o16a, o16b⟩ := (hv53_263 : In _ _ _); obtain ⟨o17a, o17b⟩ := (hv55_263 : In _ _ _); obtain ⟨o18a, o18b⟩ := (hv2_263 : In _ _ _); omega)), (by simp [gset]), hv3_263, (by rw [hg3_263]; simp [gset]), hv4_263, (by rw [hg4_263]; simp [gset]), hv5_263, (by rw [hg5_263]; simp [gset]), hv6_263, (by rw [hg6_263]; simp [gset]), hv8_263, (by rw [hg8_263]; simp [gset]), hv9_263, (by rw [hg9_263]; simp [gset]), hv12_263, hv13_263, (by rw [hg13_263]; simp [gset]), hv14_263, (by rw [hg14_263]; simp [gset]), hv15_263, (by rw [hg15_263]; simp [gset]), hv17_263, (by rw [hg17_263]; simp [gset]), hv20_263, (by rw [hg20_263]; simp [gset]), hv23_263, (by rw [hg23_263]; simp [gset]), hv25_263, hv36_263, (by rw [hg36_263]; simp [gset]), hv47_263, (by rw [hg47_263]; simp [gset]), hv48_263, (by rw [hg48_263]; simp [gset]), hv53_263, (by rw [hg53_263]; simp [gset]), hv55_263, (by rw [hg55_263]; simp [gset]), hrel0_263⟩ (fun q hq => ((gset_ne (fun e => hq (by subst e; decide))).trans rfl))
                  have hT : TI g ad (gset th 13 x276.toInt) f279 := TI.cast hT (by funext q; simp only [gset]; (repeat' split); all_goals first | rfl | omega | (subst_vars; rfl) | (exfalso; omega))
                  refine lv_goto (tgt := 3) hx hb dX11_brings_46 (by decide) ?_
                  refine lv_iload_n hx hb dX11_brings_3 rfl (lv_at hl 0 rfl) ?_
                  refine lv_if_lt (tgt := 49) hx hb dX11_brings_4 (by decide) (fun c283 => ?_) (fun c283 => ?_)
                  ·
                    have ocm8 : ((-8) : Int32).toInt = (-8) := by decide
                    have oc0 : (0 : Int32).toInt = 0 := by decide
                    have cc284 : ((-8) : Int32).toInt < (0 : Int32).toInt := i32_lt.mp c283
                    have hby285 : b1 z1 24 = 1 := b1_1 (by rw [show byS z1 24 = x5 by rw [ex5, ex4]; rfl]; exact c7)
                    have hby286 : b1 z1 16 = 0 := b1_0 (by rw [show byS z1 16 = x34 by rw [ex34, ex33]; rfl]; exact c36)
                    have hby287 : b1 z1 8 = 0 := b1_0 (by rw [show byS z1 8 = x183 by rw [ex183, ex182]; rfl]; exact c185)
                    have hby288 : b1 z1 0 = 1 := b1_1 (by rw [show byS z1 0 = x258 by rw [ex258, ex257]; rfl]; exact c260)
                    exact ret_v hx hb hr hlocks hP hD hS (Nat.le_of_ble_eq_true rfl) (Nat.le_of_ble_eq_true rfl) (⟨rfl, ⟨x276.toInt, (show x276.toInt = th 13 + nb z1 from (by omega)), TI.cast hT (by funext q; simp only [gset]; (repeat' split); all_goals first | rfl | omega | (subst_vars; rfl) | (exfalso; omega))⟩, hfr⟩) dX11_brings_49
                  ·
                    have ocm8 : ((-8) : Int32).toInt = (-8) := by decide
                    have oc0 : (0 : Int32).toInt = 0 := by decide
                    have cc289 : (0 : Int32).toInt ≤ ((-8) : Int32).toInt := i32_nlt c283
                    exact In.empty (lo := 0) (hi := (-8)) (In.ge1 (⟨by decide, by decide⟩ : In (-8) (-8) (-8)) (⟨by decide, by decide⟩ : In 0 0 0) cc289 (by omega) (by omega)) (by decide)
                ·
                  have oc0 : (0 : Int32).toInt = 0 := by decide
                  have cc290 : x258.toInt = (0 : Int32).toInt := congrArg Int32.toInt c260
                  have hb291 : In x258 0 0 := In.eq1 hb259 (⟨by decide, by decide⟩ : In 0 0 0) cc290 (by omega) (by omega)
                  refine lv_goto (tgt := 43) hx hb dX11_brings_19 (by decide) ?_
                  refine lv_iinc (v := (-8)) (lv' := [(2, .int (-8)), (3, .int x258), (0, .ref (ad 255)), (1, .int z1)]) hx hb dX11_brings_43 hl (k := 1) rfl (by decide) (by decide) rfl (fun ls hl => ?_)
                  refine lv_goto (tgt := 3) hx hb dX11_brings_46 (by decide) ?_
                  refine lv_iload_n hx hb dX11_brings_3 rfl (lv_at hl 0 rfl) ?_
                  refine lv_if_lt (tgt := 49) hx hb dX11_brings_4 (by decide) (fun c292 => ?_) (fun c292 => ?_)
                  ·
                    have ocm8 : ((-8) : Int32).toInt = (-8) := by decide
                    have oc0 : (0 : Int32).toInt = 0 := by decide
                    have cc293 : ((-8) : Int32).toInt < (0 : Int32).toInt := i32_lt.mp c292
                    have hby294 : b1 z1 24 = 1 := b1_1 (by rw [show byS z1 24 = x5 by rw [ex5, ex4]; rfl]; exact c7)
                    have hby295 : b1 z1 16 = 0 := b1_0 (by rw [show byS z1 16 = x34 by rw [ex34, ex33]; rfl]; exact c36)
                    have hby296 : b1 z1 8 = 0 := b1_0 (by rw [show byS z1 8 = x183 by rw [ex183, ex182]; rfl]; exact c185)
                    have hby297 : b1 z1 0 = 0 := b1_0 (by rw [show byS z1 0 = x258 by rw [ex258, ex257]; rfl]; exact c260)
                    exact ret_v hx hb hr hlocks hP hD hS (Nat.le_of_ble_eq_true rfl) (Nat.le_of_ble_eq_true rfl) (⟨rfl, ⟨x23.toInt, (show x23.toInt = th 13 + nb z1 from (by omega)), TI.cast hT (by funext q; simp only [gset]; (repeat' split); all_goals first | rfl | omega | (subst_vars; rfl) | (exfalso; omega))⟩, hfr⟩) dX11_brings_49
                  ·
                    have ocm8 : ((-8) : Int32).toInt = (-8) := by decide
                    have oc0 : (0 : Int32).toInt = 0 := by decide
                    have cc298 : (0 : Int32).toInt ≤ ((-8) : Int32).toInt := i32_nlt c292
                    exact In.empty (lo := 0) (hi := (-8)) (In.ge1 (⟨by decide, by decide⟩ : In (-8) (-8) (-8)) (⟨by decide, by decide⟩ : In 0 0 0) cc298 (by omega) (by omega)) (by decide)
    ·
      have oc0 : (0 : Int32).toInt = 0 := by decide
      have cc299 : x5.toInt = (0 : Int32).toInt := congrArg Int32.toInt c7
      have hb300 : In x5 0 0 := In.eq1 hb6 (⟨by decide, by decide⟩ : In 0 0 0) cc299 (by omega) (by omega)
      refine lv_goto (tgt := 43) hx hb dX11_brings_19 (by decide) ?_
      refine lv_iinc (v := 16) (lv' := [(2, .int 16), (3, .int x5), (0, .ref (ad 255)), (1, .int z1)]) hx hb dX11_brings_43 hl (k := 1) rfl (by decide) (by decide) rfl (fun ls hl => ?_)
      refine lv_goto (tgt := 3) hx hb dX11_brings_46 (by decide) ?_
      refine lv_iload_n hx hb dX11_brings_3 rfl (lv_at hl 0 rfl) ?_
      refine lv_if_lt (tgt := 49) hx hb dX11_brings_4 (by decide) (fun c301 => ?_) (fun c301 => ?_)
      ·
        have oc16 : (16 : Int32).toInt = 16 := by decide
        have oc0 : (0 : Int32).toInt = 0 := by decide
        have cc302 : (16 : Int32).toInt < (0 : Int32).toInt := i32_lt.mp c301
        exact In.empty (lo := 16) (hi := (-1)) (In.lt1 (⟨by decide, by decide⟩ : In 16 16 16) (⟨by decide, by decide⟩ : In 0 0 0) cc302 (by omega) (by omega)) (by decide)
      ·
        have oc16 : (16 : Int32).toInt = 16 := by decide
        have oc0 : (0 : Int32).toInt = 0 := by decide
        have cc303 : (0 : Int32).toInt ≤ (16 : Int32).toInt := i32_nlt c301
        refine lv_iload_n hx hb dX11_brings_7 rfl (lv_at hl 3 rfl) ?_
        refine lv_iload_n hx hb dX11_brings_8 rfl (lv_at hl 0 rfl) ?_
        refine lv_ishr hx hb dX11_brings_9 ?_
        refine lv_topi (fun x304 ex304 => ?_)
        refine lv_sipush (v := 255) hx hb dX11_brings_10 (by decide) ?_
        refine lv_iand hx hb dX11_brings_13 ?_
        refine lv_topi (fun x305 ex305 => ?_)
        have hb306 : In x305 0 255 := ex305 ▸ In.andr (⟨by decide, by decide⟩ : In 255 255 255) (by decide)
        refine lv_istore_n (lv' := [(3, .int x305), (2, .int 16), (0, .ref (ad 255)), (1, .int z1)]) hx hb dX11_brings_14 rfl hl (by decide) rfl (fun ls hl => ?_)
        refine lv_iload_n hx hb dX11_brings_15 rfl (lv_at hl 0 rfl) ?_
        refine lv_if_ne (tgt := 22) hx hb dX11_brings_16 (by decide) (fun c307 => ?_) (fun c307 => ?_)
        ·
          have oc0 : (0 : Int32).toInt = 0 := by decide
          have cc308 : x305.toInt ≠ (0 : Int32).toInt := i32_ne c307
          have hb309 : In x305 1 255 := In.ne1 hb306 (⟨by decide, by decide⟩ : In 0 0 0) cc308 (by omega) (by omega)
          refine lv_aload_n hx hb dX11_brings_22 rfl (lv_at hl 2 rfl) ?_
          obtain ⟨v0_310, v2_310, v3_310, v4_310, v5_310, v6_310, v8_310, v9_310, v12_310, v13_310, v14_310, v15_310, v16_310, v17_310, v18_310, v19_310, v20_310, v21_310, v22_310, v23_310, v25_310, v36_310, v37_310, v38_310, v39_310, v40_310, v45_310, v46_310, v47_310, v48_310, v50_310, v51_310, v53_310, v55_310, hf311, hv0_310, hv2_310, hg2_310, hv3_310, hg3_310, hv4_310, hg4_310, hv5_310, hg5_310, hv6_310, hg6_310, hv8_310, hg8_310, hv9_310, hg9_310, hv12_310, hv13_310, hg13_310, hv14_310, hg14_310, hv15_310, hg15_310, hv17_310, hg17_310, hv20_310, hg20_310, hv23_310, hg23_310, hv25_310, hv36_310, hg36_310, hv47_310, hg47_310, hv48_310, hg48_310, hv53_310, hg53_310, hv55_310, hg55_310, hrel0_310⟩ := hT.2.2 0 (by decide)
          refine pl_get (v := .ref (ad 256)) hx hb hts (fun w h => mT (inX11 w h)) hown hG.1 hP (hst.1 255 (by decide)) hf311 rfl 1 (by decide) (hts _ (mT wg_1337)) (fun _ h => h) rfl dX11_brings_23 ?_
          refine lv_aload_n hx hb dX11_brings_26 rfl (lv_at hl 2 rfl) ?_
          refine pl_get (v := .int v2_310) hx hb hts (fun w h => mT (inX11 w h)) hown hG.1 hP (hst.1 255 (by decide)) hf311 rfl 2 (by decide) (hts _ (mT wg_1338)) (fun _ h => h) rfl dX11_brings_27 ?_
          refine lv_iload_n hx hb dX11_brings_30 rfl (lv_at hl 0 rfl) ?_
          refine lv_i2b hx hb dX11_brings_31 rfl ?_
          refine lv_topi (fun x312 ex312 => ?_)
          have hby313 : b1 z1 24 = 0 := b1_0 (by rw [show byS z1 24 = x5 by rw [ex5, ex4]; rfl]; exact c7)
          have hby314 : b1 z1 16 = 1 := b1_1 (by rw [show byS z1 16 = x305 by rw [ex305, ex304]; rfl]; exact c307)
          obtain ⟨rw315, hf316, hc317⟩ := hT.2.2 1 (by decide)
          refine pl_bastE hx hb hG.1 hP hD hS (hst.1 256 (by decide)) 2 hf316 rfl (vp_of (by obtain ⟨o0a, o0b⟩ := (hv2_310 : In _ _ _); obtain ⟨o1a, o1b⟩ := (hv3_310 : In _ _ _); obtain ⟨o2a, o2b⟩ := (hv4_310 : In _ _ _); obtain ⟨o3a, o3b⟩ := (hv5_310 : In _ _ _); obtain ⟨o4a, o4b⟩ := (hv6_310 : In _ _ _); obtain ⟨o5a, o5b⟩ := (hv8_310 : In _ _ _); obtain ⟨o6a, o6b⟩ := (hv9_310 : In _ _ _); obtain ⟨o7a, o7b⟩ := (hv13_310 : In _ _ _); obtain ⟨o8a, o8b⟩ := (hv14_310 : In _ _ _); obtain ⟨o9a, o9b⟩ := (hv15_310 : In _ _ _); obtain ⟨o10a, o10b⟩ := (hv17_310 : In _ _ _); obtain ⟨o11a, o11b⟩ := (hv20_310 : In _ _ _); obtain ⟨o12a, o12b⟩ := (hv23_310 : In _ _ _); obtain ⟨o13a, o13b⟩ := (hv36_310 : In _ _ _); obtain ⟨o14a, o14b⟩ := (hv47_310 : In _ _ _); obtain ⟨o15a, o15b⟩ := (hv48_310 : In _ _ _); obtain ⟨o16a, o16b⟩ := (hv53_310 : In _ _ _); obtain ⟨o17a, o17b⟩ := (hv55_310 : In _ _ _); omega) (by obtain ⟨o0a, o0b⟩ := (hv2_310 : In _ _ _); obtain ⟨o1a, o1b⟩ := (hv3_310 : In _ _ _); obtain ⟨o2a, o2b⟩ := (hv4_310 : In _ _ _); obtain ⟨o3a, o3b⟩ := (hv5_310 : In _ _ _); obtain ⟨o4a, o4b⟩ := (hv6_310 : In _ _ _); obtain ⟨o5a, o5b⟩ := (hv8_310 : In _ _ _); obtain ⟨o6a, o6b⟩ := (hv9_310 : In _ _ _); obtain ⟨o7a, o7b⟩ := (hv13_310 : In _ _ _); obtain ⟨o8a, o8b⟩ := (hv14_310 : In _ _ _); obtain ⟨o9a, o9b⟩ := (hv15_310 : In _ _ _); obtain ⟨o10a, o10b⟩ := (hv17_310 : In _ _ _); obtain ⟨o11a, o11b⟩ := (hv20_310 : In _ _ _); obtain ⟨o12a, o12b⟩ := (hv23_310 : In _ _ _); obtain ⟨o13a, o13b⟩ := (hv36_310 : In _ _ _); obtain ⟨o14a, o14b⟩ := (hv47_310 : In _ _ _); obtain ⟨o15a, o15b⟩ := (hv48_310 : In _ _ _); obtain ⟨o16a, o16b⟩ := (hv53_310 : In _ _ _); obtain ⟨o17a, o17b⟩ := (hv55_310 : In _ _ _); omega)) dX11_brings_32 (fun H locs f318 r321 er321 hf319 ho320 hP hD hS => ?_)
          have hc322 : ∀ i : Nat, i < 500 → In (r321 i) (-128) 127 := cont_upd er321 hc317 (nar_byte _)
          have hf323 := (ho320 (ad 255) (hst.ne (by decide) (by decide) (by decide))).trans hf311
          have hfr : (∀ b, b ≠ (ad 255) → b ≠ (ad 256) → f318 b = f b) := fun b z0_ z1_ => (ho320 b z1_).trans (hfr b z0_ z1_)
          refine lv_aload_n hx hb dX11_brings_33 rfl (lv_at hl 2 rfl) ?_
          refine lv_dup hx hb dX11_brings_34 rfl ?_
          refine pl_get (v := .int v2_310) hx hb hts (fun w h => mT (inX11 w h)) hown hG.1 hP (hst.1 255 (by decide)) hf323 rfl 2 (by decide) (hts _ (mT wg_1338)) (fun _ h => h) rfl dX11_brings_35 ?_
          refine lv_iconst (v := 1) hx hb dX11_brings_38 (by decide) ?_
          refine lv_iadd hx hb dX11_brings_39 ?_
          refine lv_topi (fun x324 ex324 => ?_)
          have hb325 : In x324 1 501 := ex324 ▸ In.add hv2_310 (⟨by decide, by decide⟩ : In 1 1 1) (by decide) (by decide) (by decide) (by decide)
          have et326 : x324.toInt = v2_310.toInt + 1 := In.adde ex324 hv2_310 (k := 1) (by decide) (by decide) (by decide)
          have hT := TI.updM hT hst (k := 1) (by decide) hf319 ho320 ⟨r321, rfl, hc322⟩
          refine pl_put (ty := .int) (v := .int x324) (fs' := [.int v0_310, .ref (ad 256), .int x324, .int v3_310, .int v4_310, .int v5_310, .int v6_310, .ref (ad 257), .int v8_310, .int v9_310, .ref (ad 258), .ref (ad 259), .int v12_310, .int v13_310, .int v14_310, .int v15_310, .int v16_310, .int v17_310, .int v18_310, .int v19_310, .int v20_310, .long v21_310, .long v22_310, .int v23_310, .ref (ad 260), .int v25_310, .ref (ad 261), .ref (ad 262), .ref (ad 263), .ref (ad 264), .ref (ad 265), .ref (ad 266), .ref (ad 267), .ref (ad 268), .ref (ad 269), .ref (ad 270), .int v36_310, .int v37_310, .int v38_310, .int v39_310, .int v40_310, .ref (ad 271), .ref (ad 272), .ref (ad 273), .ref (ad 274), .long v45_310, .long v46_310, .int v47_310, .int v48_310, .ref (ad 275), .int v50_310, .int v51_310, .ref (ad 276), .int v53_310, .ref (ad 277), .int v55_310]) hx hb hts (fun w h => mT (inX11 w h)) tyX11 tyX11_ok nmX11 hown hG.1 hP hD hS (hst.1 255 (by decide)) hf323 rfl 2 (by decide) (hts _ (mT wg_1338)) (fun _ h => h) rfl (by decide +kernel) (rfl) (rfl) (Nat.le_of_ble_eq_true rfl) rfl dX11_brings_40 (fun H locs f327 hf328 ho329 hP hD hS => ?_)
          have hf330 := (ho329 (ad 256) (hst.ne (by decide) (by decide) (by decide))).trans hf319
          have hfr : (∀ b, b ≠ (ad 255) → b ≠ (ad 256) → f327 b = f b) := fun b z0_ z1_ => (ho329 b z0_).trans (hfr b z0_ z1_)
          refine lv_iinc (v := 8) (lv' := [(2, .int 8), (3, .int x305), (0, .ref (ad 255)), (1, .int z1)]) hx hb dX11_brings_43 hl (k := 1) rfl (by decide) (by decide) rfl (fun ls hl => ?_)
          have hT := TI.updMG (th' := (gset th 13 (x324.toInt))) hT hst (k := 0) (by decide) hf328 ho329 ⟨v0_310, x324, v3_310, v4_310, v5_310, v6_310, v8_310, v9_310, v12_310, v13_310, v14_310, v15_310, v16_310, v17_310, v18_310, v19_310, v20_310, v21_310, v22_310, v23_310, v25_310, v36_310, v37_310, v38_310, v39_310, v40_310, v45_310, v46_310, v47_310, v48_310, v50_310, v51_310, v53_310, v55_310, rfl, hv0_310, (In.mk (by obtain ⟨o0a, o0b⟩ := (hb325 : In _ _ _); obtain ⟨o1a, o1b⟩ := (hv3_310 : In _ _ _); obtain ⟨o2a, o2b⟩ := (hv4_310 : In _ _ _); obtain ⟨o3a, o3b⟩ := (hv5_310 : In _ _ _); obtain ⟨o4a, o4b⟩ := (hv6_310 : In _ _ _); obtain ⟨o5a, o5b⟩ := (hv8_310 : In _ _ _); obtain ⟨o6a, o6b⟩ := (hv9_310 : In _ _ _); obtain ⟨o7a, o7b⟩ := (hv13_310 : In _ _ _); obtain ⟨o8a, o8b⟩ := (hv14_310 : In _ _ _); obtain ⟨o9a, o9b⟩ := (hv15_310 : In _ _ _); obtain ⟨o10a, o10b⟩ := (hv17_310 : In _ _ _); obtain ⟨o11a, o11b⟩ := (hv20_310 : In _ _ _); obtain ⟨o12a, o12b⟩ := (hv23_310 : In _ _ _); obtain ⟨o13a, o13b⟩ := (hv36_310 : In _ _ _); obtain ⟨o14a, o14b⟩ := (hv47_310 : In _ _ _); obtain ⟨o15a, o15b⟩ := (hv48_310 : In _ _ _); obtain ⟨o16a, o16b⟩ := (hv53_310 : In _ _ _); obtain ⟨o17a, o17b⟩ := (hv55_310 : In _ _ _); obtain ⟨o18a, o18b⟩ := (hv2_310 : In _ _ _); omega) (by obtain ⟨o0a, o0b⟩ := (hb325 : In _ _ _); obtain ⟨o1a, o1b⟩ := (hv3_310 : In _ _ _); obtain ⟨o2a, o2b⟩ := (hv4_310 : In _ _ _); obtain ⟨o3a, o3b⟩ := (hv5_310 : In _ _ _); obtain ⟨o4a, o4b⟩ := (hv6_310 : In _ _ _); obtain ⟨o5a, o5b⟩ := (hv8_310 : In _ _ _); obtain ⟨o6a, o6b⟩ := (hv9_310 : In _ _ _); obtain ⟨o7a, o7b⟩ := (hv13_310 : In _ _ _); obtain ⟨o8a, o8b⟩ := (hv14_310 : In _ _ _); obtain ⟨o9a, o9b⟩ := (hv15_310 : In _ _ _); obtain ⟨o10a, o10b⟩ := (hv17_310 : In _ _ _); obtain ⟨o11a, o11b⟩ := (hv20_310 : In _ _ _); obtain ⟨o12a, o12b⟩ := (hv23_310 : In _ _ _); obtain ⟨o13a, o13b⟩ := (hv36_310 : In _ _ _); obtain ⟨o14a, o14b⟩ := (hv47_310 : In _ _ _); obtain ⟨o15a, o15b⟩ := (hv48_310 : In _ _ _); obtain ⟨o16a, o16b⟩ := (hv53_310 : In _ _ _); obtain ⟨o17a, o17b⟩ := (hv55_310 : In _ _ _); obtain ⟨o18a, o18b⟩ := (hv2_310 : In _ _ _); omega)), (by simp [gset]), hv3_310, (by rw [hg3_310]; simp [gset]), hv4_310, (by rw [hg4_310]; simp [gset]), hv5_310, (by rw [hg5_310]; simp [gset]), hv6_310, (by rw [hg6_310]; simp [gset]), hv8_310, (by rw [hg8_310]; simp [gset]), hv9_310, (by rw [hg9_310]; simp [gset]), hv12_310, hv13_310, (by rw [hg13_310]; simp [gset]), hv14_310, (by rw [hg14_310]; simp [gset]), hv15_310, (by rw [hg15_310]; simp [gset]), hv17_310, (by rw [hg17_310]; simp [gset]), hv20_310, (by rw [hg20_310]; simp [gset]), hv23_310, (by rw [hg23_310]; simp [gset]), hv25_310, hv36_310, (by rw [hg36_310]; simp [gset]), hv47_310, (by rw [hg47_310]; simp [gset]), hv48_310, (by rw [hg48_310]; simp [gset]), hv53_310, (by rw [hg53_310]; simp [gset]), hv55_310, (by rw [hg55_310]; simp [gset]), hrel0_310⟩ (fun q hq => ((gset_ne (fun e => hq (by subst e; decide))).trans rfl))
          have hT : TI g ad (gset th 13 x324.toInt) f327 := TI.cast hT (by funext q; simp only [gset]; (repeat' split); all_goals first | rfl | omega | (subst_vars; rfl) | (exfalso; omega))
          refine lv_goto (tgt := 3) hx hb dX11_brings_46 (by decide) ?_
          refine lv_iload_n hx hb dX11_brings_3 rfl (lv_at hl 0 rfl) ?_
          refine lv_if_lt (tgt := 49) hx hb dX11_brings_4 (by decide) (fun c331 => ?_) (fun c331 => ?_)
          ·
            have oc8 : (8 : Int32).toInt = 8 := by decide
            have oc0 : (0 : Int32).toInt = 0 := by decide
            have cc332 : (8 : Int32).toInt < (0 : Int32).toInt := i32_lt.mp c331
            exact In.empty (lo := 8) (hi := (-1)) (In.lt1 (⟨by decide, by decide⟩ : In 8 8 8) (⟨by decide, by decide⟩ : In 0 0 0) cc332 (by omega) (by omega)) (by decide)
          ·
            have oc8 : (8 : Int32).toInt = 8 := by decide
            have oc0 : (0 : Int32).toInt = 0 := by decide
            have cc333 : (0 : Int32).toInt ≤ (8 : Int32).toInt := i32_nlt c331
            refine lv_iload_n hx hb dX11_brings_7 rfl (lv_at hl 3 rfl) ?_
            refine lv_iload_n hx hb dX11_brings_8 rfl (lv_at hl 0 rfl) ?_
            refine lv_ishr hx hb dX11_brings_9 ?_
            refine lv_topi (fun x334 ex334 => ?_)
            refine lv_sipush (v := 255) hx hb dX11_brings_10 (by decide) ?_
            refine lv_iand hx hb dX11_brings_13 ?_
            refine lv_topi (fun x335 ex335 => ?_)
            have hb336 : In x335 0 255 := ex335 ▸ In.andr (⟨by decide, by decide⟩ : In 255 255 255) (by decide)
            refine lv_istore_n (lv' := [(3, .int x335), (2, .int 8), (0, .ref (ad 255)), (1, .int z1)]) hx hb dX11_brings_14 rfl hl (by decide) rfl (fun ls hl => ?_)
            refine lv_iload_n hx hb dX11_brings_15 rfl (lv_at hl 0 rfl) ?_
            refine lv_if_ne (tgt := 22) hx hb dX11_brings_16 (by decide) (fun c337 => ?_) (fun c337 => ?_)
            ·
              have oc0 : (0 : Int32).toInt = 0 := by decide
              have cc338 : x335.toInt ≠ (0 : Int32).toInt := i32_ne c337
              have hb339 : In x335 1 255 := In.ne1 hb336 (⟨by decide, by decide⟩ : In 0 0 0) cc338 (by omega) (by omega)
              refine lv_aload_n hx hb dX11_brings_22 rfl (lv_at hl 2 rfl) ?_
              obtain ⟨v0_340, v2_340, v3_340, v4_340, v5_340, v6_340, v8_340, v9_340, v12_340, v13_340, v14_340, v15_340, v16_340, v17_340, v18_340, v19_340, v20_340, v21_340, v22_340, v23_340, v25_340, v36_340, v37_340, v38_340, v39_340, v40_340, v45_340, v46_340, v47_340, v48_340, v50_340, v51_340, v53_340, v55_340, hf341, hv0_340, hv2_340, hg2_340, hv3_340, hg3_340, hv4_340, hg4_340, hv5_340, hg5_340, hv6_340, hg6_340, hv8_340, hg8_340, hv9_340, hg9_340, hv12_340, hv13_340, hg13_340, hv14_340, hg14_340, hv15_340, hg15_340, hv17_340, hg17_340, hv20_340, hg20_340, hv23_340, hg23_340, hv25_340, hv36_340, hg36_340, hv47_340, hg47_340, hv48_340, hg48_340, hv53_340, hg53_340, hv55_340, hg55_340, hrel0_340⟩ := hT.2.2 0 (by decide)
              have hg2_340 : v2_340.toInt = x324.toInt := hg2_340
              have hg3_340 : v3_340.toInt = th 37 := hg3_340
              have hg4_340 : v4_340.toInt = th 42 := hg4_340
              have hg5_340 : v5_340.toInt = th 40 := hg5_340
              have hg6_340 : v6_340.toInt = th 41 := hg6_340
              have hg8_340 : v8_340.toInt = th 43 := hg8_340
              have hg9_340 : v9_340.toInt = th 35 := hg9_340
              have hg13_340 : v13_340.toInt = th 36 := hg13_340
              have hg14_340 : v14_340.toInt = th 10 := hg14_340
              have hg15_340 : v15_340.toInt = th 11 := hg15_340
              have hg17_340 : v17_340.toInt = th 12 := hg17_340
              have hg20_340 : v20_340.toInt = th 14 := hg20_340
              have hg23_340 : v23_340.toInt = th 15 := hg23_340
              have hg36_340 : v36_340.toInt = th 18 := hg36_340
              have hg47_340 : v47_340.toInt = th 16 := hg47_340
              have hg48_340 : v48_340.toInt = th 17 := hg48_340
              have hg53_340 : v53_340.toInt = th 38 := hg53_340
              have hg55_340 : v55_340.toInt = th 39 := hg55_340
              refine pl_get (v := .ref (ad 256)) hx hb hts (fun w h => mT (inX11 w h)) hown hG.1 hP (hst.1 255 (by decide)) hf341 rfl 1 (by decide) (hts _ (mT wg_1337)) (fun _ h => h) rfl dX11_brings_23 ?_
              refine lv_aload_n hx hb dX11_brings_26 rfl (lv_at hl 2 rfl) ?_
              refine pl_get (v := .int v2_340) hx hb hts (fun w h => mT (inX11 w h)) hown hG.1 hP (hst.1 255 (by decide)) hf341 rfl 2 (by decide) (hts _ (mT wg_1338)) (fun _ h => h) rfl dX11_brings_27 ?_
              refine lv_iload_n hx hb dX11_brings_30 rfl (lv_at hl 0 rfl) ?_
              refine lv_i2b hx hb dX11_brings_31 rfl ?_
              refine lv_topi (fun x342 ex342 => ?_)
              have hby343 : b1 z1 24 = 0 := b1_0 (by rw [show byS z1 24 = x5 by rw [ex5, ex4]; rfl]; exact c7)
              have hby344 : b1 z1 16 = 1 := b1_1 (by rw [show byS z1 16 = x305 by rw [ex305, ex304]; rfl]; exact c307)
              have hby345 : b1 z1 8 = 1 := b1_1 (by rw [show byS z1 8 = x335 by rw [ex335, ex334]; rfl]; exact c337)
              refine pl_bastE hx hb hG.1 hP hD hS (hst.1 256 (by decide)) 2 hf330 rfl (vp_of (by obtain ⟨o0a, o0b⟩ := (hv2_340 : In _ _ _); obtain ⟨o1a, o1b⟩ := (hv3_340 : In _ _ _); obtain ⟨o2a, o2b⟩ := (hv4_340 : In _ _ _); obtain ⟨o3a, o3b⟩ := (hv5_340 : In _ _ _); obtain ⟨o4a, o4b⟩ := (hv6_340 : In _ _ _); obtain ⟨o5a, o5b⟩ := (hv8_340 : In _ _ _); obtain ⟨o6a, o6b⟩ := (hv9_340 : In _ _ _); obtain ⟨o7a, o7b⟩ := (hv13_340 : In _ _ _); obtain ⟨o8a, o8b⟩ := (hv14_340 : In _ _ _); obtain ⟨o9a, o9b⟩ := (hv15_340 : In _ _ _); obtain ⟨o10a, o10b⟩ := (hv17_340 : In _ _ _); obtain ⟨o11a, o11b⟩ := (hv20_340 : In _ _ _); obtain ⟨o12a, o12b⟩ := (hv23_340 : In _ _ _); obtain ⟨o13a, o13b⟩ := (hv36_340 : In _ _ _); obtain ⟨o14a, o14b⟩ := (hv47_340 : In _ _ _); obtain ⟨o15a, o15b⟩ := (hv48_340 : In _ _ _); obtain ⟨o16a, o16b⟩ := (hv53_340 : In _ _ _); obtain ⟨o17a, o17b⟩ := (hv55_340 : In _ _ _); omega) (by obtain ⟨o0a, o0b⟩ := (hv2_340 : In _ _ _); obtain ⟨o1a, o1b⟩ := (hv3_340 : In _ _ _); obtain ⟨o2a, o2b⟩ := (hv4_340 : In _ _ _); obtain ⟨o3a, o3b⟩ := (hv5_340 : In _ _ _); obtain ⟨o4a, o4b⟩ := (hv6_340 : In _ _ _); obtain ⟨o5a, o5b⟩ := (hv8_340 : In _ _ _); obtain ⟨o6a, o6b⟩ := (hv9_340 : In _ _ _); obtain ⟨o7a, o7b⟩ := (hv13_340 : In _ _ _); obtain ⟨o8a, o8b⟩ := (hv14_340 : In _ _ _); obtain ⟨o9a, o9b⟩ := (hv15_340 : In _ _ _); obtain ⟨o10a, o10b⟩ := (hv17_340 : In _ _ _); obtain ⟨o11a, o11b⟩ := (hv20_340 : In _ _ _); obtain ⟨o12a, o12b⟩ := (hv23_340 : In _ _ _); obtain ⟨o13a, o13b⟩ := (hv36_340 : In _ _ _); obtain ⟨o14a, o14b⟩ := (hv47_340 : In _ _ _); obtain ⟨o15a, o15b⟩ := (hv48_340 : In _ _ _); obtain ⟨o16a, o16b⟩ := (hv53_340 : In _ _ _); obtain ⟨o17a, o17b⟩ := (hv55_340 : In _ _ _); omega)) dX11_brings_32 (fun H locs f346 r349 er349 hf347 ho348 hP hD hS => ?_)
              have hc350 : ∀ i : Nat, i < 500 → In (r349 i) (-128) 127 := cont_upd er349 hc322 (nar_byte _)
              have hf351 := (ho348 (ad 255) (hst.ne (by decide) (by decide) (by decide))).trans hf341
              have hfr : (∀ b, b ≠ (ad 255) → b ≠ (ad 256) → f346 b = f b) := fun b z0_ z1_ => (ho348 b z1_).trans (hfr b z0_ z1_)
              refine lv_aload_n hx hb dX11_brings_33 rfl (lv_at hl 2 rfl) ?_
              refine lv_dup hx hb dX11_brings_34 rfl ?_
              refine pl_get (v := .int v2_340) hx hb hts (fun w h => mT (inX11 w h)) hown hG.1 hP (hst.1 255 (by decide)) hf351 rfl 2 (by decide) (hts _ (mT wg_1338)) (fun _ h => h) rfl dX11_brings_35 ?_
              refine lv_iconst (v := 1) hx hb dX11_brings_38 (by decide) ?_
              refine lv_iadd hx hb dX11_brings_39 ?_
              refine lv_topi (fun x352 ex352 => ?_)
              have hb353 : In x352 1 501 := ex352 ▸ In.add hv2_340 (⟨by decide, by decide⟩ : In 1 1 1) (by decide) (by decide) (by decide) (by decide)
              have et354 : x352.toInt = v2_340.toInt + 1 := In.adde ex352 hv2_340 (k := 1) (by decide) (by decide) (by decide)
              have hT := TI.updM hT hst (k := 1) (by decide) hf347 ho348 ⟨r349, rfl, hc350⟩
              refine pl_put (ty := .int) (v := .int x352) (fs' := [.int v0_340, .ref (ad 256), .int x352, .int v3_340, .int v4_340, .int v5_340, .int v6_340, .ref (ad 257), .int v8_340, .int v9_340, .ref (ad 258), .ref (ad 259), .int v12_340, .int v13_340, .int v14_340, .int v15_340, .int v16_340, .int v17_340, .int v18_340, .int v19_340, .int v20_340, .long v21_340, .long v22_340, .int v23_340, .ref (ad 260), .int v25_340, .ref (ad 261), .ref (ad 262), .ref (ad 263), .ref (ad 264), .ref (ad 265), .ref (ad 266), .ref (ad 267), .ref (ad 268), .ref (ad 269), .ref (ad 270), .int v36_340, .int v37_340, .int v38_340, .int v39_340, .int v40_340, .ref (ad 271), .ref (ad 272), .ref (ad 273), .ref (ad 274), .long v45_340, .long v46_340, .int v47_340, .int v48_340, .ref (ad 275), .int v50_340, .int v51_340, .ref (ad 276), .int v53_340, .ref (ad 277), .int v55_340]) hx hb hts (fun w h => mT (inX11 w h)) tyX11 tyX11_ok nmX11 hown hG.1 hP hD hS (hst.1 255 (by decide)) hf351 rfl 2 (by decide) (hts _ (mT wg_1338)) (fun _ h => h) rfl (by decide +kernel) (rfl) (rfl) (Nat.le_of_ble_eq_true rfl) rfl dX11_brings_40 (fun H locs f355 hf356 ho357 hP hD hS => ?_)
              have hf358 := (ho357 (ad 256) (hst.ne (by decide) (by decide) (by decide))).trans hf347
              have hfr : (∀ b, b ≠ (ad 255) → b ≠ (ad 256) → f355 b = f b) := fun b z0_ z1_ => (ho357 b z0_).trans (hfr b z0_ z1_)
              refine lv_iinc (v := 0) (lv' := [(2, .int 0), (3, .int x335), (0, .ref (ad 255)), (1, .int z1)]) hx hb dX11_brings_43 hl (k := 1) rfl (by decide) (by decide) rfl (fun ls hl => ?_)
              have hT := TI.updMG (th' := (gset (gset th 13 x324.toInt) 13 (x352.toInt))) hT hst (k := 0) (by decide) hf356 ho357 ⟨v0_340, x352, v3_340, v4_340, v5_340, v6_340, v8_340, v9_340, v12_340, v13_340, v14_340, v15_340, v16_340, v17_340, v18_340, v19_340, v20_340, v21_340, v22_340, v23_340, v25_340, v36_340, v37_340, v38_340, v39_340, v40_340, v45_340, v46_340, v47_340, v48_340, v50_340, v51_340, v53_340, v55_340, rfl, hv0_340, (In.mk (by obtain ⟨o0a, o0b⟩ := (hb353 : In _ _ _); obtain ⟨o1a, o1b⟩ := (hv3_340 : In _ _ _); obtain ⟨o2a, o2b⟩ := (hv4_340 : In _ _ _); obtain ⟨o3a, o3b⟩ := (hv5_340 : In _ _ _); obtain ⟨o4a, o4b⟩ := (hv6_340 : In _ _ _); obtain ⟨o5a, o5b⟩ := (hv8_340 : In _ _ _); obtain ⟨o6a, o6b⟩ := (hv9_340 : In _ _ _); obtain ⟨o7a, o7b⟩ := (hv13_340 : In _ _ _); obtain ⟨o8a, o8b⟩ := (hv14_340 : In _ _ _); obtain ⟨o9a, o9b⟩ := (hv15_340 : In _ _ _); obtain ⟨o10a, o10b⟩ := (hv17_340 : In _ _ _); obtain ⟨o11a, o11b⟩ := (hv20_340 : In _ _ _); obtain ⟨o12a, o12b⟩ := (hv23_340 : In _ _ _); obtain ⟨o13a, o13b⟩ := (hv36_340 : In _ _ _); obtain ⟨o14a, o14b⟩ := (hv47_340 : In _ _ _); obtain ⟨o15a, o15b⟩ := (hv48_340 : In _ _ _); obtain ⟨o16a, o16b⟩ := (hv53_340 : In _ _ _); obtain ⟨o17a, o17b⟩ := (hv55_340 : In _ _ _); obtain ⟨o18a, o18b⟩ := (hv2_340 : In _ _ _); omega) (by obtain ⟨o0a, o0b⟩ := (hb353 : In _ _ _); obtain ⟨o1a, o1b⟩ := (hv3_340 : In _ _ _); obtain ⟨o2a, o2b⟩ := (hv4_340 : In _ _ _); obtain ⟨o3a, o3b⟩ := (hv5_340 : In _ _ _); obtain ⟨o4a, o4b⟩ := (hv6_340 : In _ _ _); obtain ⟨o5a, o5b⟩ := (hv8_340 : In _ _ _); obtain ⟨o6a, o6b⟩ := (hv9_340 : In _ _ _); obtain ⟨o7a, o7b⟩ := (hv13_340 : In _ _ _); obtain ⟨o8a, o8b⟩ := (hv14_340 : In _ _ _); obtain ⟨o9a, o9b⟩ := (hv15_340 : In _ _ _); obtain ⟨o10a, o10b⟩ := (hv17_340 : In _ _ _); obtain ⟨o11a, o11b⟩ := (hv20_340 : In _ _ _); obtain ⟨o12a, o12b⟩ := (hv23_340 : In _ _ _); obtain ⟨o13a, o13b⟩ := (hv36_340 : In _ _ _); obtain ⟨o14a, o14b⟩ := (hv47_340 : In _ _ _); obtain ⟨o15a, o15b⟩ := (hv48_340 : In _ _ _); obtain ⟨o16a, o16b⟩ := (hv53_340 : In _ _ _); obtain ⟨o17a, o17b⟩ := (hv55_340 : In _ _ _); obtain ⟨o18a, o18b⟩ := (hv2_340 : In _ _ _); omega)), (by simp [gset]), hv3_340, (by rw [hg3_340]; simp [gset]), hv4_340, (by rw [hg4_340]; simp [gset]), hv5_340, (by rw [hg5_340]; simp [gset]), hv6_340, (by rw [hg6_340]; simp [gset]), hv8_340, (by rw [hg8_340]; simp [gset]), hv9_340, (by rw [hg9_340]; simp [gset]), hv12_340, hv13_340, (by rw [hg13_340]; simp [gset]), hv14_340, (by rw [hg14_340]; simp [gset]), hv15_340, (by rw [hg15_340]; simp [gset]), hv17_340, (by rw [hg17_340]; simp [gset]), hv20_340, (by rw [hg20_340]; simp [gset]), hv23_340, (by rw [hg23_340]; simp [gset]), hv25_340, hv36_340, (by rw [hg36_340]; simp [gset]), hv47_340, (by rw [hg47_340]; simp [gset]), hv48_340, (by rw [hg48_340]; simp [gset]), hv53_340, (by rw [hg53_340]; simp [gset]), hv55_340, (by rw [hg55_340]; simp [gset]), hrel0_340⟩ (fun q hq => ((gset_ne (fun e => hq (by subst e; decide))).trans rfl))
              have hT : TI g ad (gset th 13 x352.toInt) f355 := TI.cast hT (by funext q; simp only [gset]; (repeat' split); all_goals first | rfl | omega | (subst_vars; rfl) | (exfalso; omega))
              refine lv_goto (tgt := 3) hx hb dX11_brings_46 (by decide) ?_
              refine lv_iload_n hx hb dX11_brings_3 rfl (lv_at hl 0 rfl) ?_
              refine lv_if_lt (tgt := 49) hx hb dX11_brings_4 (by decide) (fun c359 => ?_) (fun c359 => ?_)
              ·
                have oc0 : (0 : Int32).toInt = 0 := by decide
                have oc0 : (0 : Int32).toInt = 0 := by decide
                have cc360 : (0 : Int32).toInt < (0 : Int32).toInt := i32_lt.mp c359
                exact In.empty (lo := 0) (hi := (-1)) (In.lt1 (⟨by decide, by decide⟩ : In 0 0 0) (⟨by decide, by decide⟩ : In 0 0 0) cc360 (by omega) (by omega)) (by decide)
              ·
                have oc0 : (0 : Int32).toInt = 0 := by decide
                have oc0 : (0 : Int32).toInt = 0 := by decide
                have cc361 : (0 : Int32).toInt ≤ (0 : Int32).toInt := i32_nlt c359
                refine lv_iload_n hx hb dX11_brings_7 rfl (lv_at hl 3 rfl) ?_
                refine lv_iload_n hx hb dX11_brings_8 rfl (lv_at hl 0 rfl) ?_
                refine lv_ishr hx hb dX11_brings_9 ?_
                refine lv_topi (fun x362 ex362 => ?_)
                refine lv_sipush (v := 255) hx hb dX11_brings_10 (by decide) ?_
                refine lv_iand hx hb dX11_brings_13 ?_
                refine lv_topi (fun x363 ex363 => ?_)
                have hb364 : In x363 0 255 := ex363 ▸ In.andr (⟨by decide, by decide⟩ : In 255 255 255) (by decide)
                refine lv_istore_n (lv' := [(3, .int x363), (2, .int 0), (0, .ref (ad 255)), (1, .int z1)]) hx hb dX11_brings_14 rfl hl (by decide) rfl (fun ls hl => ?_)
                refine lv_iload_n hx hb dX11_brings_15 rfl (lv_at hl 0 rfl) ?_
                refine lv_if_ne (tgt := 22) hx hb dX11_brings_16 (by decide) (fun c365 => ?_) (fun c365 => ?_)
                ·
                  have oc0 : (0 : Int32).toInt = 0 := by decide
                  have cc366 : x363.toInt ≠ (0 : Int32).toInt := i32_ne c365
                  have hb367 : In x363 1 255 := In.ne1 hb364 (⟨by decide, by decide⟩ : In 0 0 0) cc366 (by omega) (by omega)
                  refine lv_aload_n hx hb dX11_brings_22 rfl (lv_at hl 2 rfl) ?_
                  obtain ⟨v0_368, v2_368, v3_368, v4_368, v5_368, v6_368, v8_368, v9_368, v12_368, v13_368, v14_368, v15_368, v16_368, v17_368, v18_368, v19_368, v20_368, v21_368, v22_368, v23_368, v25_368, v36_368, v37_368, v38_368, v39_368, v40_368, v45_368, v46_368, v47_368, v48_368, v50_368, v51_368, v53_368, v55_368, hf369, hv0_368, hv2_368, hg2_368, hv3_368, hg3_368, hv4_368, hg4_368, hv5_368, hg5_368, hv6_368, hg6_368, hv8_368, hg8_368, hv9_368, hg9_368, hv12_368, hv13_368, hg13_368, hv14_368, hg14_368, hv15_368, hg15_368, hv17_368, hg17_368, hv20_368, hg20_368, hv23_368, hg23_368, hv25_368, hv36_368, hg36_368, hv47_368, hg47_368, hv48_368, hg48_368, hv53_368, hg53_368, hv55_368, hg55_368, hrel0_368⟩ := hT.2.2 0 (by decide)
                  have hg2_368 : v2_368.toInt = x352.toInt := hg2_368
                  have hg3_368 : v3_368.toInt = th 37 := hg3_368
                  have hg4_368 : v4_368.toInt = th 42 := hg4_368
                  have hg5_368 : v5_368.toInt = th 40 := hg5_368
                  have hg6_368 : v6_368.toInt = th 41 := hg6_368
                  have hg8_368 : v8_368.toInt = th 43 := hg8_368
                  have hg9_368 : v9_368.toInt = th 35 := hg9_368
                  have hg13_368 : v13_368.toInt = th 36 := hg13_368
                  have hg14_368 : v14_368.toInt = th 10 := hg14_368
                  have hg15_368 : v15_368.toInt = th 11 := hg15_368
                  have hg17_368 : v17_368.toInt = th 12 := hg17_368
                  have hg20_368 : v20_368.toInt = th 14 := hg20_368
                  have hg23_368 : v23_368.toInt = th 15 := hg23_368
                  have hg36_368 : v36_368.toInt = th 18 := hg36_368
                  have hg47_368 : v47_368.toInt = th 16 := hg47_368
                  have hg48_368 : v48_368.toInt = th 17 := hg48_368
                  have hg53_368 : v53_368.toInt = th 38 := hg53_368
                  have hg55_368 : v55_368.toInt = th 39 := hg55_368
                  refine pl_get (v := .ref (ad 256)) hx hb hts (fun w h => mT (inX11 w h)) hown hG.1 hP (hst.1 255 (by decide)) hf369 rfl 1 (by decide) (hts _ (mT wg_1337)) (fun _ h => h) rfl dX11_brings_23 ?_
                  refine lv_aload_n hx hb dX11_brings_26 rfl (lv_at hl 2 rfl) ?_
                  refine pl_get (v := .int v2_368) hx hb hts (fun w h => mT (inX11 w h)) hown hG.1 hP (hst.1 255 (by decide)) hf369 rfl 2 (by decide) (hts _ (mT wg_1338)) (fun _ h => h) rfl dX11_brings_27 ?_
                  refine lv_iload_n hx hb dX11_brings_30 rfl (lv_at hl 0 rfl) ?_
                  refine lv_i2b hx hb dX11_brings_31 rfl ?_
                  refine lv_topi (fun x370 ex370 => ?_)
                  have hby371 : b1 z1 24 = 0 := b1_0 (by rw [show byS z1 24 = x5 by rw [ex5, ex4]; rfl]; exact c7)
                  have hby372 : b1 z1 16 = 1 := b1_1 (by rw [show byS z1 16 = x305 by rw [ex305, ex304]; rfl]; exact c307)
                  have hby373 : b1 z1 8 = 1 := b1_1 (by rw [show byS z1 8 = x335 by rw [ex335, ex334]; rfl]; exact c337)
                  have hby374 : b1 z1 0 = 1 := b1_1 (by rw [show byS z1 0 = x363 by rw [ex363, ex362]; rfl]; exact c365)
                  refine pl_bastE hx hb hG.1 hP hD hS (hst.1 256 (by decide)) 2 hf358 rfl (vp_of (by obtain ⟨o0a, o0b⟩ := (hv2_368 : In _ _ _); obtain ⟨o1a, o1b⟩ := (hv3_368 : In _ _ _); obtain ⟨o2a, o2b⟩ := (hv4_368 : In _ _ _); obtain ⟨o3a, o3b⟩ := (hv5_368 : In _ _ _); obtain ⟨o4a, o4b⟩ := (hv6_368 : In _ _ _); obtain ⟨o5a, o5b⟩ := (hv8_368 : In _ _ _); obtain ⟨o6a, o6b⟩ := (hv9_368 : In _ _ _); obtain ⟨o7a, o7b⟩ := (hv13_368 : In _ _ _); obtain ⟨o8a, o8b⟩ := (hv14_368 : In _ _ _); obtain ⟨o9a, o9b⟩ := (hv15_368 : In _ _ _); obtain ⟨o10a, o10b⟩ := (hv17_368 : In _ _ _); obtain ⟨o11a, o11b⟩ := (hv20_368 : In _ _ _); obtain ⟨o12a, o12b⟩ := (hv23_368 : In _ _ _); obtain ⟨o13a, o13b⟩ := (hv36_368 : In _ _ _); obtain ⟨o14a, o14b⟩ := (hv47_368 : In _ _ _); obtain ⟨o15a, o15b⟩ := (hv48_368 : In _ _ _); obtain ⟨o16a, o16b⟩ := (hv53_368 : In _ _ _); obtain ⟨o17a, o17b⟩ := (hv55_368 : In _ _ _); omega) (by obtain ⟨o0a, o0b⟩ := (hv2_368 : In _ _ _); obtain ⟨o1a, o1b⟩ := (hv3_368 : In _ _ _); obtain ⟨o2a, o2b⟩ := (hv4_368 : In _ _ _); obtain ⟨o3a, o3b⟩ := (hv5_368 : In _ _ _); obtain ⟨o4a, o4b⟩ := (hv6_368 : In _ _ _); obtain ⟨o5a, o5b⟩ := (hv8_368 : In _ _ _); obtain ⟨o6a, o6b⟩ := (hv9_368 : In _ _ _); obtain ⟨o7a, o7b⟩ := (hv13_368 : In _ _ _); obtain ⟨o8a, o8b⟩ := (hv14_368 : In _ _ _); obtain ⟨o9a, o9b⟩ := (hv15_368 : In _ _ _); obtain ⟨o10a, o10b⟩ := (hv17_368 : In _ _ _); obtain ⟨o11a, o11b⟩ := (hv20_368 : In _ _ _); obtain ⟨o12a, o12b⟩ := (hv23_368 : In _ _ _); obtain ⟨o13a, o13b⟩ := (hv36_368 : In _ _ _); obtain ⟨o14a, o14b⟩ := (hv47_368 : In _ _ _); obtain ⟨o15a, o15b⟩ := (hv48_368 : In _ _ _); obtain ⟨o16a, o16b⟩ := (hv53_368 : In _ _ _); obtain ⟨o17a, o17b⟩ := (hv55_368 : In _ _ _); omega)) dX11_brings_32 (fun H locs f375 r378 er378 hf376 ho377 hP hD hS => ?_)
                  have hc379 : ∀ i : Nat, i < 500 → In (r378 i) (-128) 127 := cont_upd er378 hc350 (nar_byte _)
                  have hf380 := (ho377 (ad 255) (hst.ne (by decide) (by decide) (by decide))).trans hf369
                  have hfr : (∀ b, b ≠ (ad 255) → b ≠ (ad 256) → f375 b = f b) := fun b z0_ z1_ => (ho377 b z1_).trans (hfr b z0_ z1_)
                  refine lv_aload_n hx hb dX11_brings_33 rfl (lv_at hl 2 rfl) ?_
                  refine lv_dup hx hb dX11_brings_34 rfl ?_
                  refine pl_get (v := .int v2_368) hx hb hts (fun w h => mT (inX11 w h)) hown hG.1 hP (hst.1 255 (by decide)) hf380 rfl 2 (by decide) (hts _ (mT wg_1338)) (fun _ h => h) rfl dX11_brings_35 ?_
                  refine lv_iconst (v := 1) hx hb dX11_brings_38 (by decide) ?_
                  refine lv_iadd hx hb dX11_brings_39 ?_
                  refine lv_topi (fun x381 ex381 => ?_)
                  have hb382 : In x381 1 501 := ex381 ▸ In.add hv2_368 (⟨by decide, by decide⟩ : In 1 1 1) (by decide) (by decide) (by decide) (by decide)
                  have et383 : x381.toInt = v2_368.toInt + 1 := In.adde ex381 hv2_368 (k := 1) (by decide) (by decide) (by decide)
                  have hT := TI.updM hT hst (k := 1) (by decide) hf376 ho377 ⟨r378, rfl, hc379⟩
                  refine pl_put (ty := .int) (v := .int x381) (fs' := [.int v0_368, .ref (ad 256), .int x381, .int v3_368, .int v4_368, .int v5_368, .int v6_368, .ref (ad 257), .int v8_368, .int v9_368, .ref (ad 258), .ref (ad 259), .int v12_368, .int v13_368, .int v14_368, .int v15_368, .int v16_368, .int v17_368, .int v18_368, .int v19_368, .int v20_368, .long v21_368, .long v22_368, .int v23_368, .ref (ad 260), .int v25_368, .ref (ad 261), .ref (ad 262), .ref (ad 263), .ref (ad 264), .ref (ad 265), .ref (ad 266), .ref (ad 267), .ref (ad 268), .ref (ad 269), .ref (ad 270), .int v36_368, .int v37_368, .int v38_368, .int v39_368, .int v40_368, .ref (ad 271), .ref (ad 272), .ref (ad 273), .ref (ad 274), .long v45_368, .long v46_368, .int v47_368, .int v48_368, .ref (ad 275), .int v50_368, .int v51_368, .ref (ad 276), .int v53_368, .ref (ad 277), .int v55_368]) hx hb hts (fun w h => mT (inX11 w h)) tyX11 tyX11_ok nmX11 hown hG.1 hP hD hS (hst.1 255 (by decide)) hf380 rfl 2 (by decide) (hts _ (mT wg_1338)) (fun _ h => h) rfl (by decide +kernel) (rfl) (rfl) (Nat.le_of_ble_eq_true rfl) rfl dX11_brings_40 (fun H locs f384 hf385 ho386 hP hD hS => ?_)
                  have hf387 := (ho386 (ad 256) (hst.ne (by decide) (by decide) (by decide))).trans hf376
                  have hfr : (∀ b, b ≠ (ad 255) → b ≠ (ad 256) → f384 b = f b) := fun b z0_ z1_ => (ho386 b z0_).trans (hfr b z0_ z1_)
                  refine lv_iinc (v := (-8)) (lv' := [(2, .int (-8)), (3, .int x363), (0, .ref (ad 255)), (1, .int z1)]) hx hb dX11_brings_43 hl (k := 1) rfl (by decide) (by decide) rfl (fun ls hl => ?_)
                  have hT := TI.updMG (th' := (gset (gset th 13 x352.toInt) 13 (x381.toInt))) hT hst (k := 0) (by decide) hf385 ho386 ⟨v0_368, x381, v3_368, v4_368, v5_368, v6_368, v8_368, v9_368, v12_368, v13_368, v14_368, v15_368, v16_368, v17_368, v18_368, v19_368, v20_368, v21_368, v22_368, v23_368, v25_368, v36_368, v37_368, v38_368, v39_368, v40_368, v45_368, v46_368, v47_368, v48_368, v50_368, v51_368, v53_368, v55_368, rfl, hv0_368, (In.mk (by obtain ⟨o0a, o0b⟩ := (hb382 : In _ _ _); obtain ⟨o1a, o1b⟩ := (hv3_368 : In _ _ _); obtain ⟨o2a, o2b⟩ := (hv4_368 : In _ _ _); obtain ⟨o3a, o3b⟩ := (hv5_368 : In _ _ _); obtain ⟨o4a, o4b⟩ := (hv6_368 : In _ _ _); obtain ⟨o5a, o5b⟩ := (hv8_368 : In _ _ _); obtain ⟨o6a, o6b⟩ := (hv9_368 : In _ _ _); obtain ⟨o7a, o7b⟩ := (hv13_368 : In _ _ _); obtain ⟨o8a, o8b⟩ := (hv14_368 : In _ _ _); obtain ⟨o9a, o9b⟩ := (hv15_368 : In _ _ _); obtain ⟨o10a, o10b⟩ := (hv17_368 : In _ _ _); obtain ⟨o11a, o11b⟩ := (hv20_368 : In _ _ _); obtain ⟨o12a, o12b⟩ := (hv23_368 : In _ _ _); obtain ⟨o13a, o13b⟩ := (hv36_368 : In _ _ _); obtain ⟨o14a, o14b⟩ := (hv47_368 : In _ _ _); obtain ⟨o15a, o15b⟩ := (hv48_368 : In _ _ _); obtain ⟨o16a, o16b⟩ := (hv53_368 : In _ _ _); obtain ⟨o17a, o17b⟩ := (hv55_368 : In _ _ _); obtain ⟨o18a, o18b⟩ := (hv2_368 : In _ _ _); omega) (by obtain ⟨o0a, o0b⟩ := (hb382 : In _ _ _); obtain ⟨o1a, o1b⟩ := (hv3_368 : In _ _ _); obtain ⟨o2a, o2b⟩ := (hv4_368 : In _ _ _); obtain ⟨o3a, o3b⟩ := (hv5_368 : In _ _ _); obtain ⟨o4a, o4b⟩ := (hv6_368 : In _ _ _); obtain ⟨o5a, o5b⟩ := (hv8_368 : In _ _ _); obtain ⟨o6a, o6b⟩ := (hv9_368 : In _ _ _); obtain ⟨o7a, o7b⟩ := (hv13_368 : In _ _ _); obtain ⟨o8a, o8b⟩ := (hv14_368 : In _ _ _); obtain ⟨o9a, o9b⟩ := (hv15_368 : In _ _ _); obtain ⟨o10a, o10b⟩ := (hv17_368 : In _ _ _); obtain ⟨o11a, o11b⟩ := (hv20_368 : In _ _ _); obtain ⟨o12a, o12b⟩ := (hv23_368 : In _ _ _); obtain ⟨o13a, o13b⟩ := (hv36_368 : In _ _ _); obtain ⟨o14a, o14b⟩ := (hv47_368 : In _ _ _); obtain ⟨o15a, o15b⟩ := (hv48_368 : In _ _ _); obtain ⟨o16a, o16b⟩ := (hv53_368 : In _ _ _); obtain ⟨o17a, o17b⟩ := (hv55_368 : In _ _ _); obtain ⟨o18a, o18b⟩ := (hv2_368 : In _ _ _); omega)), (by simp [gset]), hv3_368, (by rw [hg3_368]; simp [gset]), hv4_368, (by rw [hg4_368]; simp [gset]), hv5_368, (by rw [hg5_368]; simp [gset]), hv6_368, (by rw [hg6_368]; simp [gset]), hv8_368, (by rw [hg8_368]; simp [gset]), hv9_368, (by rw [hg9_368]; simp [gset]), hv12_368, hv13_368, (by rw [hg13_368]; simp [gset]), hv14_368, (by rw [hg14_368]; simp [gset]), hv15_368, (by rw [hg15_368]; simp [gset]), hv17_368, (by rw [hg17_368]; simp [gset]), hv20_368, (by rw [hg20_368]; simp [gset]), hv23_368, (by rw [hg23_368]; simp [gset]), hv25_368, hv36_368, (by rw [hg36_368]; simp [gset]), hv47_368, (by rw [hg47_368]; simp [gset]), hv48_368, (by rw [hg48_368]; simp [gset]), hv53_368, (by rw [hg53_368]; simp [gset]), hv55_368, (by rw [hg55_368]; simp [gset]), hrel0_368⟩ (fun q hq => ((gset_ne (fun e => hq (by subst e; decide))).trans rfl))
                  have hT : TI g ad (gset th 13 x381.toInt) f384 := TI.cast hT (by funext q; simp only [gset]; (repeat' split); all_goals first | rfl | omega | (subst_vars; rfl) | (exfalso; omega))
                  refine lv_goto (tgt := 3) hx hb dX11_brings_46 (by decide) ?_
                  refine lv_iload_n hx hb dX11_brings_3 rfl (lv_at hl 0 rfl) ?_
                  refine lv_if_lt (tgt := 49) hx hb dX11_brings_4 (by decide) (fun c388 => ?_) (fun c388 => ?_)
                  ·
                    have ocm8 : ((-8) : Int32).toInt = (-8) := by decide
                    have oc0 : (0 : Int32).toInt = 0 := by decide
                    have cc389 : ((-8) : Int32).toInt < (0 : Int32).toInt := i32_lt.mp c388
                    have hby390 : b1 z1 24 = 0 := b1_0 (by rw [show byS z1 24 = x5 by rw [ex5, ex4]; rfl]; exact c7)
                    have hby391 : b1 z1 16 = 1 := b1_1 (by rw [show byS z1 16 = x305 by rw [ex305, ex304]; rfl]; exact c307)
                    have hby392 : b1 z1 8 = 1 := b1_1 (by rw [show byS z1 8 = x335 by rw [ex335, ex334]; rfl]; exact c337)
                    have hby393 : b1 z1 0 = 1 := b1_1 (by rw [show byS z1 0 = x363 by rw [ex363, ex362]; rfl]; exact c365)
                    exact ret_v hx hb hr hlocks hP hD hS (Nat.le_of_ble_eq_true rfl) (Nat.le_of_ble_eq_true rfl) (⟨rfl, ⟨x381.toInt, (show x381.toInt = th 13 + nb z1 from (by omega)), TI.cast hT (by funext q; simp only [gset]; (repeat' split); all_goals first | rfl | omega | (subst_vars; rfl) | (exfalso; omega))⟩, hfr⟩) dX11_brings_49
                  ·
                    have ocm8 : ((-8) : Int32).toInt = (-8) := by decide
                    have oc0 : (0 : Int32).toInt = 0 := by decide
                    have cc394 : (0 : Int32).toInt ≤ ((-8) : Int32).toInt := i32_nlt c388
                    exact In.empty (lo := 0) (hi := (-8)) (In.ge1 (⟨by decide, by decide⟩ : In (-8) (-8) (-8)) (⟨by decide, by decide⟩ : In 0 0 0) cc394 (by omega) (by omega)) (by decide)
                ·
                  have oc0 : (0 : Int32).toInt = 0 := by decide
                  have cc395 : x363.toInt = (0 : Int32).toInt := congrArg Int32.toInt c365
                  have hb396 : In x363 0 0 := In.eq1 hb364 (⟨by decide, by decide⟩ : In 0 0 0) cc395 (by omega) (by omega)
                  refine lv_goto (tgt := 43) hx hb dX11_brings_19 (by decide) ?_
                  refine lv_iinc (v := (-8)) (lv' := [(2, .int (-8)), (3, .int x363), (0, .ref (ad 255)), (1, .int z1)]) hx hb dX11_brings_43 hl (k := 1) rfl (by decide) (by decide) rfl (fun ls hl => ?_)
                  refine lv_goto (tgt := 3) hx hb dX11_brings_46 (by decide) ?_
                  refine lv_iload_n hx hb dX11_brings_3 rfl (lv_at hl 0 rfl) ?_
                  refine lv_if_lt (tgt := 49) hx hb dX11_brings_4 (by decide) (fun c397 => ?_) (fun c397 => ?_)
                  ·
                    have ocm8 : ((-8) : Int32).toInt = (-8) := by decide
                    have oc0 : (0 : Int32).toInt = 0 := by decide
                    have cc398 : ((-8) : Int32).toInt < (0 : Int32).toInt := i32_lt.mp c397
                    have hby399 : b1 z1 24 = 0 := b1_0 (by rw [show byS z1 24 = x5 by rw [ex5, ex4]; rfl]; exact c7)
                    have hby400 : b1 z1 16 = 1 := b1_1 (by rw [show byS z1 16 = x305 by rw [ex305, ex304]; rfl]; exact c307)
                    have hby401 : b1 z1 8 = 1 := b1_1 (by rw [show byS z1 8 = x335 by rw [ex335, ex334]; rfl]; exact c337)
                    have hby402 : b1 z1 0 = 0 := b1_0 (by rw [show byS z1 0 = x363 by rw [ex363, ex362]; rfl]; exact c365)
                    exact ret_v hx hb hr hlocks hP hD hS (Nat.le_of_ble_eq_true rfl) (Nat.le_of_ble_eq_true rfl) (⟨rfl, ⟨x352.toInt, (show x352.toInt = th 13 + nb z1 from (by omega)), TI.cast hT (by funext q; simp only [gset]; (repeat' split); all_goals first | rfl | omega | (subst_vars; rfl) | (exfalso; omega))⟩, hfr⟩) dX11_brings_49
                  ·
                    have ocm8 : ((-8) : Int32).toInt = (-8) := by decide
                    have oc0 : (0 : Int32).toInt = 0 := by decide
                    have cc403 : (0 : Int32).toInt ≤ ((-8) : Int32).toInt := i32_nlt c397
                    exact In.empty (lo := 0) (hi := (-8)) (In.ge1 (⟨by decide, by decide⟩ : In (-8) (-8) (-8)) (⟨by decide, by decide⟩ : In 0 0 0) cc403 (by omega) (by omega)) (by decide)
            ·
              have oc0 : (0 : Int32).toInt = 0 := by decide
              have cc404 : x335.toInt = (0 : Int32).toInt := congrArg Int32.toInt c337
              have hb405 : In x335 0 0 := In.eq1 hb336 (⟨by decide, by decide⟩ : In 0 0 0) cc404 (by omega) (by omega)
              refine lv_goto (tgt := 43) hx hb dX11_brings_19 (by decide) ?_
              refine lv_iinc (v := 0) (lv' := [(2, .int 0), (3, .int x335), (0, .ref (ad 255)), (1, .int z1)]) hx hb dX11_brings_43 hl (k := 1) rfl (by decide) (by decide) rfl (fun ls hl => ?_)
              refine lv_goto (tgt := 3) hx hb dX11_brings_46 (by decide) ?_
              refine lv_iload_n hx hb dX11_brings_3 rfl (lv_at hl 0 rfl) ?_
              refine lv_if_lt (tgt := 49) hx hb dX11_brings_4 (by decide) (fun c406 => ?_) (fun c406 => ?_)
              ·
                have oc0 : (0 : Int32).toInt = 0 := by decide
                have oc0 : (0 : Int32).toInt = 0 := by decide
                have cc407 : (0 : Int32).toInt < (0 : Int32).toInt := i32_lt.mp c406
                exact In.empty (lo := 0) (hi := (-1)) (In.lt1 (⟨by decide, by decide⟩ : In 0 0 0) (⟨by decide, by decide⟩ : In 0 0 0) cc407 (by omega) (by omega)) (by decide)
              ·
                have oc0 : (0 : Int32).toInt = 0 := by decide
                have oc0 : (0 : Int32).toInt = 0 := by decide
                have cc408 : (0 : Int32).toInt ≤ (0 : Int32).toInt := i32_nlt c406
                refine lv_iload_n hx hb dX11_brings_7 rfl (lv_at hl 3 rfl) ?_
                refine lv_iload_n hx hb dX11_brings_8 rfl (lv_at hl 0 rfl) ?_
                refine lv_ishr hx hb dX11_brings_9 ?_
                refine lv_topi (fun x409 ex409 => ?_)
                refine lv_sipush (v := 255) hx hb dX11_brings_10 (by decide) ?_
                refine lv_iand hx hb dX11_brings_13 ?_
                refine lv_topi (fun x410 ex410 => ?_)
                have hb411 : In x410 0 255 := ex410 ▸ In.andr (⟨by decide, by decide⟩ : In 255 255 255) (by decide)
                refine lv_istore_n (lv' := [(3, .int x410), (2, .int 0), (0, .ref (ad 255)), (1, .int z1)]) hx hb dX11_brings_14 rfl hl (by decide) rfl (fun ls hl => ?_)
                refine lv_iload_n hx hb dX11_brings_15 rfl (lv_at hl 0 rfl) ?_
                refine lv_if_ne (tgt := 22) hx hb dX11_brings_16 (by decide) (fun c412 => ?_) (fun c412 => ?_)
                ·
                  have oc0 : (0 : Int32).toInt = 0 := by decide
                  have cc413 : x410.toInt ≠ (0 : Int32).toInt := i32_ne c412
                  have hb414 : In x410 1 255 := In.ne1 hb411 (⟨by decide, by decide⟩ : In 0 0 0) cc413 (by omega) (by omega)
                  refine lv_aload_n hx hb dX11_brings_22 rfl (lv_at hl 2 rfl) ?_
                  obtain ⟨v0_415, v2_415, v3_415, v4_415, v5_415, v6_415, v8_415, v9_415, v12_415, v13_415, v14_415, v15_415, v16_415, v17_415, v18_415, v19_415, v20_415, v21_415, v22_415, v23_415, v25_415, v36_415, v37_415, v38_415, v39_415, v40_415, v45_415, v46_415, v47_415, v48_415, v50_415, v51_415, v53_415, v55_415, hf416, hv0_415, hv2_415, hg2_415, hv3_415, hg3_415, hv4_415, hg4_415, hv5_415, hg5_415, hv6_415, hg6_415, hv8_415, hg8_415, hv9_415, hg9_415, hv12_415, hv13_415, hg13_415, hv14_415, hg14_415, hv15_415, hg15_415, hv17_415, hg17_415, hv20_415, hg20_415, hv23_415, hg23_415, hv25_415, hv36_415, hg36_415, hv47_415, hg47_415, hv48_415, hg48_415, hv53_415, hg53_415, hv55_415, hg55_415, hrel0_415⟩ := hT.2.2 0 (by decide)
                  have hg2_415 : v2_415.toInt = x324.toInt := hg2_415
                  have hg3_415 : v3_415.toInt = th 37 := hg3_415
                  have hg4_415 : v4_415.toInt = th 42 := hg4_415
                  have hg5_415 : v5_415.toInt = th 40 := hg5_415
                  have hg6_415 : v6_415.toInt = th 41 := hg6_415
                  have hg8_415 : v8_415.toInt = th 43 := hg8_415
                  have hg9_415 : v9_415.toInt = th 35 := hg9_415
                  have hg13_415 : v13_415.toInt = th 36 := hg13_415
                  have hg14_415 : v14_415.toInt = th 10 := hg14_415
                  have hg15_415 : v15_415.toInt = th 11 := hg15_415
                  have hg17_415 : v17_415.toInt = th 12 := hg17_415
                  have hg20_415 : v20_415.toInt = th 14 := hg20_415
                  have hg23_415 : v23_415.toInt = th 15 := hg23_415
                  have hg36_415 : v36_415.toInt = th 18 := hg36_415
                  have hg47_415 : v47_415.toInt = th 16 := hg47_415
                  have hg48_415 : v48_415.toInt = th 17 := hg48_415
                  have hg53_415 : v53_415.toInt = th 38 := hg53_415
                  have hg55_415 : v55_415.toInt = th 39 := hg55_415
                  refine pl_get (v := .ref (ad 256)) hx hb hts (fun w h => mT (inX11 w h)) hown hG.1 hP (hst.1 255 (by decide)) hf416 rfl 1 (by decide) (hts _ (mT wg_1337)) (fun _ h => h) rfl dX11_brings_23 ?_
                  refine lv_aload_n hx hb dX11_brings_26 rfl (lv_at hl 2 rfl) ?_
                  refine pl_get (v := .int v2_415) hx hb hts (fun w h => mT (inX11 w h)) hown hG.1 hP (hst.1 255 (by decide)) hf416 rfl 2 (by decide) (hts _ (mT wg_1338)) (fun _ h => h) rfl dX11_brings_27 ?_
                  refine lv_iload_n hx hb dX11_brings_30 rfl (lv_at hl 0 rfl) ?_
                  refine lv_i2b hx hb dX11_brings_31 rfl ?_
                  refine lv_topi (fun x417 ex417 => ?_)
                  have hby418 : b1 z1 24 = 0 := b1_0 (by rw [show byS z1 24 = x5 by rw [ex5, ex4]; rfl]; exact c7)
                  have hby419 : b1 z1 16 = 1 := b1_1 (by rw [show byS z1 16 = x305 by rw [ex305, ex304]; rfl]; exact c307)
                  have hby420 : b1 z1 8 = 0 := b1_0 (by rw [show byS z1 8 = x335 by rw [ex335, ex334]; rfl]; exact c337)
                  have hby421 : b1 z1 0 = 1 := b1_1 (by rw [show byS z1 0 = x410 by rw [ex410, ex409]; rfl]; exact c412)
                  refine pl_bastE hx hb hG.1 hP hD hS (hst.1 256 (by decide)) 2 hf330 rfl (vp_of (by obtain ⟨o0a, o0b⟩ := (hv2_415 : In _ _ _); obtain ⟨o1a, o1b⟩ := (hv3_415 : In _ _ _); obtain ⟨o2a, o2b⟩ := (hv4_415 : In _ _ _); obtain ⟨o3a, o3b⟩ := (hv5_415 : In _ _ _); obtain ⟨o4a, o4b⟩ := (hv6_415 : In _ _ _); obtain ⟨o5a, o5b⟩ := (hv8_415 : In _ _ _); obtain ⟨o6a, o6b⟩ := (hv9_415 : In _ _ _); obtain ⟨o7a, o7b⟩ := (hv13_415 : In _ _ _); obtain ⟨o8a, o8b⟩ := (hv14_415 : In _ _ _); obtain ⟨o9a, o9b⟩ := (hv15_415 : In _ _ _); obtain ⟨o10a, o10b⟩ := (hv17_415 : In _ _ _); obtain ⟨o11a, o11b⟩ := (hv20_415 : In _ _ _); obtain ⟨o12a, o12b⟩ := (hv23_415 : In _ _ _); obtain ⟨o13a, o13b⟩ := (hv36_415 : In _ _ _); obtain ⟨o14a, o14b⟩ := (hv47_415 : In _ _ _); obtain ⟨o15a, o15b⟩ := (hv48_415 : In _ _ _); obtain ⟨o16a, o16b⟩ := (hv53_415 : In _ _ _); obtain ⟨o17a, o17b⟩ := (hv55_415 : In _ _ _); omega) (by obtain ⟨o0a, o0b⟩ := (hv2_415 : In _ _ _); obtain ⟨o1a, o1b⟩ := (hv3_415 : In _ _ _); obtain ⟨o2a, o2b⟩ := (hv4_415 : In _ _ _); obtain ⟨o3a, o3b⟩ := (hv5_415 : In _ _ _); obtain ⟨o4a, o4b⟩ := (hv6_415 : In _ _ _); obtain ⟨o5a, o5b⟩ := (hv8_415 : In _ _ _); obtain ⟨o6a, o6b⟩ := (hv9_415 : In _ _ _); obtain ⟨o7a, o7b⟩ := (hv13_415 : In _ _ _); obtain ⟨o8a, o8b⟩ := (hv14_415 : In _ _ _); obtain ⟨o9a, o9b⟩ := (hv15_415 : In _ _ _); obtain ⟨o10a, o10b⟩ := (hv17_415 : In _ _ _); obtain ⟨o11a, o11b⟩ := (hv20_415 : In _ _ _); obtain ⟨o12a, o12b⟩ := (hv23_415 : In _ _ _); obtain ⟨o13a, o13b⟩ := (hv36_415 : In _ _ _); obtain ⟨o14a, o14b⟩ := (hv47_415 : In _ _ _); obtain ⟨o15a, o15b⟩ := (hv48_415 : In _ _ _); obtain ⟨o16a, o16b⟩ := (hv53_415 : In _ _ _); obtain ⟨o17a, o17b⟩ := (hv55_415 : In _ _ _); omega)) dX11_brings_32 (fun H locs f422 r425 er425 hf423 ho424 hP hD hS => ?_)
                  have hc426 : ∀ i : Nat, i < 500 → In (r425 i) (-128) 127 := cont_upd er425 hc322 (nar_byte _)
                  have hf427 := (ho424 (ad 255) (hst.ne (by decide) (by decide) (by decide))).trans hf416
                  have hfr : (∀ b, b ≠ (ad 255) → b ≠ (ad 256) → f422 b = f b) := fun b z0_ z1_ => (ho424 b z1_).trans (hfr b z0_ z1_)
                  refine lv_aload_n hx hb dX11_brings_33 rfl (lv_at hl 2 rfl) ?_
                  refine lv_dup hx hb dX11_brings_34 rfl ?_
                  refine pl_get (v := .int v2_415) hx hb hts (fun w h => mT (inX11 w h)) hown hG.1 hP (hst.1 255 (by decide)) hf427 rfl 2 (by decide) (hts _ (mT wg_1338)) (fun _ h => h) rfl dX11_brings_35 ?_
                  refine lv_iconst (v := 1) hx hb dX11_brings_38 (by decide) ?_
                  refine lv_iadd hx hb dX11_brings_39 ?_
                  refine lv_topi (fun x428 ex428 => ?_)
                  have hb429 : In x428 1 501 := ex428 ▸ In.add hv2_415 (⟨by decide, by decide⟩ : In 1 1 1) (by decide) (by decide) (by decide) (by decide)
                  have et430 : x428.toInt = v2_415.toInt + 1 := In.adde ex428 hv2_415 (k := 1) (by decide) (by decide) (by decide)
                  have hT := TI.updM hT hst (k := 1) (by decide) hf423 ho424 ⟨r425, rfl, hc426⟩
                  refine pl_put (ty := .int) (v := .int x428) (fs' := [.int v0_415, .ref (ad 256), .int x428, .int v3_415, .int v4_415, .int v5_415, .int v6_415, .ref (ad 257), .int v8_415, .int v9_415, .ref (ad 258), .ref (ad 259), .int v12_415, .int v13_415, .int v14_415, .int v15_415, .int v16_415, .int v17_415, .int v18_415, .int v19_415, .int v20_415, .long v21_415, .long v22_415, .int v23_415, .ref (ad 260), .int v25_415, .ref (ad 261), .ref (ad 262), .ref (ad 263), .ref (ad 264), .ref (ad 265), .ref (ad 266), .ref (ad 267), .ref (ad 268), .ref (ad 269), .ref (ad 270), .int v36_415, .int v37_415, .int v38_415, .int v39_415, .int v40_415, .ref (ad 271), .ref (ad 272), .ref (ad 273), .ref (ad 274), .long v45_415, .long v46_415, .int v47_415, .int v48_415, .ref (ad 275), .int v50_415, .int v51_415, .ref (ad 276), .int v53_415, .ref (ad 277), .int v55_415]) hx hb hts (fun w h => mT (inX11 w h)) tyX11 tyX11_ok nmX11 hown hG.1 hP hD hS (hst.1 255 (by decide)) hf427 rfl 2 (by decide) (hts _ (mT wg_1338)) (fun _ h => h) rfl (by decide +kernel) (rfl) (rfl) (Nat.le_of_ble_eq_true rfl) rfl dX11_brings_40 (fun H locs f431 hf432 ho433 hP hD hS => ?_)
                  have hf434 := (ho433 (ad 256) (hst.ne (by decide) (by decide) (by decide))).trans hf423
                  have hfr : (∀ b, b ≠ (ad 255) → b ≠ (ad 256) → f431 b = f b) := fun b z0_ z1_ => (ho433 b z0_).trans (hfr b z0_ z1_)
                  refine lv_iinc (v := (-8)) (lv' := [(2, .int (-8)), (3, .int x410), (0, .ref (ad 255)), (1, .int z1)]) hx hb dX11_brings_43 hl (k := 1) rfl (by decide) (by decide) rfl (fun ls hl => ?_)
                  have hT := TI.updMG (th' := (gset (gset th 13 x324.toInt) 13 (x428.toInt))) hT hst (k := 0) (by decide) hf432 ho433 ⟨v0_415, x428, v3_415, v4_415, v5_415, v6_415, v8_415, v9_415, v12_415, v13_415, v14_415, v15_415, v16_415, v17_415, v18_415, v19_415, v20_415, v21_415, v22_415, v23_415, v25_415, v36_415, v37_415, v38_415, v39_415, v40_415, v45_415, v46_415, v47_415, v48_415, v50_415, v51_415, v53_415, v55_415, rfl, hv0_415, (In.mk (by obtain ⟨o0a, o0b⟩ := (hb429 : In _ _ _); obtain ⟨o1a, o1b⟩ := (hv3_415 : In _ _ _); obtain ⟨o2a, o2b⟩ := (hv4_415 : In _ _ _); obtain ⟨o3a, o3b⟩ := (hv5_415 : In _ _ _); obtain ⟨o4a, o4b⟩ := (hv6_415 : In _ _ _); obtain ⟨o5a, o5b⟩ := (hv8_415 : In _ _ _); obtain ⟨o6a, o6b⟩ := (hv9_415 : In _ _ _); obtain ⟨o7a, o7b⟩ := (hv13_415 : In _ _ _); obtain ⟨o8a, o8b⟩ := (hv14_415 : In _ _ _); obtain ⟨o9a, o9b⟩ := (hv15_415 : In _ _ _); obtain ⟨o10a, o10b⟩ := (hv17_415 : In _ _ _); obtain ⟨o11a, o11b⟩ := (hv20_415 : In _ _ _); obtain ⟨o12a, o12b⟩ := (hv23_415 : In _ _ _); obtain ⟨o13a, o13b⟩ := (hv36_415 : In _ _ _); obtain ⟨o14a, o14b⟩ := (hv47_415 : In _ _ _); obtain ⟨o15a, o15b⟩ := (hv48_415 : In _ _ _); obtain ⟨o16a, o16b⟩ := (hv53_415 : In _ _ _); obtain ⟨o17a, o17b⟩ := (hv55_415 : In _ _ _); obtain ⟨o18a, o18b⟩ := (hv2_415 : In _ _ _); omega) (by obtain ⟨o0a, o0b⟩ := (hb429 : In _ _ _); obtain ⟨o1a, o1b⟩ := (hv3_415 : In _ _ _); obtain ⟨o2a, o2b⟩ := (hv4_415 : In _ _ _); obtain ⟨o3a, o3b⟩ := (hv5_415 : In _ _ _); obtain ⟨o4a, o4b⟩ := (hv6_415 : In _ _ _); obtain ⟨o5a, o5b⟩ := (hv8_415 : In _ _ _); obtain ⟨o6a, o6b⟩ := (hv9_415 : In _ _ _); obtain ⟨o7a, o7b⟩ := (hv13_415 : In _ _ _); obtain ⟨o8a, o8b⟩ := (hv14_415 : In _ _ _); obtain ⟨o9a, o9b⟩ := (hv15_415 : In _ _ _); obtain ⟨o10a, o10b⟩ := (hv17_415 : In _ _ _); obtain ⟨o11a, o11b⟩ := (hv20_415 : In _ _ _); obtain ⟨o12a, o12b⟩ := (hv23_415 : In _ _ _); obtain ⟨o13a, o13b⟩ := (hv36_415 : In _ _ _); obtain ⟨o14a, o14b⟩ := (hv47_415 : In _ _ _); obtain ⟨o15a, o15b⟩ := (hv48_415 : In _ _ _); obtain ⟨o16a, o16b⟩ := (hv53_415 : In _ _ _); obtain ⟨o17a, o17b⟩ := (hv55_415 : In _ _ _); obtain ⟨o18a, o18b⟩ := (hv2_415 : In _ _ _); omega)), (by simp [gset]), hv3_415, (by rw [hg3_415]; simp [gset]), hv4_415, (by rw [hg4_415]; simp [gset]), hv5_415, (by rw [hg5_415]; simp [gset]), hv6_415, (by rw [hg6_415]; simp [gset]), hv8_415, (by rw [hg8_415]; simp [gset]), hv9_415, (by rw [hg9_415]; simp [gset]), hv12_415, hv13_415, (by rw [hg13_415]; simp [gset]), hv14_415, (by rw [hg14_415]; simp [gset]), hv15_415, (by rw [hg15_415]; simp [gset]), hv17_415, (by rw [hg17_415]; simp [gset]), hv20_415, (by rw [hg20_415]; simp [gset]), hv23_415, (by rw [hg23_415]; simp [gset]), hv25_415, hv36_415, (by rw [hg36_415]; simp [gset]), hv47_415, (by rw [hg47_415]; simp [gset]), hv48_415, (by rw [hg48_415]; simp [gset]), hv53_415, (by rw [hg53_415]; simp [gset]), hv55_415, (by rw [hg55_415]; simp [gset]), hrel0_415⟩ (fun q hq => ((gset_ne (fun e => hq (by subst e; decide))).trans rfl))
                  have hT : TI g ad (gset th 13 x428.toInt) f431 := TI.cast hT (by funext q; simp only [gset]; (repeat' split); all_goals first | rfl | omega | (subst_vars; rfl) | (exfalso; omega))
                  refine lv_goto (tgt := 3) hx hb dX11_brings_46 (by decide) ?_
                  refine lv_iload_n hx hb dX11_brings_3 rfl (lv_at hl 0 rfl) ?_
                  refine lv_if_lt (tgt := 49) hx hb dX11_brings_4 (by decide) (fun c435 => ?_) (fun c435 => ?_)
                  ·
                    have ocm8 : ((-8) : Int32).toInt = (-8) := by decide
                    have oc0 : (0 : Int32).toInt = 0 := by decide
                    have cc436 : ((-8) : Int32).toInt < (0 : Int32).toInt := i32_lt.mp c435
                    have hby437 : b1 z1 24 = 0 := b1_0 (by rw [show byS z1 24 = x5 by rw [ex5, ex4]; rfl]; exact c7)
                    have hby438 : b1 z1 16 = 1 := b1_1 (by rw [show byS z1 16 = x305 by rw [ex305, ex304]; rfl]; exact c307)
                    have hby439 : b1 z1 8 = 0 := b1_0 (by rw [show byS z1 8 = x335 by rw [ex335, ex334]; rfl]; exact c337)
                    have hby440 : b1 z1 0 = 1 := b1_1 (by rw [show byS z1 0 = x410 by rw [ex410, ex409]; rfl]; exact c412)
                    exact ret_v hx hb hr hlocks hP hD hS (Nat.le_of_ble_eq_true rfl) (Nat.le_of_ble_eq_true rfl) (⟨rfl, ⟨x428.toInt, (show x428.toInt = th 13 + nb z1 from (by omega)), TI.cast hT (by funext q; simp only [gset]; (repeat' split); all_goals first | rfl | omega | (subst_vars; rfl) | (exfalso; omega))⟩, hfr⟩) dX11_brings_49
                  ·
                    have ocm8 : ((-8) : Int32).toInt = (-8) := by decide
                    have oc0 : (0 : Int32).toInt = 0 := by decide
                    have cc441 : (0 : Int32).toInt ≤ ((-8) : Int32).toInt := i32_nlt c435
                    exact In.empty (lo := 0) (hi := (-8)) (In.ge1 (⟨by decide, by decide⟩ : In (-8) (-8) (-8)) (⟨by decide, by decide⟩ : In 0 0 0) cc441 (by omega) (by omega)) (by decide)
                ·
                  have oc0 : (0 : Int32).toInt = 0 := by decide
                  have cc442 : x410.toInt = (0 : Int32).toInt := congrArg Int32.toInt c412
                  have hb443 : In x410 0 0 := In.eq1 hb411 (⟨by decide, by decide⟩ : In 0 0 0) cc442 (by omega) (by omega)
                  refine lv_goto (tgt := 43) hx hb dX11_brings_19 (by decide) ?_
                  refine lv_iinc (v := (-8)) (lv' := [(2, .int (-8)), (3, .int x410), (0, .ref (ad 255)), (1, .int z1)]) hx hb dX11_brings_43 hl (k := 1) rfl (by decide) (by decide) rfl (fun ls hl => ?_)
                  refine lv_goto (tgt := 3) hx hb dX11_brings_46 (by decide) ?_
                  refine lv_iload_n hx hb dX11_brings_3 rfl (lv_at hl 0 rfl) ?_
                  refine lv_if_lt (tgt := 49) hx hb dX11_brings_4 (by decide) (fun c444 => ?_) (fun c444 => ?_)
                  ·
                    have ocm8 : ((-8) : Int32).toInt = (-8) := by decide
                    have oc0 : (0 : Int32).toInt = 0 := by decide
                    have cc445 : ((-8) : Int32).toInt < (0 : Int32).toInt := i32_lt.mp c444
                    have hby446 : b1 z1 24 = 0 := b1_0 (by rw [show byS z1 24 = x5 by rw [ex5, ex4]; rfl]; exact c7)
                    have hby447 : b1 z1 16 = 1 := b1_1 (by rw [show byS z1 16 = x305 by rw [ex305, ex304]; rfl]; exact c307)
                    have hby448 : b1 z1 8 = 0 := b1_0 (by rw [show byS z1 8 = x335 by rw [ex335, ex334]; rfl]; exact c337)
                    have hby449 : b1 z1 0 = 0 := b1_0 (by rw [show byS z1 0 = x410 by rw [ex410, ex409]; rfl]; exact c412)
                    exact ret_v hx hb hr hlocks hP hD hS (Nat.le_of_ble_eq_true rfl) (Nat.le_of_ble_eq_true rfl) (⟨rfl, ⟨x324.toInt, (show x324.toInt = th 13 + nb z1 from (by omega)), TI.cast hT (by funext q; simp only [gset]; (repeat' split); all_goals first | rfl | omega | (subst_vars; rfl) | (exfalso; omega))⟩, hfr⟩) dX11_brings_49
                  ·
                    have ocm8 : ((-8) : Int32).toInt = (-8) := by decide
                    have oc0 : (0 : Int32).toInt = 0 := by decide
                    have cc450 : (0 : Int32).toInt ≤ ((-8) : Int32).toInt := i32_nlt c444
                    exact In.empty (lo := 0) (hi := (-8)) (In.ge1 (⟨by decide, by decide⟩ : In (-8) (-8) (-8)) (⟨by decide, by decide⟩ : In 0 0 0) cc450 (by omega) (by omega)) (by decide)
        ·
          have oc0 : (0 : Int32).toInt = 0 := by decide
          have cc451 : x305.toInt = (0 : Int32).toInt := congrArg Int32.toInt c307
          have hb452 : In x305 0 0 := In.eq1 hb306 (⟨by decide, by decide⟩ : In 0 0 0) cc451 (by omega) (by omega)
          refine lv_goto (tgt := 43) hx hb dX11_brings_19 (by decide) ?_
          refine lv_iinc (v := 8) (lv' := [(2, .int 8), (3, .int x305), (0, .ref (ad 255)), (1, .int z1)]) hx hb dX11_brings_43 hl (k := 1) rfl (by decide) (by decide) rfl (fun ls hl => ?_)
          refine lv_goto (tgt := 3) hx hb dX11_brings_46 (by decide) ?_
          refine lv_iload_n hx hb dX11_brings_3 rfl (lv_at hl 0 rfl) ?_
          refine lv_if_lt (tgt := 49) hx hb dX11_brings_4 (by decide) (fun c453 => ?_) (fun c453 => ?_)
          ·
            have oc8 : (8 : Int32).toInt = 8 := by decide
            have oc0 : (0 : Int32).toInt = 0 := by decide
            have cc454 : (8 : Int32).toInt < (0 : Int32).toInt := i32_lt.mp c453
            exact In.empty (lo := 8) (hi := (-1)) (In.lt1 (⟨by decide, by decide⟩ : In 8 8 8) (⟨by decide, by decide⟩ : In 0 0 0) cc454 (by omega) (by omega)) (by decide)
          ·
            have oc8 : (8 : Int32).toInt = 8 := by decide
            have oc0 : (0 : Int32).toInt = 0 := by decide
            have cc455 : (0 : Int32).toInt ≤ (8 : Int32).toInt := i32_nlt c453
            refine lv_iload_n hx hb dX11_brings_7 rfl (lv_at hl 3 rfl) ?_
            refine lv_iload_n hx hb dX11_brings_8 rfl (lv_at hl 0 rfl) ?_
            refine lv_ishr hx hb dX11_brings_9 ?_
            refine lv_topi (fun x456 ex456 => ?_)
            refine lv_sipush (v := 255) hx hb dX11_brings_10 (by decide) ?_
            refine lv_iand hx hb dX11_brings_13 ?_
            refine lv_topi (fun x457 ex457 => ?_)
            have hb458 : In x457 0 255 := ex457 ▸ In.andr (⟨by decide, by decide⟩ : In 255 255 255) (by decide)
            refine lv_istore_n (lv' := [(3, .int x457), (2, .int 8), (0, .ref (ad 255)), (1, .int z1)]) hx hb dX11_brings_14 rfl hl (by decide) rfl (fun ls hl => ?_)
            refine lv_iload_n hx hb dX11_brings_15 rfl (lv_at hl 0 rfl) ?_
            refine lv_if_ne (tgt := 22) hx hb dX11_brings_16 (by decide) (fun c459 => ?_) (fun c459 => ?_)
            ·
              have oc0 : (0 : Int32).toInt = 0 := by decide
              have cc460 : x457.toInt ≠ (0 : Int32).toInt := i32_ne c459
              have hb461 : In x457 1 255 := In.ne1 hb458 (⟨by decide, by decide⟩ : In 0 0 0) cc460 (by omega) (by omega)
              refine lv_aload_n hx hb dX11_brings_22 rfl (lv_at hl 2 rfl) ?_
              obtain ⟨v0_462, v2_462, v3_462, v4_462, v5_462, v6_462, v8_462, v9_462, v12_462, v13_462, v14_462, v15_462, v16_462, v17_462, v18_462, v19_462, v20_462, v21_462, v22_462, v23_462, v25_462, v36_462, v37_462, v38_462, v39_462, v40_462, v45_462, v46_462, v47_462, v48_462, v50_462, v51_462, v53_462, v55_462, hf463, hv0_462, hv2_462, hg2_462, hv3_462, hg3_462, hv4_462, hg4_462, hv5_462, hg5_462, hv6_462, hg6_462, hv8_462, hg8_462, hv9_462, hg9_462, hv12_462, hv13_462, hg13_462, hv14_462, hg14_462, hv15_462, hg15_462, hv17_462, hg17_462, hv20_462, hg20_462, hv23_462, hg23_462, hv25_462, hv36_462, hg36_462, hv47_462, hg47_462, hv48_462, hg48_462, hv53_462, hg53_462, hv55_462, hg55_462, hrel0_462⟩ := hT.2.2 0 (by decide)
              refine pl_get (v := .ref (ad 256)) hx hb hts (fun w h => mT (inX11 w h)) hown hG.1 hP (hst.1 255 (by decide)) hf463 rfl 1 (by decide) (hts _ (mT wg_1337)) (fun _ h => h) rfl dX11_brings_23 ?_
              refine lv_aload_n hx hb dX11_brings_26 rfl (lv_at hl 2 rfl) ?_
              refine pl_get (v := .int v2_462) hx hb hts (fun w h => mT (inX11 w h)) hown hG.1 hP (hst.1 255 (by decide)) hf463 rfl 2 (by decide) (hts _ (mT wg_1338)) (fun _ h => h) rfl dX11_brings_27 ?_
              refine lv_iload_n hx hb dX11_brings_30 rfl (lv_at hl 0 rfl) ?_
              refine lv_i2b hx hb dX11_brings_31 rfl ?_
              refine lv_topi (fun x464 ex464 => ?_)
              have hby465 : b1 z1 24 = 0 := b1_0 (by rw [show byS z1 24 = x5 by rw [ex5, ex4]; rfl]; exact c7)
              have hby466 : b1 z1 16 = 0 := b1_0 (by rw [show byS z1 16 = x305 by rw [ex305, ex304]; rfl]; exact c307)
              have hby467 : b1 z1 8 = 1 := b1_1 (by rw [show byS z1 8 = x457 by rw [ex457, ex456]; rfl]; exact c459)
              obtain ⟨rw468, hf469, hc470⟩ := hT.2.2 1 (by decide)
              refine pl_bastE hx hb hG.1 hP hD hS (hst.1 256 (by decide)) 2 hf469 rfl (vp_of (by obtain ⟨o0a, o0b⟩ := (hv2_462 : In _ _ _); obtain ⟨o1a, o1b⟩ := (hv3_462 : In _ _ _); obtain ⟨o2a, o2b⟩ := (hv4_462 : In _ _ _); obtain ⟨o3a, o3b⟩ := (hv5_462 : In _ _ _); obtain ⟨o4a, o4b⟩ := (hv6_462 : In _ _ _); obtain ⟨o5a, o5b⟩ := (hv8_462 : In _ _ _); obtain ⟨o6a, o6b⟩ := (hv9_462 : In _ _ _); obtain ⟨o7a, o7b⟩ := (hv13_462 : In _ _ _); obtain ⟨o8a, o8b⟩ := (hv14_462 : In _ _ _); obtain ⟨o9a, o9b⟩ := (hv15_462 : In _ _ _); obtain ⟨o10a, o10b⟩ := (hv17_462 : In _ _ _); obtain ⟨o11a, o11b⟩ := (hv20_462 : In _ _ _); obtain ⟨o12a, o12b⟩ := (hv23_462 : In _ _ _); obtain ⟨o13a, o13b⟩ := (hv36_462 : In _ _ _); obtain ⟨o14a, o14b⟩ := (hv47_462 : In _ _ _); obtain ⟨o15a, o15b⟩ := (hv48_462 : In _ _ _); obtain ⟨o16a, o16b⟩ := (hv53_462 : In _ _ _); obtain ⟨o17a, o17b⟩ := (hv55_462 : In _ _ _); omega) (by obtain ⟨o0a, o0b⟩ := (hv2_462 : In _ _ _); obtain ⟨o1a, o1b⟩ := (hv3_462 : In _ _ _); obtain ⟨o2a, o2b⟩ := (hv4_462 : In _ _ _); obtain ⟨o3a, o3b⟩ := (hv5_462 : In _ _ _); obtain ⟨o4a, o4b⟩ := (hv6_462 : In _ _ _); obtain ⟨o5a, o5b⟩ := (hv8_462 : In _ _ _); obtain ⟨o6a, o6b⟩ := (hv9_462 : In _ _ _); obtain ⟨o7a, o7b⟩ := (hv13_462 : In _ _ _); obtain ⟨o8a, o8b⟩ := (hv14_462 : In _ _ _); obtain ⟨o9a, o9b⟩ := (hv15_462 : In _ _ _); obtain ⟨o10a, o10b⟩ := (hv17_462 : In _ _ _); obtain ⟨o11a, o11b⟩ := (hv20_462 : In _ _ _); obtain ⟨o12a, o12b⟩ := (hv23_462 : In _ _ _); obtain ⟨o13a, o13b⟩ := (hv36_462 : In _ _ _); obtain ⟨o14a, o14b⟩ := (hv47_462 : In _ _ _); obtain ⟨o15a, o15b⟩ := (hv48_462 : In _ _ _); obtain ⟨o16a, o16b⟩ := (hv53_462 : In _ _ _); obtain ⟨o17a, o17b⟩ := (hv55_462 : In _ _ _); omega)) dX11_brings_32 (fun H locs f471 r474 er474 hf472 ho473 hP hD hS => ?_)
              have hc475 : ∀ i : Nat, i < 500 → In (r474 i) (-128) 127 := cont_upd er474 hc470 (nar_byte _)
              have hf476 := (ho473 (ad 255) (hst.ne (by decide) (by decide) (by decide))).trans hf463
              have hfr : (∀ b, b ≠ (ad 255) → b ≠ (ad 256) → f471 b = f b) := fun b z0_ z1_ => (ho473 b z1_).trans (hfr b z0_ z1_)
              refine lv_aload_n hx hb dX11_brings_33 rfl (lv_at hl 2 rfl) ?_
              refine lv_dup hx hb dX11_brings_34 rfl ?_
              refine pl_get (v := .int v2_462) hx hb hts (fun w h => mT (inX11 w h)) hown hG.1 hP (hst.1 255 (by decide)) hf476 rfl 2 (by decide) (hts _ (mT wg_1338)) (fun _ h => h) rfl dX11_brings_35 ?_
              refine lv_iconst (v := 1) hx hb dX11_brings_38 (by decide) ?_
              refine lv_iadd hx hb dX11_brings_39 ?_
              refine lv_topi (fun x477 ex477 => ?_)
              have hb478 : In x477 1 501 := ex477 ▸ In.add hv2_462 (⟨by decide, by decide⟩ : In 1 1 1) (by decide) (by decide) (by decide) (by decide)
              have et479 : x477.toInt = v2_462.toInt + 1 := In.adde ex477 hv2_462 (k := 1) (by decide) (by decide) (by decide)
              have hT := TI.updM hT hst (k := 1) (by decide) hf472 ho473 ⟨r474, rfl, hc475⟩
              refine pl_put (ty := .int) (v := .int x477) (fs' := [.int v0_462, .ref (ad 256), .int x477, .int v3_462, .int v4_462, .int v5_462, .int v6_462, .ref (ad 257), .int v8_462, .int v9_462, .ref (ad 258), .ref (ad 259), .int v12_462, .int v13_462, .int v14_462, .int v15_462, .int v16_462, .int v17_462, .int v18_462, .int v19_462, .int v20_462, .long v21_462, .long v22_462, .int v23_462, .ref (ad 260), .int v25_462, .ref (ad 261), .ref (ad 262), .ref (ad 263), .ref (ad 264), .ref (ad 265), .ref (ad 266), .ref (ad 267), .ref (ad 268), .ref (ad 269), .ref (ad 270), .int v36_462, .int v37_462, .int v38_462, .int v39_462, .int v40_462, .ref (ad 271), .ref (ad 272), .ref (ad 273), .ref (ad 274), .long v45_462, .long v46_462, .int v47_462, .int v48_462, .ref (ad 275), .int v50_462, .int v51_462, .ref (ad 276), .int v53_462, .ref (ad 277), .int v55_462]) hx hb hts (fun w h => mT (inX11 w h)) tyX11 tyX11_ok nmX11 hown hG.1 hP hD hS (hst.1 255 (by decide)) hf476 rfl 2 (by decide) (hts _ (mT wg_1338)) (fun _ h => h) rfl (by decide +kernel) (rfl) (rfl) (Nat.le_of_ble_eq_true rfl) rfl dX11_brings_40 (fun H locs f480 hf481 ho482 hP hD hS => ?_)
              have hf483 := (ho482 (ad 256) (hst.ne (by decide) (by decide) (by decide))).trans hf472
              have hfr : (∀ b, b ≠ (ad 255) → b ≠ (ad 256) → f480 b = f b) := fun b z0_ z1_ => (ho482 b z0_).trans (hfr b z0_ z1_)
              refine lv_iinc (v := 0) (lv' := [(2, .int 0), (3, .int x457), (0, .ref (ad 255)), (1, .int z1)]) hx hb dX11_brings_43 hl (k := 1) rfl (by decide) (by decide) rfl (fun ls hl => ?_)
              have hT := TI.updMG (th' := (gset th 13 (x477.toInt))) hT hst (k := 0) (by decide) hf481 ho482 ⟨v0_462, x477, v3_462, v4_462, v5_462, v6_462, v8_462, v9_462, v12_462, v13_462, v14_462, v15_462, v16_462, v17_462, v18_462, v19_462, v20_462, v21_462, v22_462, v23_462, v25_462, v36_462, v37_462, v38_462, v39_462, v40_462, v45_462, v46_462, v47_462, v48_462, v50_462, v51_462, v53_462, v55_462, rfl, hv0_462, (In.mk (by obtain ⟨o0a, o0b⟩ := (hb478 : In _ _ _); obtain ⟨o1a, o1b⟩ := (hv3_462 : In _ _ _); obtain ⟨o2a, o2b⟩ := (hv4_462 : In _ _ _); obtain ⟨o3a, o3b⟩ := (hv5_462 : In _ _ _); obtain ⟨o4a, o4b⟩ := (hv6_462 : In _ _ _); obtain ⟨o5a, o5b⟩ := (hv8_462 : In _ _ _); obtain ⟨o6a, o6b⟩ := (hv9_462 : In _ _ _); obtain ⟨o7a, o7b⟩ := (hv13_462 : In _ _ _); obtain ⟨o8a, o8b⟩ := (hv14_462 : In _ _ _); obtain ⟨o9a, o9b⟩ := (hv15_462 : In _ _ _); obtain ⟨o10a, o10b⟩ := (hv17_462 : In _ _ _); obtain ⟨o11a, o11b⟩ := (hv20_462 : In _ _ _); obtain ⟨o12a, o12b⟩ := (hv23_462 : In _ _ _); obtain ⟨o13a, o13b⟩ := (hv36_462 : In _ _ _); obtain ⟨o14a, o14b⟩ := (hv47_462 : In _ _ _); obtain ⟨o15a, o15b⟩ := (hv48_462 : In _ _ _); obtain ⟨o16a, o16b⟩ := (hv53_462 : In _ _ _); obtain ⟨o17a, o17b⟩ := (hv55_462 : In _ _ _); obtain ⟨o18a, o18b⟩ := (hv2_462 : In _ _ _); omega) (by obtain ⟨o0a, o0b⟩ := (hb478 : In _ _ _); obtain ⟨o1a, o1b⟩ := (hv3_462 : In _ _ _); obtain ⟨o2a, o2b⟩ := (hv4_462 : In _ _ _); obtain ⟨o3a, o3b⟩ := (hv5_462 : In _ _ _); obtain ⟨o4a, o4b⟩ := (hv6_462 : In _ _ _); obtain ⟨o5a, o5b⟩ := (hv8_462 : In _ _ _); obtain ⟨o6a, o6b⟩ := (hv9_462 : In _ _ _); obtain ⟨o7a, o7b⟩ := (hv13_462 : In _ _ _); obtain ⟨o8a, o8b⟩ := (hv14_462 : In _ _ _); obtain ⟨o9a, o9b⟩ := (hv15_462 : In _ _ _); obtain ⟨o10a, o10b⟩ := (hv17_462 : In _ _ _); obtain ⟨o11a, o11b⟩ := (hv20_462 : In _ _ _); obtain ⟨o12a, o12b⟩ := (hv23_462 : In _ _ _); obtain ⟨o13a, o13b⟩ := (hv36_462 : In _ _ _); obtain ⟨o14a, o14b⟩ := (hv47_462 : In _ _ _); obtain ⟨o15a, o15b⟩ := (hv48_462 : In _ _ _); obtain ⟨o16a, o16b⟩ := (hv53_462 : In _ _ _); obtain ⟨o17a, o17b⟩ := (hv55_462 : In _ _ _); obtain ⟨o18a, o18b⟩ := (hv2_462 : In _ _ _); omega)), (by simp [gset]), hv3_462, (by rw [hg3_462]; simp [gset]), hv4_462, (by rw [hg4_462]; simp [gset]), hv5_462, (by rw [hg5_462]; simp [gset]), hv6_462, (by rw [hg6_462]; simp [gset]), hv8_462, (by rw [hg8_462]; simp [gset]), hv9_462, (by rw [hg9_462]; simp [gset]), hv12_462, hv13_462, (by rw [hg13_462]; simp [gset]), hv14_462, (by rw [hg14_462]; simp [gset]), hv15_462, (by rw [hg15_462]; simp [gset]), hv17_462, (by rw [hg17_462]; simp [gset]), hv20_462, (by rw [hg20_462]; simp [gset]), hv23_462, (by rw [hg23_462]; simp [gset]), hv25_462, hv36_462, (by rw [hg36_462]; simp [gset]), hv47_462, (by rw [hg47_462]; simp [gset]), hv48_462, (by rw [hg48_462]; simp [gset]), hv53_462, (by rw [hg53_462]; simp [gset]), hv55_462, (by rw [hg55_462]; simp [gset]), hrel0_462⟩ (fun q hq => ((gset_ne (fun e => hq (by subst e; decide))).trans rfl))
              have hT : TI g ad (gset th 13 x477.toInt) f480 := TI.cast hT (by funext q; simp only [gset]; (repeat' split); all_goals first | rfl | omega | (subst_vars; rfl) | (exfalso; omega))
              refine lv_goto (tgt := 3) hx hb dX11_brings_46 (by decide) ?_
              refine lv_iload_n hx hb dX11_brings_3 rfl (lv_at hl 0 rfl) ?_
              refine lv_if_lt (tgt := 49) hx hb dX11_brings_4 (by decide) (fun c484 => ?_) (fun c484 => ?_)
              ·
                have oc0 : (0 : Int32).toInt = 0 := by decide
                have oc0 : (0 : Int32).toInt = 0 := by decide
                have cc485 : (0 : Int32).toInt < (0 : Int32).toInt := i32_lt.mp c484
                exact In.empty (lo := 0) (hi := (-1)) (In.lt1 (⟨by decide, by decide⟩ : In 0 0 0) (⟨by decide, by decide⟩ : In 0 0 0) cc485 (by omega) (by omega)) (by decide)
              ·
                have oc0 : (0 : Int32).toInt = 0 := by decide
                have oc0 : (0 : Int32).toInt = 0 := by decide
                have cc486 : (0 : Int32).toInt ≤ (0 : Int32).toInt := i32_nlt c484
                refine lv_iload_n hx hb dX11_brings_7 rfl (lv_at hl 3 rfl) ?_
                refine lv_iload_n hx hb dX11_brings_8 rfl (lv_at hl 0 rfl) ?_
                refine lv_ishr hx hb dX11_brings_9 ?_
                refine lv_topi (fun x487 ex487 => ?_)
                refine lv_sipush (v := 255) hx hb dX11_brings_10 (by decide) ?_
                refine lv_iand hx hb dX11_brings_13 ?_
                refine lv_topi (fun x488 ex488 => ?_)
                have hb489 : In x488 0 255 := ex488 ▸ In.andr (⟨by decide, by decide⟩ : In 255 255 255) (by decide)
                refine lv_istore_n (lv' := [(3, .int x488), (2, .int 0), (0, .ref (ad 255)), (1, .int z1)]) hx hb dX11_brings_14 rfl hl (by decide) rfl (fun ls hl => ?_)
                refine lv_iload_n hx hb dX11_brings_15 rfl (lv_at hl 0 rfl) ?_
                refine lv_if_ne (tgt := 22) hx hb dX11_brings_16 (by decide) (fun c490 => ?_) (fun c490 => ?_)
                ·
                  have oc0 : (0 : Int32).toInt = 0 := by decide
                  have cc491 : x488.toInt ≠ (0 : Int32).toInt := i32_ne c490
                  have hb492 : In x488 1 255 := In.ne1 hb489 (⟨by decide, by decide⟩ : In 0 0 0) cc491 (by omega) (by omega)
                  refine lv_aload_n hx hb dX11_brings_22 rfl (lv_at hl 2 rfl) ?_
                  obtain ⟨v0_493, v2_493, v3_493, v4_493, v5_493, v6_493, v8_493, v9_493, v12_493, v13_493, v14_493, v15_493, v16_493, v17_493, v18_493, v19_493, v20_493, v21_493, v22_493, v23_493, v25_493, v36_493, v37_493, v38_493, v39_493, v40_493, v45_493, v46_493, v47_493, v48_493, v50_493, v51_493, v53_493, v55_493, hf494, hv0_493, hv2_493, hg2_493, hv3_493, hg3_493, hv4_493, hg4_493, hv5_493, hg5_493, hv6_493, hg6_493, hv8_493, hg8_493, hv9_493, hg9_493, hv12_493, hv13_493, hg13_493, hv14_493, hg14_493, hv15_493, hg15_493, hv17_493, hg17_493, hv20_493, hg20_493, hv23_493, hg23_493, hv25_493, hv36_493, hg36_493, hv47_493, hg47_493, hv48_493, hg48_493, hv53_493, hg53_493, hv55_493, hg55_493, hrel0_493⟩ := hT.2.2 0 (by decide)
                  have hg2_493 : v2_493.toInt = x477.toInt := hg2_493
                  have hg3_493 : v3_493.toInt = th 37 := hg3_493
                  have hg4_493 : v4_493.toInt = th 42 := hg4_493
                  have hg5_493 : v5_493.toInt = th 40 := hg5_493
                  have hg6_493 : v6_493.toInt = th 41 := hg6_493
                  have hg8_493 : v8_493.toInt = th 43 := hg8_493
                  have hg9_493 : v9_493.toInt = th 35 := hg9_493
                  have hg13_493 : v13_493.toInt = th 36 := hg13_493
                  have hg14_493 : v14_493.toInt = th 10 := hg14_493
                  have hg15_493 : v15_493.toInt = th 11 := hg15_493
                  have hg17_493 : v17_493.toInt = th 12 := hg17_493
                  have hg20_493 : v20_493.toInt = th 14 := hg20_493
                  have hg23_493 : v23_493.toInt = th 15 := hg23_493
                  have hg36_493 : v36_493.toInt = th 18 := hg36_493
                  have hg47_493 : v47_493.toInt = th 16 := hg47_493
                  have hg48_493 : v48_493.toInt = th 17 := hg48_493
                  have hg53_493 : v53_493.toInt = th 38 := hg53_493
                  have hg55_493 : v55_493.toInt = th 39 := hg55_493
                  refine pl_get (v := .ref (ad 256)) hx hb hts (fun w h => mT (inX11 w h)) hown hG.1 hP (hst.1 255 (by decide)) hf494 rfl 1 (by decide) (hts _ (mT wg_1337)) (fun _ h => h) rfl dX11_brings_23 ?_
                  refine lv_aload_n hx hb dX11_brings_26 rfl (lv_at hl 2 rfl) ?_
                  refine pl_get (v := .int v2_493) hx hb hts (fun w h => mT (inX11 w h)) hown hG.1 hP (hst.1 255 (by decide)) hf494 rfl 2 (by decide) (hts _ (mT wg_1338)) (fun _ h => h) rfl dX11_brings_27 ?_
                  refine lv_iload_n hx hb dX11_brings_30 rfl (lv_at hl 0 rfl) ?_
                  refine lv_i2b hx hb dX11_brings_31 rfl ?_
                  refine lv_topi (fun x495 ex495 => ?_)
                  have hby496 : b1 z1 24 = 0 := b1_0 (by rw [show byS z1 24 = x5 by rw [ex5, ex4]; rfl]; exact c7)
                  have hby497 : b1 z1 16 = 0 := b1_0 (by rw [show byS z1 16 = x305 by rw [ex305, ex304]; rfl]; exact c307)
                  have hby498 : b1 z1 8 = 1 := b1_1 (by rw [show byS z1 8 = x457 by rw [ex457, ex456]; rfl]; exact c459)
                  have hby499 : b1 z1 0 = 1 := b1_1 (by rw [show byS z1 0 = x488 by rw [ex488, ex487]; rfl]; exact c490)
                  refine pl_bastE hx hb hG.1 hP hD hS (hst.1 256 (by decide)) 2 hf483 rfl (vp_of (by obtain ⟨o0a, o0b⟩ := (hv2_493 : In _ _ _); obtain ⟨o1a, o1b⟩ := (hv3_493 : In _ _ _); obtain ⟨o2a, o2b⟩ := (hv4_493 : In _ _ _); obtain ⟨o3a, o3b⟩ := (hv5_493 : In _ _ _); obtain ⟨o4a, o4b⟩ := (hv6_493 : In _ _ _); obtain ⟨o5a, o5b⟩ := (hv8_493 : In _ _ _); obtain ⟨o6a, o6b⟩ := (hv9_493 : In _ _ _); obtain ⟨o7a, o7b⟩ := (hv13_493 : In _ _ _); obtain ⟨o8a, o8b⟩ := (hv14_493 : In _ _ _); obtain ⟨o9a, o9b⟩ := (hv15_493 : In _ _ _); obtain ⟨o10a, o10b⟩ := (hv17_493 : In _ _ _); obtain ⟨o11a, o11b⟩ := (hv20_493 : In _ _ _); obtain ⟨o12a, o12b⟩ := (hv23_493 : In _ _ _); obtain ⟨o13a, o13b⟩ := (hv36_493 : In _ _ _); obtain ⟨o14a, o14b⟩ := (hv47_493 : In _ _ _); obtain ⟨o15a, o15b⟩ := (hv48_493 : In _ _ _); obtain ⟨o16a, o16b⟩ := (hv53_493 : In _ _ _); obtain ⟨o17a, o17b⟩ := (hv55_493 : In _ _ _); omega) (by obtain ⟨o0a, o0b⟩ := (hv2_493 : In _ _ _); obtain ⟨o1a, o1b⟩ := (hv3_493 : In _ _ _); obtain ⟨o2a, o2b⟩ := (hv4_493 : In _ _ _); obtain ⟨o3a, o3b⟩ := (hv5_493 : In _ _ _); obtain ⟨o4a, o4b⟩ := (hv6_493 : In _ _ _); obtain ⟨o5a, o5b⟩ := (hv8_493 : In _ _ _); obtain ⟨o6a, o6b⟩ := (hv9_493 : In _ _ _); obtain ⟨o7a, o7b⟩ := (hv13_493 : In _ _ _); obtain ⟨o8a, o8b⟩ := (hv14_493 : In _ _ _); obtain ⟨o9a, o9b⟩ := (hv15_493 : In _ _ _); obtain ⟨o10a, o10b⟩ := (hv17_493 : In _ _ _); obtain ⟨o11a, o11b⟩ := (hv20_493 : In _ _ _); obtain ⟨o12a, o12b⟩ := (hv23_493 : In _ _ _); obtain ⟨o13a, o13b⟩ := (hv36_493 : In _ _ _); obtain ⟨o14a, o14b⟩ := (hv47_493 : In _ _ _); obtain ⟨o15a, o15b⟩ := (hv48_493 : In _ _ _); obtain ⟨o16a, o16b⟩ := (hv53_493 : In _ _ _); obtain ⟨o17a, o17b⟩ := (hv55_493 : In _ _ _); omega)) dX11_brings_32 (fun H locs f500 r503 er503 hf501 ho502 hP hD hS => ?_)
                  have hc504 : ∀ i : Nat, i < 500 → In (r503 i) (-128) 127 := cont_upd er503 hc475 (nar_byte _)
                  have hf505 := (ho502 (ad 255) (hst.ne (by decide) (by decide) (by decide))).trans hf494
                  have hfr : (∀ b, b ≠ (ad 255) → b ≠ (ad 256) → f500 b = f b) := fun b z0_ z1_ => (ho502 b z1_).trans (hfr b z0_ z1_)
                  refine lv_aload_n hx hb dX11_brings_33 rfl (lv_at hl 2 rfl) ?_
                  refine lv_dup hx hb dX11_brings_34 rfl ?_
                  refine pl_get (v := .int v2_493) hx hb hts (fun w h => mT (inX11 w h)) hown hG.1 hP (hst.1 255 (by decide)) hf505 rfl 2 (by decide) (hts _ (mT wg_1338)) (fun _ h => h) rfl dX11_brings_35 ?_
                  refine lv_iconst (v := 1) hx hb dX11_brings_38 (by decide) ?_
                  refine lv_iadd hx hb dX11_brings_39 ?_
                  refine lv_topi (fun x506 ex506 => ?_)
                  have hb507 : In x506 1 501 := ex506 ▸ In.add hv2_493 (⟨by decide, by decide⟩ : In 1 1 1) (by decide) (by decide) (by decide) (by decide)
                  have et508 : x506.toInt = v2_493.toInt + 1 := In.adde ex506 hv2_493 (k := 1) (by decide) (by decide) (by decide)
                  have hT := TI.updM hT hst (k := 1) (by decide) hf501 ho502 ⟨r503, rfl, hc504⟩
                  refine pl_put (ty := .int) (v := .int x506) (fs' := [.int v0_493, .ref (ad 256), .int x506, .int v3_493, .int v4_493, .int v5_493, .int v6_493, .ref (ad 257), .int v8_493, .int v9_493, .ref (ad 258), .ref (ad 259), .int v12_493, .int v13_493, .int v14_493, .int v15_493, .int v16_493, .int v17_493, .int v18_493, .int v19_493, .int v20_493, .long v21_493, .long v22_493, .int v23_493, .ref (ad 260), .int v25_493, .ref (ad 261), .ref (ad 262), .ref (ad 263), .ref (ad 264), .ref (ad 265), .ref (ad 266), .ref (ad 267), .ref (ad 268), .ref (ad 269), .ref (ad 270), .int v36_493, .int v37_493, .int v38_493, .int v39_493, .int v40_493, .ref (ad 271), .ref (ad 272), .ref (ad 273), .ref (ad 274), .long v45_493, .long v46_493, .int v47_493, .int v48_493, .ref (ad 275), .int v50_493, .int v51_493, .ref (ad 276), .int v53_493, .ref (ad 277), .int v55_493]) hx hb hts (fun w h => mT (inX11 w h)) tyX11 tyX11_ok nmX11 hown hG.1 hP hD hS (hst.1 255 (by decide)) hf505 rfl 2 (by decide) (hts _ (mT wg_1338)) (fun _ h => h) rfl (by decide +kernel) (rfl) (rfl) (Nat.le_of_ble_eq_true rfl) rfl dX11_brings_40 (fun H locs f509 hf510 ho511 hP hD hS => ?_)
                  have hf512 := (ho511 (ad 256) (hst.ne (by decide) (by decide) (by decide))).trans hf501
                  have hfr : (∀ b, b ≠ (ad 255) → b ≠ (ad 256) → f509 b = f b) := fun b z0_ z1_ => (ho511 b z0_).trans (hfr b z0_ z1_)
                  refine lv_iinc (v := (-8)) (lv' := [(2, .int (-8)), (3, .int x488), (0, .ref (ad 255)), (1, .int z1)]) hx hb dX11_brings_43 hl (k := 1) rfl (by decide) (by decide) rfl (fun ls hl => ?_)
                  have hT := TI.updMG (th' := (gset (gset th 13 x477.toInt) 13 (x506.toInt))) hT hst (k := 0) (by decide) hf510 ho511 ⟨v0_493, x506, v3_493, v4_493, v5_493, v6_493, v8_493, v9_493, v12_493, v13_493, v14_493, v15_493, v16_493, v17_493, v18_493, v19_493, v20_493, v21_493, v22_493, v23_493, v25_493, v36_493, v37_493, v38_493, v39_493, v40_493, v45_493, v46_493, v47_493, v48_493, v50_493, v51_493, v53_493, v55_493, rfl, hv0_493, (In.mk (by obtain ⟨o0a, o0b⟩ := (hb507 : In _ _ _); obtain ⟨o1a, o1b⟩ := (hv3_493 : In _ _ _); obtain ⟨o2a, o2b⟩ := (hv4_493 : In _ _ _); obtain ⟨o3a, o3b⟩ := (hv5_493 : In _ _ _); obtain ⟨o4a, o4b⟩ := (hv6_493 : In _ _ _); obtain ⟨o5a, o5b⟩ := (hv8_493 : In _ _ _); obtain ⟨o6a, o6b⟩ := (hv9_493 : In _ _ _); obtain ⟨o7a, o7b⟩ := (hv13_493 : In _ _ _); obtain ⟨o8a, o8b⟩ := (hv14_493 : In _ _ _); obtain ⟨o9a, o9b⟩ := (hv15_493 : In _ _ _); obtain ⟨o10a, o10b⟩ := (hv17_493 : In _ _ _); obtain ⟨o11a, o11b⟩ := (hv20_493 : In _ _ _); obtain ⟨o12a, o12b⟩ := (hv23_493 : In _ _ _); obtain ⟨o13a, o13b⟩ := (hv36_493 : In _ _ _); obtain ⟨o14a, o14b⟩ := (hv47_493 : In _ _ _); obtain ⟨o15a, o15b⟩ := (hv48_493 : In _ _ _); obtain ⟨o16a, o16b⟩ := (hv53_493 : In _ _ _); obtain ⟨o17a, o17b⟩ := (hv55_493 : In _ _ _); obtain ⟨o18a, o18b⟩ := (hv2_493 : In _ _ _); omega) (by obtain ⟨o0a, o0b⟩ := (hb507 : In _ _ _); obtain ⟨o1a, o1b⟩ := (hv3_493 : In _ _ _); obtain ⟨o2a, o2b⟩ := (hv4_493 : In _ _ _); obtain ⟨o3a, o3b⟩ := (hv5_493 : In _ _ _); obtain ⟨o4a, o4b⟩ := (hv6_493 : In _ _ _); obtain ⟨o5a, o5b⟩ := (hv8_493 : In _ _ _); obtain ⟨o6a, o6b⟩ := (hv9_493 : In _ _ _); obtain ⟨o7a, o7b⟩ := (hv13_493 : In _ _ _); obtain ⟨o8a, o8b⟩ := (hv14_493 : In _ _ _); obtain ⟨o9a, o9b⟩ := (hv15_493 : In _ _ _); obtain ⟨o10a, o10b⟩ := (hv17_493 : In _ _ _); obtain ⟨o11a, o11b⟩ := (hv20_493 : In _ _ _); obtain ⟨o12a, o12b⟩ := (hv23_493 : In _ _ _); obtain ⟨o13a, o13b⟩ := (hv36_493 : In _ _ _); obtain ⟨o14a, o14b⟩ := (hv47_493 : In _ _ _); obtain ⟨o15a, o15b⟩ := (hv48_493 : In _ _ _); obtain ⟨o16a, o16b⟩ := (hv53_493 : In _ _ _); obtain ⟨o17a, o17b⟩ := (hv55_493 : In _ _ _); obtain ⟨o18a, o18b⟩ := (hv2_493 : In _ _ _); omega)), (by simp [gset]), hv3_493, (by rw [hg3_493]; simp [gset]), hv4_493, (by rw [hg4_493]; simp [gset]), hv5_493, (by rw [hg5_493]; simp [gset]), hv6_493, (by rw [hg6_493]; simp [gset]), hv8_493, (by rw [hg8_493]; simp [gset]), hv9_493, (by rw [hg9_493]; simp [gset]), hv12_493, hv13_493, (by rw [hg13_493]; simp [gset]), hv14_493, (by rw [hg14_493]; simp [gset]), hv15_493, (by rw [hg15_493]; simp [gset]), hv17_493, (by rw [hg17_493]; simp [gset]), hv20_493, (by rw [hg20_493]; simp [gset]), hv23_493, (by rw [hg23_493]; simp [gset]), hv25_493, hv36_493, (by rw [hg36_493]; simp [gset]), hv47_493, (by rw [hg47_493]; simp [gset]), hv48_493, (by rw [hg48_493]; simp [gset]), hv53_493, (by rw [hg53_493]; simp [gset]), hv55_493, (by rw [hg55_493]; simp [gset]), hrel0_493⟩ (fun q hq => ((gset_ne (fun e => hq (by subst e; decide))).trans rfl))
                  have hT : TI g ad (gset th 13 x506.toInt) f509 := TI.cast hT (by funext q; simp only [gset]; (repeat' split); all_goals first | rfl | omega | (subst_vars; rfl) | (exfalso; omega))
                  refine lv_goto (tgt := 3) hx hb dX11_brings_46 (by decide) ?_
                  refine lv_iload_n hx hb dX11_brings_3 rfl (lv_at hl 0 rfl) ?_
                  refine lv_if_lt (tgt := 49) hx hb dX11_brings_4 (by decide) (fun c513 => ?_) (fun c513 => ?_)
                  ·
                    have ocm8 : ((-8) : Int32).toInt = (-8) := by decide
                    have oc0 : (0 : Int32).toInt = 0 := by decide
                    have cc514 : ((-8) : Int32).toInt < (0 : Int32).toInt := i32_lt.mp c513
                    have hby515 : b1 z1 24 = 0 := b1_0 (by rw [show byS z1 24 = x5 by rw [ex5, ex4]; rfl]; exact c7)
                    have hby516 : b1 z1 16 = 0 := b1_0 (by rw [show byS z1 16 = x305 by rw [ex305, ex304]; rfl]; exact c307)
                    have hby517 : b1 z1 8 = 1 := b1_1 (by rw [show byS z1 8 = x457 by rw [ex457, ex456]; rfl]; exact c459)
                    have hby518 : b1 z1 0 = 1 := b1_1 (by rw [show byS z1 0 = x488 by rw [ex488, ex487]; rfl]; exact c490)
                    exact ret_v hx hb hr hlocks hP hD hS (Nat.le_of_ble_eq_true rfl) (Nat.le_of_ble_eq_true rfl) (⟨rfl, ⟨x506.toInt, (show x506.toInt = th 13 + nb z1 from (by omega)), TI.cast hT (by funext q; simp only [gset]; (repeat' split); all_goals first | rfl | omega | (subst_vars; rfl) | (exfalso; omega))⟩, hfr⟩) dX11_brings_49
                  ·
                    have ocm8 : ((-8) : Int32).toInt = (-8) := by decide
                    have oc0 : (0 : Int32).toInt = 0 := by decide
                    have cc519 : (0 : Int32).toInt ≤ ((-8) : Int32).toInt := i32_nlt c513
                    exact In.empty (lo := 0) (hi := (-8)) (In.ge1 (⟨by decide, by decide⟩ : In (-8) (-8) (-8)) (⟨by decide, by decide⟩ : In 0 0 0) cc519 (by omega) (by omega)) (by decide)
                ·
                  have oc0 : (0 : Int32).toInt = 0 := by decide
                  have cc520 : x488.toInt = (0 : Int32).toInt := congrArg Int32.toInt c490
                  have hb521 : In x488 0 0 := In.eq1 hb489 (⟨by decide, by decide⟩ : In 0 0 0) cc520 (by omega) (by omega)
                  refine lv_goto (tgt := 43) hx hb dX11_brings_19 (by decide) ?_
                  refine lv_iinc (v := (-8)) (lv' := [(2, .int (-8)), (3, .int x488), (0, .ref (ad 255)), (1, .int z1)]) hx hb dX11_brings_43 hl (k := 1) rfl (by decide) (by decide) rfl (fun ls hl => ?_)
                  refine lv_goto (tgt := 3) hx hb dX11_brings_46 (by decide) ?_
                  refine lv_iload_n hx hb dX11_brings_3 rfl (lv_at hl 0 rfl) ?_
                  refine lv_if_lt (tgt := 49) hx hb dX11_brings_4 (by decide) (fun c522 => ?_) (fun c522 => ?_)
                  ·
                    have ocm8 : ((-8) : Int32).toInt = (-8) := by decide
                    have oc0 : (0 : Int32).toInt = 0 := by decide
                    have cc523 : ((-8) : Int32).toInt < (0 : Int32).toInt := i32_lt.mp c522
                    have hby524 : b1 z1 24 = 0 := b1_0 (by rw [show byS z1 24 = x5 by rw [ex5, ex4]; rfl]; exact c7)
                    have hby525 : b1 z1 16 = 0 := b1_0 (by rw [show byS z1 16 = x305 by rw [ex305, ex304]; rfl]; exact c307)
                    have hby526 : b1 z1 8 = 1 := b1_1 (by rw [show byS z1 8 = x457 by rw [ex457, ex456]; rfl]; exact c459)
                    have hby527 : b1 z1 0 = 0 := b1_0 (by rw [show byS z1 0 = x488 by rw [ex488, ex487]; rfl]; exact c490)
                    exact ret_v hx hb hr hlocks hP hD hS (Nat.le_of_ble_eq_true rfl) (Nat.le_of_ble_eq_true rfl) (⟨rfl, ⟨x477.toInt, (show x477.toInt = th 13 + nb z1 from (by omega)), TI.cast hT (by funext q; simp only [gset]; (repeat' split); all_goals first | rfl | omega | (subst_vars; rfl) | (exfalso; omega))⟩, hfr⟩) dX11_brings_49
                  ·
                    have ocm8 : ((-8) : Int32).toInt = (-8) := by decide
                    have oc0 : (0 : Int32).toInt = 0 := by decide
                    have cc528 : (0 : Int32).toInt ≤ ((-8) : Int32).toInt := i32_nlt c522
                    exact In.empty (lo := 0) (hi := (-8)) (In.ge1 (⟨by decide, by decide⟩ : In (-8) (-8) (-8)) (⟨by decide, by decide⟩ : In 0 0 0) cc528 (by omega) (by omega)) (by decide)
            ·
              have oc0 : (0 : Int32).toInt = 0 := by decide
              have cc529 : x457.toInt = (0 : Int32).toInt := congrArg Int32.toInt c459
              have hb530 : In x457 0 0 := In.eq1 hb458 (⟨by decide, by decide⟩ : In 0 0 0) cc529 (by omega) (by omega)
              refine lv_goto (tgt := 43) hx hb dX11_brings_19 (by decide) ?_
              refine lv_iinc (v := 0) (lv' := [(2, .int 0), (3, .int x457), (0, .ref (ad 255)), (1, .int z1)]) hx hb dX11_brings_43 hl (k := 1) rfl (by decide) (by decide) rfl (fun ls hl => ?_)
              refine lv_goto (tgt := 3) hx hb dX11_brings_46 (by decide) ?_
              refine lv_iload_n hx hb dX11_brings_3 rfl (lv_at hl 0 rfl) ?_
              refine lv_if_lt (tgt := 49) hx hb dX11_brings_4 (by decide) (fun c531 => ?_) (fun c531 => ?_)
              ·
                have oc0 : (0 : Int32).toInt = 0 := by decide
                have oc0 : (0 : Int32).toInt = 0 := by decide
                have cc532 : (0 : Int32).toInt < (0 : Int32).toInt := i32_lt.mp c531
                exact In.empty (lo := 0) (hi := (-1)) (In.lt1 (⟨by decide, by decide⟩ : In 0 0 0) (⟨by decide, by decide⟩ : In 0 0 0) cc532 (by omega) (by omega)) (by decide)
              ·
                have oc0 : (0 : Int32).toInt = 0 := by decide
                have oc0 : (0 : Int32).toInt = 0 := by decide
                have cc533 : (0 : Int32).toInt ≤ (0 : Int32).toInt := i32_nlt c531
                refine lv_iload_n hx hb dX11_brings_7 rfl (lv_at hl 3 rfl) ?_
                refine lv_iload_n hx hb dX11_brings_8 rfl (lv_at hl 0 rfl) ?_
                refine lv_ishr hx hb dX11_brings_9 ?_
                refine lv_topi (fun x534 ex534 => ?_)
                refine lv_sipush (v := 255) hx hb dX11_brings_10 (by decide) ?_
                refine lv_iand hx hb dX11_brings_13 ?_
                refine lv_topi (fun x535 ex535 => ?_)
                have hb536 : In x535 0 255 := ex535 ▸ In.andr (⟨by decide, by decide⟩ : In 255 255 255) (by decide)
                refine lv_istore_n (lv' := [(3, .int x535), (2, .int 0), (0, .ref (ad 255)), (1, .int z1)]) hx hb dX11_brings_14 rfl hl (by decide) rfl (fun ls hl => ?_)
                refine lv_iload_n hx hb dX11_brings_15 rfl (lv_at hl 0 rfl) ?_
                refine lv_if_ne (tgt := 22) hx hb dX11_brings_16 (by decide) (fun c537 => ?_) (fun c537 => ?_)
                ·
                  have oc0 : (0 : Int32).toInt = 0 := by decide
                  have cc538 : x535.toInt ≠ (0 : Int32).toInt := i32_ne c537
                  have hb539 : In x535 1 255 := In.ne1 hb536 (⟨by decide, by decide⟩ : In 0 0 0) cc538 (by omega) (by omega)
                  refine lv_aload_n hx hb dX11_brings_22 rfl (lv_at hl 2 rfl) ?_
                  obtain ⟨v0_540, v2_540, v3_540, v4_540, v5_540, v6_540, v8_540, v9_540, v12_540, v13_540, v14_540, v15_540, v16_540, v17_540, v18_540, v19_540, v20_540, v21_540, v22_540, v23_540, v25_540, v36_540, v37_540, v38_540, v39_540, v40_540, v45_540, v46_540, v47_540, v48_540, v50_540, v51_540, v53_540, v55_540, hf541, hv0_540, hv2_540, hg2_540, hv3_540, hg3_540, hv4_540, hg4_540, hv5_540, hg5_540, hv6_540, hg6_540, hv8_540, hg8_540, hv9_540, hg9_540, hv12_540, hv13_540, hg13_540, hv14_540, hg14_540, hv15_540, hg15_540, hv17_540, hg17_540, hv20_540, hg20_540, hv23_540, hg23_540, hv25_540, hv36_540, hg36_540, hv47_540, hg47_540, hv48_540, hg48_540, hv53_540, hg53_540, hv55_540, hg55_540, hrel0_540⟩ := hT.2.2 0 (by decide)
                  refine pl_get (v := .ref (ad 256)) hx hb hts (fun w h => mT (inX11 w h)) hown hG.1 hP (hst.1 255 (by decide)) hf541 rfl 1 (by decide) (hts _ (mT wg_1337)) (fun _ h => h) rfl dX11_brings_23 ?_
                  refine lv_aload_n hx hb dX11_brings_26 rfl (lv_at hl 2 rfl) ?_
                  refine pl_get (v := .int v2_540) hx hb hts (fun w h => mT (inX11 w h)) hown hG.1 hP (hst.1 255 (by decide)) hf541 rfl 2 (by decide) (hts _ (mT wg_1338)) (fun _ h => h) rfl dX11_brings_27 ?_
                  refine lv_iload_n hx hb dX11_brings_30 rfl (lv_at hl 0 rfl) ?_
                  refine lv_i2b hx hb dX11_brings_31 rfl ?_
                  refine lv_topi (fun x542 ex542 => ?_)
                  have hby543 : b1 z1 24 = 0 := b1_0 (by rw [show byS z1 24 = x5 by rw [ex5, ex4]; rfl]; exact c7)
                  have hby544 : b1 z1 16 = 0 := b1_0 (by rw [show byS z1 16 = x305 by rw [ex305, ex304]; rfl]; exact c307)
                  have hby545 : b1 z1 8 = 0 := b1_0 (by rw [show byS z1 8 = x457 by rw [ex457, ex456]; rfl]; exact c459)
                  have hby546 : b1 z1 0 = 1 := b1_1 (by rw [show byS z1 0 = x535 by rw [ex535, ex534]; rfl]; exact c537)
                  obtain ⟨rw547, hf548, hc549⟩ := hT.2.2 1 (by decide)
                  refine pl_bastE hx hb hG.1 hP hD hS (hst.1 256 (by decide)) 2 hf548 rfl (vp_of (by obtain ⟨o0a, o0b⟩ := (hv2_540 : In _ _ _); obtain ⟨o1a, o1b⟩ := (hv3_540 : In _ _ _); obtain ⟨o2a, o2b⟩ := (hv4_540 : In _ _ _); obtain ⟨o3a, o3b⟩ := (hv5_540 : In _ _ _); obtain ⟨o4a, o4b⟩ := (hv6_540 : In _ _ _); obtain ⟨o5a, o5b⟩ := (hv8_540 : In _ _ _); obtain ⟨o6a, o6b⟩ := (hv9_540 : In _ _ _); obtain ⟨o7a, o7b⟩ := (hv13_540 : In _ _ _); obtain ⟨o8a, o8b⟩ := (hv14_540 : In _ _ _); obtain ⟨o9a, o9b⟩ := (hv15_540 : In _ _ _); obtain ⟨o10a, o10b⟩ := (hv17_540 : In _ _ _); obtain ⟨o11a, o11b⟩ := (hv20_540 : In _ _ _); obtain ⟨o12a, o12b⟩ := (hv23_540 : In _ _ _); obtain ⟨o13a, o13b⟩ := (hv36_540 : In _ _ _); obtain ⟨o14a, o14b⟩ := (hv47_540 : In _ _ _); obtain ⟨o15a, o15b⟩ := (hv48_540 : In _ _ _); obtain ⟨o16a, o16b⟩ := (hv53_540 : In _ _ _); obtain ⟨o17a, o17b⟩ := (hv55_540 : In _ _ _); omega) (by obtain ⟨o0a, o0b⟩ := (hv2_540 : In _ _ _); obtain ⟨o1a, o1b⟩ := (hv3_540 : In _ _ _); obtain ⟨o2a, o2b⟩ := (hv4_540 : In _ _ _); obtain ⟨o3a, o3b⟩ := (hv5_540 : In _ _ _); obtain ⟨o4a, o4b⟩ := (hv6_540 : In _ _ _); obtain ⟨o5a, o5b⟩ := (hv8_540 : In _ _ _); obtain ⟨o6a, o6b⟩ := (hv9_540 : In _ _ _); obtain ⟨o7a, o7b⟩ := (hv13_540 : In _ _ _); obtain ⟨o8a, o8b⟩ := (hv14_540 : In _ _ _); obtain ⟨o9a, o9b⟩ := (hv15_540 : In _ _ _); obtain ⟨o10a, o10b⟩ := (hv17_540 : In _ _ _); obtain ⟨o11a, o11b⟩ := (hv20_540 : In _ _ _); obtain ⟨o12a, o12b⟩ := (hv23_540 : In _ _ _); obtain ⟨o13a, o13b⟩ := (hv36_540 : In _ _ _); obtain ⟨o14a, o14b⟩ := (hv47_540 : In _ _ _); obtain ⟨o15a, o15b⟩ := (hv48_540 : In _ _ _); obtain ⟨o16a, o16b⟩ := (hv53_540 : In _ _ _); obtain ⟨o17a, o17b⟩ := (hv55_540 : In _ _ _); omega)) dX11_brings_32 (fun H locs f550 r553 er553 hf551 ho552 hP hD hS => ?_)
                  have hc554 : ∀ i : Nat, i < 500 → In (r553 i) (-128) 127 := cont_upd er553 hc549 (nar_byte _)
                  have hf555 := (ho552 (ad 255) (hst.ne (by decide) (by decide) (by decide))).trans hf541
                  have hfr : (∀ b, b ≠ (ad 255) → b ≠ (ad 256) → f550 b = f b) := fun b z0_ z1_ => (ho552 b z1_).trans (hfr b z0_ z1_)
                  refine lv_aload_n hx hb dX11_brings_33 rfl (lv_at hl 2 rfl) ?_
                  refine lv_dup hx hb dX11_brings_34 rfl ?_
                  refine pl_get (v := .int v2_540) hx hb hts (fun w h => mT (inX11 w h)) hown hG.1 hP (hst.1 255 (by decide)) hf555 rfl 2 (by decide) (hts _ (mT wg_1338)) (fun _ h => h) rfl dX11_brings_35 ?_
                  refine lv_iconst (v := 1) hx hb dX11_brings_38 (by decide) ?_
                  refine lv_iadd hx hb dX11_brings_39 ?_
                  refine lv_topi (fun x556 ex556 => ?_)
                  have hb557 : In x556 1 501 := ex556 ▸ In.add hv2_540 (⟨by decide, by decide⟩ : In 1 1 1) (by decide) (by decide) (by decide) (by decide)
                  have et558 : x556.toInt = v2_540.toInt + 1 := In.adde ex556 hv2_540 (k := 1) (by decide) (by decide) (by decide)
                  have hT := TI.updM hT hst (k := 1) (by decide) hf551 ho552 ⟨r553, rfl, hc554⟩
                  refine pl_put (ty := .int) (v := .int x556) (fs' := [.int v0_540, .ref (ad 256), .int x556, .int v3_540, .int v4_540, .int v5_540, .int v6_540, .ref (ad 257), .int v8_540, .int v9_540, .ref (ad 258), .ref (ad 259), .int v12_540, .int v13_540, .int v14_540, .int v15_540, .int v16_540, .int v17_540, .int v18_540, .int v19_540, .int v20_540, .long v21_540, .long v22_540, .int v23_540, .ref (ad 260), .int v25_540, .ref (ad 261), .ref (ad 262), .ref (ad 263), .ref (ad 264), .ref (ad 265), .ref (ad 266), .ref (ad 267), .ref (ad 268), .ref (ad 269), .ref (ad 270), .int v36_540, .int v37_540, .int v38_540, .int v39_540, .int v40_540, .ref (ad 271), .ref (ad 272), .ref (ad 273), .ref (ad 274), .long v45_540, .long v46_540, .int v47_540, .int v48_540, .ref (ad 275), .int v50_540, .int v51_540, .ref (ad 276), .int v53_540, .ref (ad 277), .int v55_540]) hx hb hts (fun w h => mT (inX11 w h)) tyX11 tyX11_ok nmX11 hown hG.1 hP hD hS (hst.1 255 (by decide)) hf555 rfl 2 (by decide) (hts _ (mT wg_1338)) (fun _ h => h) rfl (by decide +kernel) (rfl) (rfl) (Nat.le_of_ble_eq_true rfl) rfl dX11_brings_40 (fun H locs f559 hf560 ho561 hP hD hS => ?_)
                  have hf562 := (ho561 (ad 256) (hst.ne (by decide) (by decide) (by decide))).trans hf551
                  have hfr : (∀ b, b ≠ (ad 255) → b ≠ (ad 256) → f559 b = f b) := fun b z0_ z1_ => (ho561 b z0_).trans (hfr b z0_ z1_)
                  refine lv_iinc (v := (-8)) (lv' := [(2, .int (-8)), (3, .int x535), (0, .ref (ad 255)), (1, .int z1)]) hx hb dX11_brings_43 hl (k := 1) rfl (by decide) (by decide) rfl (fun ls hl => ?_)
                  have hT := TI.updMG (th' := (gset th 13 (x556.toInt))) hT hst (k := 0) (by decide) hf560 ho561 ⟨v0_540, x556, v3_540, v4_540, v5_540, v6_540, v8_540, v9_540, v12_540, v13_540, v14_540, v15_540, v16_540, v17_540, v18_540, v19_540, v20_540, v21_540, v22_540, v23_540, v25_540, v36_540, v37_540, v38_540, v39_540, v40_540, v45_540, v46_540, v47_540, v48_540, v50_540, v51_540, v53_540, v55_540, rfl, hv0_540, (In.mk (by obtain ⟨o0a, o0b⟩ := (hb557 : In _ _ _); obtain ⟨o1a, o1b⟩ := (hv3_540 : In _ _ _); obtain ⟨o2a, o2b⟩ := (hv4_540 : In _ _ _); obtain ⟨o3a, o3b⟩ := (hv5_540 : In _ _ _); obtain ⟨o4a, o4b⟩ := (hv6_540 : In _ _ _); obtain ⟨o5a, o5b⟩ := (hv8_540 : In _ _ _); obtain ⟨o6a, o6b⟩ := (hv9_540 : In _ _ _); obtain ⟨o7a, o7b⟩ := (hv13_540 : In _ _ _); obtain ⟨o8a, o8b⟩ := (hv14_540 : In _ _ _); obtain ⟨o9a, o9b⟩ := (hv15_540 : In _ _ _); obtain ⟨o10a, o10b⟩ := (hv17_540 : In _ _ _); obtain ⟨o11a, o11b⟩ := (hv20_540 : In _ _ _); obtain ⟨o12a, o12b⟩ := (hv23_540 : In _ _ _); obtain ⟨o13a, o13b⟩ := (hv36_540 : In _ _ _); obtain ⟨o14a, o14b⟩ := (hv47_540 : In _ _ _); obtain ⟨o15a, o15b⟩ := (hv48_540 : In _ _ _); obtain ⟨o16a, o16b⟩ := (hv53_540 : In _ _ _); obtain ⟨o17a, o17b⟩ := (hv55_540 : In _ _ _); obtain ⟨o18a, o18b⟩ := (hv2_540 : In _ _ _); omega) (by obtain ⟨o0a, o0b⟩ := (hb557 : In _ _ _); obtain ⟨o1a, o1b⟩ := (hv3_540 : In _ _ _); obtain ⟨o2a, o2b⟩ := (hv4_540 : In _ _ _); obtain ⟨o3a, o3b⟩ := (hv5_540 : In _ _ _); obtain ⟨o4a, o4b⟩ := (hv6_540 : In _ _ _); obtain ⟨o5a, o5b⟩ := (hv8_540 : In _ _ _); obtain ⟨o6a, o6b⟩ := (hv9_540 : In _ _ _); obtain ⟨o7a, o7b⟩ := (hv13_540 : In _ _ _); obtain ⟨o8a, o8b⟩ := (hv14_540 : In _ _ _); obtain ⟨o9a, o9b⟩ := (hv15_540 : In _ _ _); obtain ⟨o10a, o10b⟩ := (hv17_540 : In _ _ _); obtain ⟨o11a, o11b⟩ := (hv20_540 : In _ _ _); obtain ⟨o12a, o12b⟩ := (hv23_540 : In _ _ _); obtain ⟨o13a, o13b⟩ := (hv36_540 : In _ _ _); obtain ⟨o14a, o14b⟩ := (hv47_540 : In _ _ _); obtain ⟨o15a, o15b⟩ := (hv48_540 : In _ _ _); obtain ⟨o16a, o16b⟩ := (hv53_540 : In _ _ _); obtain ⟨o17a, o17b⟩ := (hv55_540 : In _ _ _); obtain ⟨o18a, o18b⟩ := (hv2_540 : In _ _ _); omega)), (by simp [gset]), hv3_540, (by rw [hg3_540]; simp [gset]), hv4_540, (by rw [hg4_540]; simp [gset]), hv5_540, (by rw [hg5_540]; simp [gset]), hv6_540, (by rw [hg6_540]; simp [gset]), hv8_540, (by rw [hg8_540]; simp [gset]), hv9_540, (by rw [hg9_540]; simp [gset]), hv12_540, hv13_540, (by rw [hg13_540]; simp [gset]), hv14_540, (by rw [hg14_540]; simp [gset]), hv15_540, (by rw [hg15_540]; simp [gset]), hv17_540, (by rw [hg17_540]; simp [gset]), hv20_540, (by rw [hg20_540]; simp [gset]), hv23_540, (by rw [hg23_540]; simp [gset]), hv25_540, hv36_540, (by rw [hg36_540]; simp [gset]), hv47_540, (by rw [hg47_540]; simp [gset]), hv48_540, (by rw [hg48_540]; simp [gset]), hv53_540, (by rw [hg53_540]; simp [gset]), hv55_540, (by rw [hg55_540]; simp [gset]), hrel0_540⟩ (fun q hq => ((gset_ne (fun e => hq (by subst e; decide))).trans rfl))
                  have hT : TI g ad (gset th 13 x556.toInt) f559 := TI.cast hT (by funext q; simp only [gset]; (repeat' split); all_goals first | rfl | omega | (subst_vars; rfl) | (exfalso; omega))
                  refine lv_goto (tgt := 3) hx hb dX11_brings_46 (by decide) ?_
                  refine lv_iload_n hx hb dX11_brings_3 rfl (lv_at hl 0 rfl) ?_
                  refine lv_if_lt (tgt := 49) hx hb dX11_brings_4 (by decide) (fun c563 => ?_) (fun c563 => ?_)
                  ·
                    have ocm8 : ((-8) : Int32).toInt = (-8) := by decide
                    have oc0 : (0 : Int32).toInt = 0 := by decide
                    have cc564 : ((-8) : Int32).toInt < (0 : Int32).toInt := i32_lt.mp c563
                    have hby565 : b1 z1 24 = 0 := b1_0 (by rw [show byS z1 24 = x5 by rw [ex5, ex4]; rfl]; exact c7)
                    have hby566 : b1 z1 16 = 0 := b1_0 (by rw [show byS z1 16 = x305 by rw [ex305, ex304]; rfl]; exact c307)
                    have hby567 : b1 z1 8 = 0 := b1_0 (by rw [show byS z1 8 = x457 by rw [ex457, ex456]; rfl]; exact c459)
                    have hby568 : b1 z1 0 = 1 := b1_1 (by rw [show byS z1 0 = x535 by rw [ex535, ex534]; rfl]; exact c537)
                    exact ret_v hx hb hr hlocks hP hD hS (Nat.le_of_ble_eq_true rfl) (Nat.le_of_ble_eq_true rfl) (⟨rfl, ⟨x556.toInt, (show x556.toInt = th 13 + nb z1 from (by omega)), TI.cast hT (by funext q; simp only [gset]; (repeat' split); all_goals first | rfl | omega | (subst_vars; rfl) | (exfalso; omega))⟩, hfr⟩) dX11_brings_49
                  ·
                    have ocm8 : ((-8) : Int32).toInt = (-8) := by decide
                    have oc0 : (0 : Int32).toInt = 0 := by decide
                    have cc569 : (0 : Int32).toInt ≤ ((-8) : Int32).toInt := i32_nlt c563
                    exact In.empty (lo := 0) (hi := (-8)) (In.ge1 (⟨by decide, by decide⟩ : In (-8) (-8) (-8)) (⟨by decide, by decide⟩ : In 0 0 0) cc569 (by omega) (by omega)) (by decide)
                ·
                  have oc0 : (0 : Int32).toInt = 0 := by decide
                  have cc570 : x535.toInt = (0 : Int32).toInt := congrArg Int32.toInt c537
                  have hb571 : In x535 0 0 := In.eq1 hb536 (⟨by decide, by decide⟩ : In 0 0 0) cc570 (by omega) (by omega)
                  refine lv_goto (tgt := 43) hx hb dX11_brings_19 (by decide) ?_
                  refine lv_iinc (v := (-8)) (lv' := [(2, .int (-8)), (3, .int x535), (0, .ref (ad 255)), (1, .int z1)]) hx hb dX11_brings_43 hl (k := 1) rfl (by decide) (by decide) rfl (fun ls hl => ?_)
                  refine lv_goto (tgt := 3) hx hb dX11_brings_46 (by decide) ?_
                  refine lv_iload_n hx hb dX11_brings_3 rfl (lv_at hl 0 rfl) ?_
                  refine lv_if_lt (tgt := 49) hx hb dX11_brings_4 (by decide) (fun c572 => ?_) (fun c572 => ?_)
                  ·
                    have ocm8 : ((-8) : Int32).toInt = (-8) := by decide
                    have oc0 : (0 : Int32).toInt = 0 := by decide
                    have cc573 : ((-8) : Int32).toInt < (0 : Int32).toInt := i32_lt.mp c572
                    have hby574 : b1 z1 24 = 0 := b1_0 (by rw [show byS z1 24 = x5 by rw [ex5, ex4]; rfl]; exact c7)
                    have hby575 : b1 z1 16 = 0 := b1_0 (by rw [show byS z1 16 = x305 by rw [ex305, ex304]; rfl]; exact c307)
                    have hby576 : b1 z1 8 = 0 := b1_0 (by rw [show byS z1 8 = x457 by rw [ex457, ex456]; rfl]; exact c459)
                    have hby577 : b1 z1 0 = 0 := b1_0 (by rw [show byS z1 0 = x535 by rw [ex535, ex534]; rfl]; exact c537)
                    exact ret_v hx hb hr hlocks hP hD hS (Nat.le_of_ble_eq_true rfl) (Nat.le_of_ble_eq_true rfl) (⟨rfl, ⟨(th 13), (show th 13 = th 13 + nb z1 from (by omega)), TI.cast hT (by funext q; simp only [gset]; (repeat' split); all_goals first | rfl | omega | (subst_vars; rfl) | (exfalso; omega))⟩, hfr⟩) dX11_brings_49
                  ·
                    have ocm8 : ((-8) : Int32).toInt = (-8) := by decide
                    have oc0 : (0 : Int32).toInt = 0 := by decide
                    have cc578 : (0 : Int32).toInt ≤ ((-8) : Int32).toInt := i32_nlt c572
                    exact In.empty (lo := 0) (hi := (-8)) (In.ge1 (⟨by decide, by decide⟩ : In (-8) (-8) (-8)) (⟨by decide, by decide⟩ : In 0 0 0) cc578 (by omega) (by omega)) (by decide)

abbrev rm_X11_feed : Room := { frames := 1, cells := 0, slots := 0, locals := 23 }
abbrev po_X11_feed (g : GG) (ad : Nat → Nat) (th : Nat → Int) (L : List Nat) (f : HP) (z1 : Int32) (z2 : Int32) (z3 : Int32) (z4 : Int32) (z5 : Int32) : Int32 → (List Nat × HP) → Prop := fun r u => u.1 = L ∧ (∃ th' : Nat → Int, (MI th' ∧ SBM th th') ∧ TI g ad th' u.2) ∧ (∀ b, b ≠ (ad 255) → b ≠ (ad 256) → u.2 b = f b)
set_option maxHeartbeats 4000000 in
set_option maxRecDepth 100000 in
theorem s_X11_feed (l : Launch) (g : GG) (ad : Nat → Nat) (th : Nat → Int) (L : List Nat) (f : HP) (sz : Nat) (z1 : Int32) (z2 : Int32) (z3 : Int32) (z4 : Int32) (z5 : Int32) (hst : ST ad L) (hT : TI g ad th f) (hM : MI th) : MtI l g yX11_feed cX11_feed 6 (some .int) rm_X11_feed [.ref (ad 255), .int z1, .int z2, .int z3, .int z4, .int z5] L f sz (po_X11_feed g ad th L f z1 z2 z3 z4 z5) := by
  refine MtI.of (by decide +kernel) (Nat.le_of_ble_eq_true rfl) ?_
  intro p e s m below meth c A hEn hP hD hS ls hl
  obtain ⟨hx, hb, hr, hml, hown, hlocks, hts, hG, hA, hE, hnm⟩ := hEn
  have hown : s.vm.findClass "RulerWordModel" = some m.cls := hown
  have hl : lv_has ls 6 [(0, .ref (ad 255)), (1, .int z1), (2, .int z2), (3, .int z3), (4, .int z4), (5, .int z5)] := hl
  have hfr : (∀ b, b ≠ (ad 255) → b ≠ (ad 256) → f b = f b) := fun b z0_ z1_ => rfl
  have hM0 := hM
  obtain ⟨m1, m2, m3, m4, m5, m6, m7, m8, m9, m10⟩ := hM0
  have m20 := mi20 m2 m3
  have hnb1 := nb_r z1
  have hnb2 := nb_r z2
  have hnb3 := nb_r z3
  have hnb4 := nb_r z4
  have hnb5 := nb_r z5
  refine lv_aload_n hx hb dX11_feed_0 rfl (lv_at hl 0 rfl) ?_
  refine lv_iconst (v := 0) hx hb dX11_feed_1 (by decide) ?_
  obtain ⟨v0_1, v2_1, v3_1, v4_1, v5_1, v6_1, v8_1, v9_1, v12_1, v13_1, v14_1, v15_1, v16_1, v17_1, v18_1, v19_1, v20_1, v21_1, v22_1, v23_1, v25_1, v36_1, v37_1, v38_1, v39_1, v40_1, v45_1, v46_1, v47_1, v48_1, v50_1, v51_1, v53_1, v55_1, hf2, hv0_1, hv2_1, hg2_1, hv3_1, hg3_1, hv4_1, hg4_1, hv5_1, hg5_1, hv6_1, hg6_1, hv8_1, hg8_1, hv9_1, hg9_1, hv12_1, hv13_1, hg13_1, hv14_1, hg14_1, hv15_1, hg15_1, hv17_1, hg17_1, hv20_1, hg20_1, hv23_1, hg23_1, hv25_1, hv36_1, hg36_1, hv47_1, hg47_1, hv48_1, hg48_1, hv53_1, hg53_1, hv55_1, hg55_1, hrel0_1⟩ := hT.2.2 0 (by decide)
  refine pl_put (ty := .int) (v := .int 0) (fs' := [.int 0, .ref (ad 256), .int v2_1, .int v3_1, .int v4_1, .int v5_1, .int v6_1, .ref (ad 257), .int v8_1, .int v9_1, .ref (ad 258), .ref (ad 259), .int v12_1, .int v13_1, .int v14_1, .int v15_1, .int v16_1, .int v17_1, .int v18_1, .int v19_1, .int v20_1, .long v21_1, .long v22_1, .int v23_1, .ref (ad 260), .int v25_1, .ref (ad 261), .ref (ad 262), .ref (ad 263), .ref (ad 264), .ref (ad 265), .ref (ad 266), .ref (ad 267), .ref (ad 268), .ref (ad 269), .ref (ad 270), .int v36_1, .int v37_1, .int v38_1, .int v39_1, .int v40_1, .ref (ad 271), .ref (ad 272), .ref (ad 273), .ref (ad 274), .long v45_1, .long v46_1, .int v47_1, .int v48_1, .ref (ad 275), .int v50_1, .int v51_1, .ref (ad 276), .int v53_1, .ref (ad 277), .int v55_1]) hx hb hts (fun w h => mT (inX11 w h)) tyX11 tyX11_ok nmX11 hown hG.1 hP hD hS (hst.1 255 (by decide)) hf2 rfl 0 (by decide) (hts _ (mT wg_1336)) (fun _ h => h) rfl (by decide +kernel) (rfl) (rfl) (Nat.le_of_ble_eq_true rfl) rfl dX11_feed_2 (fun H locs f3 hf4 ho5 hP hD hS => ?_)
  have hfr : (∀ b, b ≠ (ad 255) → b ≠ (ad 256) → f3 b = f b) := fun b z0_ z1_ => (ho5 b z0_).trans (hfr b z0_ z1_)
  refine lv_aload_n hx hb dX11_feed_5 rfl (lv_at hl 0 rfl) ?_
  refine pl_get (v := .int v2_1) hx hb hts (fun w h => mT (inX11 w h)) hown hG.1 hP (hst.1 255 (by decide)) hf4 rfl 2 (by decide) (hts _ (mT wg_1338)) (fun _ h => h) rfl dX11_feed_6 ?_
  refine lv_iload_n hx hb dX11_feed_9 rfl (lv_at hl 1 rfl) ?_
  have hT := TI.updM hT hst (k := 0) (by decide) hf4 ho5 ⟨0, v2_1, v3_1, v4_1, v5_1, v6_1, v8_1, v9_1, v12_1, v13_1, v14_1, v15_1, v16_1, v17_1, v18_1, v19_1, v20_1, v21_1, v22_1, v23_1, v25_1, v36_1, v37_1, v38_1, v39_1, v40_1, v45_1, v46_1, v47_1, v48_1, v50_1, v51_1, v53_1, v55_1, rfl, (⟨by decide, by decide⟩ : In 0 0 1), hv2_1, hg2_1, hv3_1, hg3_1, hv4_1, hg4_1, hv5_1, hg5_1, hv6_1, hg6_1, hv8_1, hg8_1, hv9_1, hg9_1, hv12_1, hv13_1, hg13_1, hv14_1, hg14_1, hv15_1, hg15_1, hv17_1, hg17_1, hv20_1, hg20_1, hv23_1, hg23_1, hv25_1, hv36_1, hg36_1, hv47_1, hg47_1, hv48_1, hg48_1, hv53_1, hg53_1, hv55_1, hg55_1, hrel0_1⟩
  refine call_i (run_S (rm := rm_X11_bytesOf) hx hb hml hown hts (s_X11_bytesOf l g ad th _ _ _ z1 hst hT ) cS_X11_bytesOf wg_1510 ⟨Nat.le_of_ble_eq_true rfl, Nat.le_of_ble_eq_true rfl⟩ hG hE hA hP hD hS rfl hl.1 (As := [.int z1]) (rest := [.int v2_1]) rfl (Nat.le_of_ble_eq_true rfl) dX11_feed_10 ⟨Nat.le_of_ble_eq_true rfl, Nat.le_of_ble_eq_true rfl⟩) hA hD hS (fun r6 L7 f8 H locs hp9 hP hD hS => ?_)
  obtain ⟨eL10L, eL10T, eL10R, eL10X0⟩ := hp9
  have eL10L : L7 = L := eL10L
  have eL10T : f8 = f3 := eL10T
  rw [eL10L, eL10T] at hP hD
  have eL10R : In r6 0 4 := eL10R
  have nbr6 : r6.toInt = nb z1 := eL10X0
  refine lv_iadd hx hb dX11_feed_13 ?_
  refine lv_topi (fun x11 ex11 => ?_)
  have hb12 : In x11 0 504 := ex11 ▸ In.add hv2_1 eL10R (by decide) (by decide) (by decide) (by decide)
  have et13 : x11.toInt = v2_1.toInt + r6.toInt := In.add2e ex11 hv2_1 eL10R (by decide) (by decide)
  refine lv_iload_n hx hb dX11_feed_14 rfl (lv_at hl 2 rfl) ?_
  refine call_i (run_S (rm := rm_X11_bytesOf) hx hb hml hown hts (s_X11_bytesOf l g ad th _ _ _ z2 hst hT ) cS_X11_bytesOf wg_1510 ⟨Nat.le_of_ble_eq_true rfl, Nat.le_of_ble_eq_true rfl⟩ hG hE hA hP hD hS rfl hl.1 (As := [.int z2]) (rest := [.int x11]) rfl (Nat.le_of_ble_eq_true rfl) dX11_feed_15 ⟨Nat.le_of_ble_eq_true rfl, Nat.le_of_ble_eq_true rfl⟩) hA hD hS (fun r14 L15 f16 H locs hp17 hP hD hS => ?_)
  obtain ⟨eL18L, eL18T, eL18R, eL18X0⟩ := hp17
  have eL18L : L15 = L := eL18L
  have eL18T : f16 = f3 := eL18T
  rw [eL18L, eL18T] at hP hD
  have eL18R : In r14 0 4 := eL18R
  have nbr14 : r14.toInt = nb z2 := eL18X0
  refine lv_iadd hx hb dX11_feed_18 ?_
  refine lv_topi (fun x19 ex19 => ?_)
  have hb20 : In x19 0 508 := ex19 ▸ In.add hb12 eL18R (by decide) (by decide) (by decide) (by decide)
  have et21 : x19.toInt = x11.toInt + r14.toInt := In.add2e ex19 hb12 eL18R (by decide) (by decide)
  refine lv_iload_n hx hb dX11_feed_19 rfl (lv_at hl 3 rfl) ?_
  refine call_i (run_S (rm := rm_X11_bytesOf) hx hb hml hown hts (s_X11_bytesOf l g ad th _ _ _ z3 hst hT ) cS_X11_bytesOf wg_1510 ⟨Nat.le_of_ble_eq_true rfl, Nat.le_of_ble_eq_true rfl⟩ hG hE hA hP hD hS rfl hl.1 (As := [.int z3]) (rest := [.int x19]) rfl (Nat.le_of_ble_eq_true rfl) dX11_feed_20 ⟨Nat.le_of_ble_eq_true rfl, Nat.le_of_ble_eq_true rfl⟩) hA hD hS (fun r22 L23 f24 H locs hp25 hP hD hS => ?_)
  obtain ⟨eL26L, eL26T, eL26R, eL26X0⟩ := hp25
  have eL26L : L23 = L := eL26L
  have eL26T : f24 = f3 := eL26T
  rw [eL26L, eL26T] at hP hD
  have eL26R : In r22 0 4 := eL26R
  have nbr22 : r22.toInt = nb z3 := eL26X0
  refine lv_iadd hx hb dX11_feed_23 ?_
  refine lv_topi (fun x27 ex27 => ?_)
  have hb28 : In x27 0 512 := ex27 ▸ In.add hb20 eL26R (by decide) (by decide) (by decide) (by decide)
  have et29 : x27.toInt = x19.toInt + r22.toInt := In.add2e ex27 hb20 eL26R (by decide) (by decide)
  refine lv_iload hx hb dX11_feed_24 (lv_at hl 4 rfl) ?_
  refine call_i (run_S (rm := rm_X11_bytesOf) hx hb hml hown hts (s_X11_bytesOf l g ad th _ _ _ z4 hst hT ) cS_X11_bytesOf wg_1510 ⟨Nat.le_of_ble_eq_true rfl, Nat.le_of_ble_eq_true rfl⟩ hG hE hA hP hD hS rfl hl.1 (As := [.int z4]) (rest := [.int x27]) rfl (Nat.le_of_ble_eq_true rfl) dX11_feed_26 ⟨Nat.le_of_ble_eq_true rfl, Nat.le_of_ble_eq_true rfl⟩) hA hD hS (fun r30 L31 f32 H locs hp33 hP hD hS => ?_)
  obtain ⟨eL34L, eL34T, eL34R, eL34X0⟩ := hp33
  have eL34L : L31 = L := eL34L
  have eL34T : f32 = f3 := eL34T
  rw [eL34L, eL34T] at hP hD
  have eL34R : In r30 0 4 := eL34R
  have nbr30 : r30.toInt = nb z4 := eL34X0
  refine lv_iadd hx hb dX11_feed_29 ?_
  refine lv_topi (fun x35 ex35 => ?_)
  have hb36 : In x35 0 516 := ex35 ▸ In.add hb28 eL34R (by decide) (by decide) (by decide) (by decide)
  have et37 : x35.toInt = x27.toInt + r30.toInt := In.add2e ex35 hb28 eL34R (by decide) (by decide)
  refine lv_iload hx hb dX11_feed_30 (lv_at hl 5 rfl) ?_
  refine call_i (run_S (rm := rm_X11_bytesOf) hx hb hml hown hts (s_X11_bytesOf l g ad th _ _ _ z5 hst hT ) cS_X11_bytesOf wg_1510 ⟨Nat.le_of_ble_eq_true rfl, Nat.le_of_ble_eq_true rfl⟩ hG hE hA hP hD hS rfl hl.1 (As := [.int z5]) (rest := [.int x35]) rfl (Nat.le_of_ble_eq_true rfl) dX11_feed_32 ⟨Nat.le_of_ble_eq_true rfl, Nat.le_of_ble_eq_true rfl⟩) hA hD hS (fun r38 L39 f40 H locs hp41 hP hD hS => ?_)
  obtain ⟨eL42L, eL42T, eL42R, eL42X0⟩ := hp41
  have eL42L : L39 = L := eL42L
  have eL42T : f40 = f3 := eL42T
  rw [eL42L, eL42T] at hP hD
  have eL42R : In r38 0 4 := eL42R
  have nbr38 : r38.toInt = nb z5 := eL42X0
  refine lv_iadd hx hb dX11_feed_35 ?_
  refine lv_topi (fun x43 ex43 => ?_)
  have hb44 : In x43 0 520 := ex43 ▸ In.add hb36 eL42R (by decide) (by decide) (by decide) (by decide)
  have et45 : x43.toInt = x35.toInt + r38.toInt := In.add2e ex43 hb36 eL42R (by decide) (by decide)
  refine lv_sipush (v := 500) hx hb dX11_feed_36 (by decide) ?_
  refine lv_icmp_le (tgt := 44) hx hb dX11_feed_39 (by decide) (fun c46 => ?_) (fun c46 => ?_)
  ·
    have oc500 : (500 : Int32).toInt = 500 := by decide
    have cc47 : x43.toInt ≤ (500 : Int32).toInt := i32_le.mp c46
    have hb48 : In x43 0 500 := In.le1 hb44 (⟨by decide, by decide⟩ : In 500 500 500) cc47 (by omega) (by omega)
    refine lv_aload_n hx hb dX11_feed_44 rfl (lv_at hl 0 rfl) ?_
    refine lv_iload_n hx hb dX11_feed_45 rfl (lv_at hl 1 rfl) ?_
    refine call_v (run_V (rm := rm_X11_brings) hx hb hml hown hts (s_X11_brings l g ad th _ _ _ z1 hst hT (show th 13 + nb z1 ≤ 500 by omega)) cV_X11_brings wg_1513 ⟨Nat.le_of_ble_eq_true rfl, Nat.le_of_ble_eq_true rfl⟩ hG hE hA hP hD hS (hst.1 255 (by decide)) hf4 rfl rfl hl.1 (As := [.int z1]) (rest := []) rfl (Nat.le_of_ble_eq_true rfl) dX11_feed_46 ⟨Nat.le_of_ble_eq_true rfl, Nat.le_of_ble_eq_true rfl⟩) hA hD hS (fun L50 f51 H locs hp52 hP hD hS => ?_)
    obtain ⟨eL53L, eL53T, eL53F⟩ := hp52
    have eL53L : L50 = L := eL53L
    rw [eL53L] at hP hD
    obtain ⟨zz54, hzz54, eL53T⟩ := eL53T
    have hT : TI g ad (gset th 13 zz54) f51 := eL53T
    have eL53F : ∀ b, b ≠ (ad 255) → b ≠ (ad 256) → f51 b = f3 b := eL53F
    have hfr : (∀ b, b ≠ (ad 255) → b ≠ (ad 256) → f51 b = f b) := fun b z0_ z1_ => (eL53F b z0_ z1_).trans (hfr b z0_ z1_)
    refine lv_aload_n hx hb dX11_feed_49 rfl (lv_at hl 0 rfl) ?_
    refine lv_iload_n hx hb dX11_feed_50 rfl (lv_at hl 2 rfl) ?_
    obtain ⟨v0_55, v2_55, v3_55, v4_55, v5_55, v6_55, v8_55, v9_55, v12_55, v13_55, v14_55, v15_55, v16_55, v17_55, v18_55, v19_55, v20_55, v21_55, v22_55, v23_55, v25_55, v36_55, v37_55, v38_55, v39_55, v40_55, v45_55, v46_55, v47_55, v48_55, v50_55, v51_55, v53_55, v55_55, hf56, hv0_55, hv2_55, hg2_55, hv3_55, hg3_55, hv4_55, hg4_55, hv5_55, hg5_55, hv6_55, hg6_55, hv8_55, hg8_55, hv9_55, hg9_55, hv12_55, hv13_55, hg13_55, hv14_55, hg14_55, hv15_55, hg15_55, hv17_55, hg17_55, hv20_55, hg20_55, hv23_55, hg23_55, hv25_55, hv36_55, hg36_55, hv47_55, hg47_55, hv48_55, hg48_55, hv53_55, hg53_55, hv55_55, hg55_55, hrel0_55⟩ := hT.2.2 0 (by decide)
    have hg2_55 : v2_55.toInt = zz54 := hg2_55
    have hg3_55 : v3_55.toInt = th 37 := hg3_55
    have hg4_55 : v4_55.toInt = th 42 := hg4_55
    have hg5_55 : v5_55.toInt = th 40 := hg5_55
    have hg6_55 : v6_55.toInt = th 41 := hg6_55
    have hg8_55 : v8_55.toInt = th 43 := hg8_55
    have hg9_55 : v9_55.toInt = th 35 := hg9_55
    have hg13_55 : v13_55.toInt = th 36 := hg13_55
    have hg14_55 : v14_55.toInt = th 10 := hg14_55
    have hg15_55 : v15_55.toInt = th 11 := hg15_55
    have hg17_55 : v17_55.toInt = th 12 := hg17_55
    have hg20_55 : v20_55.toInt = th 14 := hg20_55
    have hg23_55 : v23_55.toInt = th 15 := hg23_55
    have hg36_55 : v36_55.toInt = th 18 := hg36_55
    have hg47_55 : v47_55.toInt = th 16 := hg47_55
    have hg48_55 : v48_55.toInt = th 17 := hg48_55
    have hg53_55 : v53_55.toInt = th 38 := hg53_55
    have hg55_55 : v55_55.toInt = th 39 := hg55_55
    refine call_v (run_V (rm := rm_X11_brings) hx hb hml hown hts (s_X11_brings l g ad (gset th 13 zz54) _ _ _ z2 hst hT (show zz54 + nb z2 ≤ 500 by omega)) cV_X11_brings wg_1513 ⟨Nat.le_of_ble_eq_true rfl, Nat.le_of_ble_eq_true rfl⟩ hG hE hA hP hD hS (hst.1 255 (by decide)) hf56 rfl rfl hl.1 (As := [.int z2]) (rest := []) rfl (Nat.le_of_ble_eq_true rfl) dX11_feed_51 ⟨Nat.le_of_ble_eq_true rfl, Nat.le_of_ble_eq_true rfl⟩) hA hD hS (fun L58 f59 H locs hp60 hP hD hS => ?_)
    obtain ⟨eL61L, eL61T, eL61F⟩ := hp60
    have eL61L : L58 = L := eL61L
    rw [eL61L] at hP hD
    obtain ⟨zz62, hzz62, eL61T⟩ := eL61T
    have hT : TI g ad (gset (gset th 13 zz54) 13 zz62) f59 := eL61T
    have hT : TI g ad (gset th 13 zz62) f59 := TI.cast hT (by funext q; simp only [gset]; (repeat' split); all_goals first | rfl | omega | (subst_vars; rfl) | (exfalso; omega))
    have eL61F : ∀ b, b ≠ (ad 255) → b ≠ (ad 256) → f59 b = f51 b := eL61F
    have hfr : (∀ b, b ≠ (ad 255) → b ≠ (ad 256) → f59 b = f b) := fun b z0_ z1_ => (eL61F b z0_ z1_).trans (hfr b z0_ z1_)
    refine lv_aload_n hx hb dX11_feed_54 rfl (lv_at hl 0 rfl) ?_
    refine lv_iload_n hx hb dX11_feed_55 rfl (lv_at hl 3 rfl) ?_
    obtain ⟨v0_63, v2_63, v3_63, v4_63, v5_63, v6_63, v8_63, v9_63, v12_63, v13_63, v14_63, v15_63, v16_63, v17_63, v18_63, v19_63, v20_63, v21_63, v22_63, v23_63, v25_63, v36_63, v37_63, v38_63, v39_63, v40_63, v45_63, v46_63, v47_63, v48_63, v50_63, v51_63, v53_63, v55_63, hf64, hv0_63, hv2_63, hg2_63, hv3_63, hg3_63, hv4_63, hg4_63, hv5_63, hg5_63, hv6_63, hg6_63, hv8_63, hg8_63, hv9_63, hg9_63, hv12_63, hv13_63, hg13_63, hv14_63, hg14_63, hv15_63, hg15_63, hv17_63, hg17_63, hv20_63, hg20_63, hv23_63, hg23_63, hv25_63, hv36_63, hg36_63, hv47_63, hg47_63, hv48_63, hg48_63, hv53_63, hg53_63, hv55_63, hg55_63, hrel0_63⟩ := hT.2.2 0 (by decide)
    have hg2_63 : v2_63.toInt = zz62 := hg2_63
    have hg3_63 : v3_63.toInt = th 37 := hg3_63
    have hg4_63 : v4_63.toInt = th 42 := hg4_63
    have hg5_63 : v5_63.toInt = th 40 := hg5_63
    have hg6_63 : v6_63.toInt = th 41 := hg6_63
    have hg8_63 : v8_63.toInt = th 43 := hg8_63
    have hg9_63 : v9_63.toInt = th 35 := hg9_63
    have hg13_63 : v13_63.toInt = th 36 := hg13_63
    have hg14_63 : v14_63.toInt = th 10 := hg14_63
    have hg15_63 : v15_63.toInt = th 11 := hg15_63
    have hg17_63 : v17_63.toInt = th 12 := hg17_63
    have hg20_63 : v20_63.toInt = th 14 := hg20_63
    have hg23_63 : v23_63.toInt = th 15 := hg23_63
    have hg36_63 : v36_63.toInt = th 18 := hg36_63
    have hg47_63 : v47_63.toInt = th 16 := hg47_63
    have hg48_63 : v48_63.toInt = th 17 := hg48_63
    have hg53_63 : v53_63.toInt = th 38 := hg53_63
    have hg55_63 : v55_63.toInt = th 39 := hg55_63
    refine call_v (run_V (rm := rm_X11_brings) hx hb hml hown hts (s_X11_brings l g ad (gset th 13 zz62) _ _ _ z3 hst hT (show zz62 + nb z3 ≤ 500 by omega)) cV_X11_brings wg_1513 ⟨Nat.le_of_ble_eq_true rfl, Nat.le_of_ble_eq_true rfl⟩ hG hE hA hP hD hS (hst.1 255 (by decide)) hf64 rfl rfl hl.1 (As := [.int z3]) (rest := []) rfl (Nat.le_of_ble_eq_true rfl) dX11_feed_56 ⟨Nat.le_of_ble_eq_true rfl, Nat.le_of_ble_eq_true rfl⟩) hA hD hS (fun L66 f67 H locs hp68 hP hD hS => ?_)
    obtain ⟨eL69L, eL69T, eL69F⟩ := hp68
    have eL69L : L66 = L := eL69L
    rw [eL69L] at hP hD
    obtain ⟨zz70, hzz70, eL69T⟩ := eL69T
    have hT : TI g ad (gset (gset th 13 zz62) 13 zz70) f67 := eL69T
    have hT : TI g ad (gset th 13 zz70) f67 := TI.cast hT (by funext q; simp only [gset]; (repeat' split); all_goals first | rfl | omega | (subst_vars; rfl) | (exfalso; omega))
    have eL69F : ∀ b, b ≠ (ad 255) → b ≠ (ad 256) → f67 b = f59 b := eL69F
    have hfr : (∀ b, b ≠ (ad 255) → b ≠ (ad 256) → f67 b = f b) := fun b z0_ z1_ => (eL69F b z0_ z1_).trans (hfr b z0_ z1_)
    refine lv_aload_n hx hb dX11_feed_59 rfl (lv_at hl 0 rfl) ?_
    refine lv_iload hx hb dX11_feed_60 (lv_at hl 4 rfl) ?_
    obtain ⟨v0_71, v2_71, v3_71, v4_71, v5_71, v6_71, v8_71, v9_71, v12_71, v13_71, v14_71, v15_71, v16_71, v17_71, v18_71, v19_71, v20_71, v21_71, v22_71, v23_71, v25_71, v36_71, v37_71, v38_71, v39_71, v40_71, v45_71, v46_71, v47_71, v48_71, v50_71, v51_71, v53_71, v55_71, hf72, hv0_71, hv2_71, hg2_71, hv3_71, hg3_71, hv4_71, hg4_71, hv5_71, hg5_71, hv6_71, hg6_71, hv8_71, hg8_71, hv9_71, hg9_71, hv12_71, hv13_71, hg13_71, hv14_71, hg14_71, hv15_71, hg15_71, hv17_71, hg17_71, hv20_71, hg20_71, hv23_71, hg23_71, hv25_71, hv36_71, hg36_71, hv47_71, hg47_71, hv48_71, hg48_71, hv53_71, hg53_71, hv55_71, hg55_71, hrel0_71⟩ := hT.2.2 0 (by decide)
    have hg2_71 : v2_71.toInt = zz70 := hg2_71
    have hg3_71 : v3_71.toInt = th 37 := hg3_71
    have hg4_71 : v4_71.toInt = th 42 := hg4_71
    have hg5_71 : v5_71.toInt = th 40 := hg5_71
    have hg6_71 : v6_71.toInt = th 41 := hg6_71
    have hg8_71 : v8_71.toInt = th 43 := hg8_71
    have hg9_71 : v9_71.toInt = th 35 := hg9_71
    have hg13_71 : v13_71.toInt = th 36 := hg13_71
    have hg14_71 : v14_71.toInt = th 10 := hg14_71
    have hg15_71 : v15_71.toInt = th 11 := hg15_71
    have hg17_71 : v17_71.toInt = th 12 := hg17_71
    have hg20_71 : v20_71.toInt = th 14 := hg20_71
    have hg23_71 : v23_71.toInt = th 15 := hg23_71
    have hg36_71 : v36_71.toInt = th 18 := hg36_71
    have hg47_71 : v47_71.toInt = th 16 := hg47_71
    have hg48_71 : v48_71.toInt = th 17 := hg48_71
    have hg53_71 : v53_71.toInt = th 38 := hg53_71
    have hg55_71 : v55_71.toInt = th 39 := hg55_71
    refine call_v (run_V (rm := rm_X11_brings) hx hb hml hown hts (s_X11_brings l g ad (gset th 13 zz70) _ _ _ z4 hst hT (show zz70 + nb z4 ≤ 500 by omega)) cV_X11_brings wg_1513 ⟨Nat.le_of_ble_eq_true rfl, Nat.le_of_ble_eq_true rfl⟩ hG hE hA hP hD hS (hst.1 255 (by decide)) hf72 rfl rfl hl.1 (As := [.int z4]) (rest := []) rfl (Nat.le_of_ble_eq_true rfl) dX11_feed_62 ⟨Nat.le_of_ble_eq_true rfl, Nat.le_of_ble_eq_true rfl⟩) hA hD hS (fun L74 f75 H locs hp76 hP hD hS => ?_)
    obtain ⟨eL77L, eL77T, eL77F⟩ := hp76
    have eL77L : L74 = L := eL77L
    rw [eL77L] at hP hD
    obtain ⟨zz78, hzz78, eL77T⟩ := eL77T
    have hT : TI g ad (gset (gset th 13 zz70) 13 zz78) f75 := eL77T
    have hT : TI g ad (gset th 13 zz78) f75 := TI.cast hT (by funext q; simp only [gset]; (repeat' split); all_goals first | rfl | omega | (subst_vars; rfl) | (exfalso; omega))
    have eL77F : ∀ b, b ≠ (ad 255) → b ≠ (ad 256) → f75 b = f67 b := eL77F
    have hfr : (∀ b, b ≠ (ad 255) → b ≠ (ad 256) → f75 b = f b) := fun b z0_ z1_ => (eL77F b z0_ z1_).trans (hfr b z0_ z1_)
    refine lv_aload_n hx hb dX11_feed_65 rfl (lv_at hl 0 rfl) ?_
    refine lv_iload hx hb dX11_feed_66 (lv_at hl 5 rfl) ?_
    obtain ⟨v0_79, v2_79, v3_79, v4_79, v5_79, v6_79, v8_79, v9_79, v12_79, v13_79, v14_79, v15_79, v16_79, v17_79, v18_79, v19_79, v20_79, v21_79, v22_79, v23_79, v25_79, v36_79, v37_79, v38_79, v39_79, v40_79, v45_79, v46_79, v47_79, v48_79, v50_79, v51_79, v53_79, v55_79, hf80, hv0_79, hv2_79, hg2_79, hv3_79, hg3_79, hv4_79, hg4_79, hv5_79, hg5_79, hv6_79, hg6_79, hv8_79, hg8_79, hv9_79, hg9_79, hv12_79, hv13_79, hg13_79, hv14_79, hg14_79, hv15_79, hg15_79, hv17_79, hg17_79, hv20_79, hg20_79, hv23_79, hg23_79, hv25_79, hv36_79, hg36_79, hv47_79, hg47_79, hv48_79, hg48_79, hv53_79, hg53_79, hv55_79, hg55_79, hrel0_79⟩ := hT.2.2 0 (by decide)
    have hg2_79 : v2_79.toInt = zz78 := hg2_79
    have hg3_79 : v3_79.toInt = th 37 := hg3_79
    have hg4_79 : v4_79.toInt = th 42 := hg4_79
    have hg5_79 : v5_79.toInt = th 40 := hg5_79
    have hg6_79 : v6_79.toInt = th 41 := hg6_79
    have hg8_79 : v8_79.toInt = th 43 := hg8_79
    have hg9_79 : v9_79.toInt = th 35 := hg9_79
    have hg13_79 : v13_79.toInt = th 36 := hg13_79
    have hg14_79 : v14_79.toInt = th 10 := hg14_79
    have hg15_79 : v15_79.toInt = th 11 := hg15_79
    have hg17_79 : v17_79.toInt = th 12 := hg17_79
    have hg20_79 : v20_79.toInt = th 14 := hg20_79
    have hg23_79 : v23_79.toInt = th 15 := hg23_79
    have hg36_79 : v36_79.toInt = th 18 := hg36_79
    have hg47_79 : v47_79.toInt = th 16 := hg47_79
    have hg48_79 : v48_79.toInt = th 17 := hg48_79
    have hg53_79 : v53_79.toInt = th 38 := hg53_79
    have hg55_79 : v55_79.toInt = th 39 := hg55_79
    refine call_v (run_V (rm := rm_X11_brings) hx hb hml hown hts (s_X11_brings l g ad (gset th 13 zz78) _ _ _ z5 hst hT (show zz78 + nb z5 ≤ 500 by omega)) cV_X11_brings wg_1513 ⟨Nat.le_of_ble_eq_true rfl, Nat.le_of_ble_eq_true rfl⟩ hG hE hA hP hD hS (hst.1 255 (by decide)) hf80 rfl rfl hl.1 (As := [.int z5]) (rest := []) rfl (Nat.le_of_ble_eq_true rfl) dX11_feed_68 ⟨Nat.le_of_ble_eq_true rfl, Nat.le_of_ble_eq_true rfl⟩) hA hD hS (fun L82 f83 H locs hp84 hP hD hS => ?_)
    obtain ⟨eL85L, eL85T, eL85F⟩ := hp84
    have eL85L : L82 = L := eL85L
    rw [eL85L] at hP hD
    obtain ⟨zz86, hzz86, eL85T⟩ := eL85T
    have hT : TI g ad (gset (gset th 13 zz78) 13 zz86) f83 := eL85T
    have hT : TI g ad (gset th 13 zz86) f83 := TI.cast hT (by funext q; simp only [gset]; (repeat' split); all_goals first | rfl | omega | (subst_vars; rfl) | (exfalso; omega))
    have eL85F : ∀ b, b ≠ (ad 255) → b ≠ (ad 256) → f83 b = f75 b := eL85F
    have hfr : (∀ b, b ≠ (ad 255) → b ≠ (ad 256) → f83 b = f b) := fun b z0_ z1_ => (eL85F b z0_ z1_).trans (hfr b z0_ z1_)
    refine lv_aload_n hx hb dX11_feed_71 rfl (lv_at hl 0 rfl) ?_
    obtain ⟨v0_87, v2_87, v3_87, v4_87, v5_87, v6_87, v8_87, v9_87, v12_87, v13_87, v14_87, v15_87, v16_87, v17_87, v18_87, v19_87, v20_87, v21_87, v22_87, v23_87, v25_87, v36_87, v37_87, v38_87, v39_87, v40_87, v45_87, v46_87, v47_87, v48_87, v50_87, v51_87, v53_87, v55_87, hf88, hv0_87, hv2_87, hg2_87, hv3_87, hg3_87, hv4_87, hg4_87, hv5_87, hg5_87, hv6_87, hg6_87, hv8_87, hg8_87, hv9_87, hg9_87, hv12_87, hv13_87, hg13_87, hv14_87, hg14_87, hv15_87, hg15_87, hv17_87, hg17_87, hv20_87, hg20_87, hv23_87, hg23_87, hv25_87, hv36_87, hg36_87, hv47_87, hg47_87, hv48_87, hg48_87, hv53_87, hg53_87, hv55_87, hg55_87, hrel0_87⟩ := hT.2.2 0 (by decide)
    have hg2_87 : v2_87.toInt = zz86 := hg2_87
    have hg3_87 : v3_87.toInt = th 37 := hg3_87
    have hg4_87 : v4_87.toInt = th 42 := hg4_87
    have hg5_87 : v5_87.toInt = th 40 := hg5_87
    have hg6_87 : v6_87.toInt = th 41 := hg6_87
    have hg8_87 : v8_87.toInt = th 43 := hg8_87
    have hg9_87 : v9_87.toInt = th 35 := hg9_87
    have hg13_87 : v13_87.toInt = th 36 := hg13_87
    have hg14_87 : v14_87.toInt = th 10 := hg14_87
    have hg15_87 : v15_87.toInt = th 11 := hg15_87
    have hg17_87 : v17_87.toInt = th 12 := hg17_87
    have hg20_87 : v20_87.toInt = th 14 := hg20_87
    have hg23_87 : v23_87.toInt = th 15 := hg23_87
    have hg36_87 : v36_87.toInt = th 18 := hg36_87
    have hg47_87 : v47_87.toInt = th 16 := hg47_87
    have hg48_87 : v48_87.toInt = th 17 := hg48_87
    have hg53_87 : v53_87.toInt = th 38 := hg53_87
    have hg55_87 : v55_87.toInt = th 39 := hg55_87
    refine pl_get (v := .int v2_87) hx hb hts (fun w h => mT (inX11 w h)) hown hG.1 hP (hst.1 255 (by decide)) hf88 rfl 2 (by decide) (hts _ (mT wg_1338)) (fun _ h => h) rfl dX11_feed_72 ?_
    exact ret_i (ty := .int) hx hb hr hlocks (rfl) hP hD hS (Nat.le_of_ble_eq_true rfl) (Nat.le_of_ble_eq_true rfl) (⟨rfl, ⟨(gset th 13 zz86), ⟨(show MI (gset th 13 zz86) from ⟨(show th 15 = 0 ∨ 3 ≤ th 11 by obtain ⟨_, _⟩ := (hv2_87 : In _ _ _); obtain ⟨_, _⟩ := (hv3_87 : In _ _ _); obtain ⟨_, _⟩ := (hv4_87 : In _ _ _); obtain ⟨_, _⟩ := (hv5_87 : In _ _ _); obtain ⟨_, _⟩ := (hv6_87 : In _ _ _); obtain ⟨_, _⟩ := (hv8_87 : In _ _ _); obtain ⟨_, _⟩ := (hv9_87 : In _ _ _); obtain ⟨_, _⟩ := (hv13_87 : In _ _ _); obtain ⟨_, _⟩ := (hv14_87 : In _ _ _); obtain ⟨_, _⟩ := (hv15_87 : In _ _ _); obtain ⟨_, _⟩ := (hv17_87 : In _ _ _); obtain ⟨_, _⟩ := (hv20_87 : In _ _ _); obtain ⟨_, _⟩ := (hv23_87 : In _ _ _); obtain ⟨_, _⟩ := (hv36_87 : In _ _ _); obtain ⟨_, _⟩ := (hv47_87 : In _ _ _); obtain ⟨_, _⟩ := (hv48_87 : In _ _ _); obtain ⟨_, _⟩ := (hv53_87 : In _ _ _); obtain ⟨_, _⟩ := (hv55_87 : In _ _ _); omega), (show 0 ≤ th 12 ∧ th 12 ≤ 6 by obtain ⟨_, _⟩ := (hv2_87 : In _ _ _); obtain ⟨_, _⟩ := (hv3_87 : In _ _ _); obtain ⟨_, _⟩ := (hv4_87 : In _ _ _); obtain ⟨_, _⟩ := (hv5_87 : In _ _ _); obtain ⟨_, _⟩ := (hv6_87 : In _ _ _); obtain ⟨_, _⟩ := (hv8_87 : In _ _ _); obtain ⟨_, _⟩ := (hv9_87 : In _ _ _); obtain ⟨_, _⟩ := (hv13_87 : In _ _ _); obtain ⟨_, _⟩ := (hv14_87 : In _ _ _); obtain ⟨_, _⟩ := (hv15_87 : In _ _ _); obtain ⟨_, _⟩ := (hv17_87 : In _ _ _); obtain ⟨_, _⟩ := (hv20_87 : In _ _ _); obtain ⟨_, _⟩ := (hv23_87 : In _ _ _); obtain ⟨_, _⟩ := (hv36_87 : In _ _ _); obtain ⟨_, _⟩ := (hv47_87 : In _ _ _); obtain ⟨_, _⟩ := (hv48_87 : In _ _ _); obtain ⟨_, _⟩ := (hv53_87 : In _ _ _); obtain ⟨_, _⟩ := (hv55_87 : In _ _ _); omega), (show th 20 = (th 12) * rnd (th 10) from m3), (show th 21 = th 11 by obtain ⟨_, _⟩ := (hv2_87 : In _ _ _); obtain ⟨_, _⟩ := (hv3_87 : In _ _ _); obtain ⟨_, _⟩ := (hv4_87 : In _ _ _); obtain ⟨_, _⟩ := (hv5_87 : In _ _ _); obtain ⟨_, _⟩ := (hv6_87 : In _ _ _); obtain ⟨_, _⟩ := (hv8_87 : In _ _ _); obtain ⟨_, _⟩ := (hv9_87 : In _ _ _); obtain ⟨_, _⟩ := (hv13_87 : In _ _ _); obtain ⟨_, _⟩ := (hv14_87 : In _ _ _); obtain ⟨_, _⟩ := (hv15_87 : In _ _ _); obtain ⟨_, _⟩ := (hv17_87 : In _ _ _); obtain ⟨_, _⟩ := (hv20_87 : In _ _ _); obtain ⟨_, _⟩ := (hv23_87 : In _ _ _); obtain ⟨_, _⟩ := (hv36_87 : In _ _ _); obtain ⟨_, _⟩ := (hv47_87 : In _ _ _); obtain ⟨_, _⟩ := (hv48_87 : In _ _ _); obtain ⟨_, _⟩ := (hv53_87 : In _ _ _); obtain ⟨_, _⟩ := (hv55_87 : In _ _ _); omega), (show th 22 = 2126 by obtain ⟨_, _⟩ := (hv2_87 : In _ _ _); obtain ⟨_, _⟩ := (hv3_87 : In _ _ _); obtain ⟨_, _⟩ := (hv4_87 : In _ _ _); obtain ⟨_, _⟩ := (hv5_87 : In _ _ _); obtain ⟨_, _⟩ := (hv6_87 : In _ _ _); obtain ⟨_, _⟩ := (hv8_87 : In _ _ _); obtain ⟨_, _⟩ := (hv9_87 : In _ _ _); obtain ⟨_, _⟩ := (hv13_87 : In _ _ _); obtain ⟨_, _⟩ := (hv14_87 : In _ _ _); obtain ⟨_, _⟩ := (hv15_87 : In _ _ _); obtain ⟨_, _⟩ := (hv17_87 : In _ _ _); obtain ⟨_, _⟩ := (hv20_87 : In _ _ _); obtain ⟨_, _⟩ := (hv23_87 : In _ _ _); obtain ⟨_, _⟩ := (hv36_87 : In _ _ _); obtain ⟨_, _⟩ := (hv47_87 : In _ _ _); obtain ⟨_, _⟩ := (hv48_87 : In _ _ _); obtain ⟨_, _⟩ := (hv53_87 : In _ _ _); obtain ⟨_, _⟩ := (hv55_87 : In _ _ _); omega), (show th 17 = 0 ∨ th 23 = 2126 by obtain ⟨_, _⟩ := (hv2_87 : In _ _ _); obtain ⟨_, _⟩ := (hv3_87 : In _ _ _); obtain ⟨_, _⟩ := (hv4_87 : In _ _ _); obtain ⟨_, _⟩ := (hv5_87 : In _ _ _); obtain ⟨_, _⟩ := (hv6_87 : In _ _ _); obtain ⟨_, _⟩ := (hv8_87 : In _ _ _); obtain ⟨_, _⟩ := (hv9_87 : In _ _ _); obtain ⟨_, _⟩ := (hv13_87 : In _ _ _); obtain ⟨_, _⟩ := (hv14_87 : In _ _ _); obtain ⟨_, _⟩ := (hv15_87 : In _ _ _); obtain ⟨_, _⟩ := (hv17_87 : In _ _ _); obtain ⟨_, _⟩ := (hv20_87 : In _ _ _); obtain ⟨_, _⟩ := (hv23_87 : In _ _ _); obtain ⟨_, _⟩ := (hv36_87 : In _ _ _); obtain ⟨_, _⟩ := (hv47_87 : In _ _ _); obtain ⟨_, _⟩ := (hv48_87 : In _ _ _); obtain ⟨_, _⟩ := (hv53_87 : In _ _ _); obtain ⟨_, _⟩ := (hv55_87 : In _ _ _); omega), (show th 24 = 2126 * (th 16) by obtain ⟨_, _⟩ := (hv2_87 : In _ _ _); obtain ⟨_, _⟩ := (hv3_87 : In _ _ _); obtain ⟨_, _⟩ := (hv4_87 : In _ _ _); obtain ⟨_, _⟩ := (hv5_87 : In _ _ _); obtain ⟨_, _⟩ := (hv6_87 : In _ _ _); obtain ⟨_, _⟩ := (hv8_87 : In _ _ _); obtain ⟨_, _⟩ := (hv9_87 : In _ _ _); obtain ⟨_, _⟩ := (hv13_87 : In _ _ _); obtain ⟨_, _⟩ := (hv14_87 : In _ _ _); obtain ⟨_, _⟩ := (hv15_87 : In _ _ _); obtain ⟨_, _⟩ := (hv17_87 : In _ _ _); obtain ⟨_, _⟩ := (hv20_87 : In _ _ _); obtain ⟨_, _⟩ := (hv23_87 : In _ _ _); obtain ⟨_, _⟩ := (hv36_87 : In _ _ _); obtain ⟨_, _⟩ := (hv47_87 : In _ _ _); obtain ⟨_, _⟩ := (hv48_87 : In _ _ _); obtain ⟨_, _⟩ := (hv53_87 : In _ _ _); obtain ⟨_, _⟩ := (hv55_87 : In _ _ _); omega), (show 0 ≤ th 16 ∧ th 16 ≤ 20 by obtain ⟨_, _⟩ := (hv2_87 : In _ _ _); obtain ⟨_, _⟩ := (hv3_87 : In _ _ _); obtain ⟨_, _⟩ := (hv4_87 : In _ _ _); obtain ⟨_, _⟩ := (hv5_87 : In _ _ _); obtain ⟨_, _⟩ := (hv6_87 : In _ _ _); obtain ⟨_, _⟩ := (hv8_87 : In _ _ _); obtain ⟨_, _⟩ := (hv9_87 : In _ _ _); obtain ⟨_, _⟩ := (hv13_87 : In _ _ _); obtain ⟨_, _⟩ := (hv14_87 : In _ _ _); obtain ⟨_, _⟩ := (hv15_87 : In _ _ _); obtain ⟨_, _⟩ := (hv17_87 : In _ _ _); obtain ⟨_, _⟩ := (hv20_87 : In _ _ _); obtain ⟨_, _⟩ := (hv23_87 : In _ _ _); obtain ⟨_, _⟩ := (hv36_87 : In _ _ _); obtain ⟨_, _⟩ := (hv47_87 : In _ _ _); obtain ⟨_, _⟩ := (hv48_87 : In _ _ _); obtain ⟨_, _⟩ := (hv53_87 : In _ _ _); obtain ⟨_, _⟩ := (hv55_87 : In _ _ _); omega), (show 0 ≤ th 19 ∧ th 19 ≤ th 20 by obtain ⟨_, _⟩ := (hv2_87 : In _ _ _); obtain ⟨_, _⟩ := (hv3_87 : In _ _ _); obtain ⟨_, _⟩ := (hv4_87 : In _ _ _); obtain ⟨_, _⟩ := (hv5_87 : In _ _ _); obtain ⟨_, _⟩ := (hv6_87 : In _ _ _); obtain ⟨_, _⟩ := (hv8_87 : In _ _ _); obtain ⟨_, _⟩ := (hv9_87 : In _ _ _); obtain ⟨_, _⟩ := (hv13_87 : In _ _ _); obtain ⟨_, _⟩ := (hv14_87 : In _ _ _); obtain ⟨_, _⟩ := (hv15_87 : In _ _ _); obtain ⟨_, _⟩ := (hv17_87 : In _ _ _); obtain ⟨_, _⟩ := (hv20_87 : In _ _ _); obtain ⟨_, _⟩ := (hv23_87 : In _ _ _); obtain ⟨_, _⟩ := (hv36_87 : In _ _ _); obtain ⟨_, _⟩ := (hv47_87 : In _ _ _); obtain ⟨_, _⟩ := (hv48_87 : In _ _ _); obtain ⟨_, _⟩ := (hv53_87 : In _ _ _); obtain ⟨_, _⟩ := (hv55_87 : In _ _ _); omega), (show 0 ≤ th 11 ∧ th 11 ≤ 9 by obtain ⟨_, _⟩ := (hv2_87 : In _ _ _); obtain ⟨_, _⟩ := (hv3_87 : In _ _ _); obtain ⟨_, _⟩ := (hv4_87 : In _ _ _); obtain ⟨_, _⟩ := (hv5_87 : In _ _ _); obtain ⟨_, _⟩ := (hv6_87 : In _ _ _); obtain ⟨_, _⟩ := (hv8_87 : In _ _ _); obtain ⟨_, _⟩ := (hv9_87 : In _ _ _); obtain ⟨_, _⟩ := (hv13_87 : In _ _ _); obtain ⟨_, _⟩ := (hv14_87 : In _ _ _); obtain ⟨_, _⟩ := (hv15_87 : In _ _ _); obtain ⟨_, _⟩ := (hv17_87 : In _ _ _); obtain ⟨_, _⟩ := (hv20_87 : In _ _ _); obtain ⟨_, _⟩ := (hv23_87 : In _ _ _); obtain ⟨_, _⟩ := (hv36_87 : In _ _ _); obtain ⟨_, _⟩ := (hv47_87 : In _ _ _); obtain ⟨_, _⟩ := (hv48_87 : In _ _ _); obtain ⟨_, _⟩ := (hv53_87 : In _ _ _); obtain ⟨_, _⟩ := (hv55_87 : In _ _ _); omega)⟩), (SBM.set (k := 13) (SBM.rf th) (by decide))⟩, hT⟩, hfr⟩) dX11_feed_75
  ·
    have oc500 : (500 : Int32).toInt = 500 := by decide
    have cc89 : (500 : Int32).toInt < x43.toInt := i32_nle c46
    have hb90 : In x43 501 520 := In.gt1 hb44 (⟨by decide, by decide⟩ : In 500 500 500) cc89 (by omega) (by omega)
    refine lv_iconst (v := (-1)) hx hb dX11_feed_42 (by decide) ?_
    exact ret_i (ty := .int) hx hb hr hlocks (rfl) hP hD hS (Nat.le_of_ble_eq_true rfl) (Nat.le_of_ble_eq_true rfl) (⟨rfl, ⟨th, ⟨(show MI th from hM), (SBM.rf th)⟩, hT⟩, hfr⟩) dX11_feed_43

abbrev rm_X11_end : Room := { frames := 0, cells := 0, slots := 0, locals := 0 }
abbrev po_X11_end (g : GG) (ad : Nat → Nat) (th : Nat → Int) (L : List Nat) (f : HP) (z1 : Int32) : Int32 → (List Nat × HP) → Prop := fun r u => u.1 = L ∧ (∃ th' : Nat → Int, (MI th' ∧ SBM th th') ∧ TI g ad th' u.2) ∧ (∀ b, b ≠ (ad 255) → u.2 b = f b) ∧ In r 0 1
set_option maxHeartbeats 4000000 in
set_option maxRecDepth 100000 in
theorem s_X11_end (l : Launch) (g : GG) (ad : Nat → Nat) (th : Nat → Int) (L : List Nat) (f : HP) (sz : Nat) (z1 : Int32) (hst : ST ad L) (hT : TI g ad th f) (hM : MI th) : MtI l g yX11_end cX11_end 2 (some .boolean) rm_X11_end [.ref (ad 255), .int z1] L f sz (po_X11_end g ad th L f z1) := by
  refine MtI.of (by decide +kernel) (Nat.le_of_ble_eq_true rfl) ?_
  intro p e s m below meth c A hEn hP hD hS ls hl
  obtain ⟨hx, hb, hr, hml, hown, hlocks, hts, hG, hA, hE, hnm⟩ := hEn
  have hown : s.vm.findClass "RulerWordModel" = some m.cls := hown
  have hl : lv_has ls 2 [(0, .ref (ad 255)), (1, .int z1)] := hl
  have hfr : (∀ b, b ≠ (ad 255) → f b = f b) := fun b z0_ => rfl
  have hM0 := hM
  obtain ⟨m1, m2, m3, m4, m5, m6, m7, m8, m9, m10⟩ := hM0
  have m20 := mi20 m2 m3
  refine lv_aload_n hx hb dX11_end_0 rfl (lv_at hl 0 rfl) ?_
  refine lv_iconst (v := 0) hx hb dX11_end_1 (by decide) ?_
  obtain ⟨v0_1, v2_1, v3_1, v4_1, v5_1, v6_1, v8_1, v9_1, v12_1, v13_1, v14_1, v15_1, v16_1, v17_1, v18_1, v19_1, v20_1, v21_1, v22_1, v23_1, v25_1, v36_1, v37_1, v38_1, v39_1, v40_1, v45_1, v46_1, v47_1, v48_1, v50_1, v51_1, v53_1, v55_1, hf2, hv0_1, hv2_1, hg2_1, hv3_1, hg3_1, hv4_1, hg4_1, hv5_1, hg5_1, hv6_1, hg6_1, hv8_1, hg8_1, hv9_1, hg9_1, hv12_1, hv13_1, hg13_1, hv14_1, hg14_1, hv15_1, hg15_1, hv17_1, hg17_1, hv20_1, hg20_1, hv23_1, hg23_1, hv25_1, hv36_1, hg36_1, hv47_1, hg47_1, hv48_1, hg48_1, hv53_1, hg53_1, hv55_1, hg55_1, hrel0_1⟩ := hT.2.2 0 (by decide)
  refine pl_put (ty := .int) (v := .int 0) (fs' := [.int 0, .ref (ad 256), .int v2_1, .int v3_1, .int v4_1, .int v5_1, .int v6_1, .ref (ad 257), .int v8_1, .int v9_1, .ref (ad 258), .ref (ad 259), .int v12_1, .int v13_1, .int v14_1, .int v15_1, .int v16_1, .int v17_1, .int v18_1, .int v19_1, .int v20_1, .long v21_1, .long v22_1, .int v23_1, .ref (ad 260), .int v25_1, .ref (ad 261), .ref (ad 262), .ref (ad 263), .ref (ad 264), .ref (ad 265), .ref (ad 266), .ref (ad 267), .ref (ad 268), .ref (ad 269), .ref (ad 270), .int v36_1, .int v37_1, .int v38_1, .int v39_1, .int v40_1, .ref (ad 271), .ref (ad 272), .ref (ad 273), .ref (ad 274), .long v45_1, .long v46_1, .int v47_1, .int v48_1, .ref (ad 275), .int v50_1, .int v51_1, .ref (ad 276), .int v53_1, .ref (ad 277), .int v55_1]) hx hb hts (fun w h => mT (inX11 w h)) tyX11 tyX11_ok nmX11 hown hG.1 hP hD hS (hst.1 255 (by decide)) hf2 rfl 0 (by decide) (hts _ (mT wg_1336)) (fun _ h => h) rfl (by decide +kernel) (rfl) (rfl) (Nat.le_of_ble_eq_true rfl) rfl dX11_end_2 (fun H locs f3 hf4 ho5 hP hD hS => ?_)
  have hfr : (∀ b, b ≠ (ad 255) → f3 b = f b) := fun b z0_ => (ho5 b z0_).trans (hfr b z0_)
  refine lv_iload_n hx hb dX11_end_5 rfl (lv_at hl 1 rfl) ?_
  have hT := TI.updM hT hst (k := 0) (by decide) hf4 ho5 ⟨0, v2_1, v3_1, v4_1, v5_1, v6_1, v8_1, v9_1, v12_1, v13_1, v14_1, v15_1, v16_1, v17_1, v18_1, v19_1, v20_1, v21_1, v22_1, v23_1, v25_1, v36_1, v37_1, v38_1, v39_1, v40_1, v45_1, v46_1, v47_1, v48_1, v50_1, v51_1, v53_1, v55_1, rfl, (⟨by decide, by decide⟩ : In 0 0 1), hv2_1, hg2_1, hv3_1, hg3_1, hv4_1, hg4_1, hv5_1, hg5_1, hv6_1, hg6_1, hv8_1, hg8_1, hv9_1, hg9_1, hv12_1, hv13_1, hg13_1, hv14_1, hg14_1, hv15_1, hg15_1, hv17_1, hg17_1, hv20_1, hg20_1, hv23_1, hg23_1, hv25_1, hv36_1, hg36_1, hv47_1, hg47_1, hv48_1, hg48_1, hv53_1, hg53_1, hv55_1, hg55_1, hrel0_1⟩
  refine lv_if_lt (tgt := 17) hx hb dX11_end_6 (by decide) (fun c6 => ?_) (fun c6 => ?_)
  ·
    have oc0 : (0 : Int32).toInt = 0 := by decide
    have cc7 : z1.toInt < (0 : Int32).toInt := i32_lt.mp c6
    have hb8 : In z1 (-2147483648) (-1) := In.lt1 (In.full z1) (⟨by decide, by decide⟩ : In 0 0 0) cc7 (by omega) (by omega)
    refine lv_iconst (v := 0) hx hb dX11_end_17 (by decide) ?_
    exact ret_i (ty := .boolean) hx hb hr hlocks (rfl) hP hD hS (Nat.le_of_ble_eq_true rfl) (Nat.le_of_ble_eq_true rfl) (⟨rfl, ⟨th, ⟨(show MI th from hM), (SBM.rf th)⟩, hT⟩, hfr, (⟨by decide, by decide⟩ : In 0 0 1)⟩) dX11_end_18
  ·
    have oc0 : (0 : Int32).toInt = 0 := by decide
    have cc9 : (0 : Int32).toInt ≤ z1.toInt := i32_nlt c6
    have hb10 : In z1 0 2147483647 := In.ge1 (In.full z1) (⟨by decide, by decide⟩ : In 0 0 0) cc9 (by omega) (by omega)
    refine lv_iload_n hx hb dX11_end_9 rfl (lv_at hl 1 rfl) ?_
    refine lv_aload_n hx hb dX11_end_10 rfl (lv_at hl 0 rfl) ?_
    refine pl_get (v := .int v2_1) hx hb hts (fun w h => mT (inX11 w h)) hown hG.1 hP (hst.1 255 (by decide)) hf4 rfl 2 (by decide) (hts _ (mT wg_1338)) (fun _ h => h) rfl dX11_end_11 ?_
    refine lv_icmp_le (tgt := 19) hx hb dX11_end_14 (by decide) (fun c11 => ?_) (fun c11 => ?_)
    ·
      have cc12 : z1.toInt ≤ v2_1.toInt := i32_le.mp c11
      have hb13 : In z1 0 500 := In.le1 hb10 hv2_1 cc12 (by omega) (by omega)
      refine lv_aload_n hx hb dX11_end_19 rfl (lv_at hl 0 rfl) ?_
      refine lv_iload_n hx hb dX11_end_20 rfl (lv_at hl 1 rfl) ?_
      refine pl_put (ty := .int) (v := .int z1) (fs' := [.int 0, .ref (ad 256), .int z1, .int v3_1, .int v4_1, .int v5_1, .int v6_1, .ref (ad 257), .int v8_1, .int v9_1, .ref (ad 258), .ref (ad 259), .int v12_1, .int v13_1, .int v14_1, .int v15_1, .int v16_1, .int v17_1, .int v18_1, .int v19_1, .int v20_1, .long v21_1, .long v22_1, .int v23_1, .ref (ad 260), .int v25_1, .ref (ad 261), .ref (ad 262), .ref (ad 263), .ref (ad 264), .ref (ad 265), .ref (ad 266), .ref (ad 267), .ref (ad 268), .ref (ad 269), .ref (ad 270), .int v36_1, .int v37_1, .int v38_1, .int v39_1, .int v40_1, .ref (ad 271), .ref (ad 272), .ref (ad 273), .ref (ad 274), .long v45_1, .long v46_1, .int v47_1, .int v48_1, .ref (ad 275), .int v50_1, .int v51_1, .ref (ad 276), .int v53_1, .ref (ad 277), .int v55_1]) hx hb hts (fun w h => mT (inX11 w h)) tyX11 tyX11_ok nmX11 hown hG.1 hP hD hS (hst.1 255 (by decide)) hf4 rfl 2 (by decide) (hts _ (mT wg_1338)) (fun _ h => h) rfl (by decide +kernel) (rfl) (rfl) (Nat.le_of_ble_eq_true rfl) rfl dX11_end_21 (fun H locs f14 hf15 ho16 hP hD hS => ?_)
      have hfr : (∀ b, b ≠ (ad 255) → f14 b = f b) := fun b z0_ => (ho16 b z0_).trans (hfr b z0_)
      refine lv_iconst (v := 1) hx hb dX11_end_24 (by decide) ?_
      have hT := TI.updMG (th' := (gset th 13 (z1.toInt))) hT hst (k := 0) (by decide) hf15 ho16 ⟨0, z1, v3_1, v4_1, v5_1, v6_1, v8_1, v9_1, v12_1, v13_1, v14_1, v15_1, v16_1, v17_1, v18_1, v19_1, v20_1, v21_1, v22_1, v23_1, v25_1, v36_1, v37_1, v38_1, v39_1, v40_1, v45_1, v46_1, v47_1, v48_1, v50_1, v51_1, v53_1, v55_1, rfl, (⟨by decide, by decide⟩ : In 0 0 1), hb13, (by simp [gset]), hv3_1, (by rw [hg3_1]; simp [gset]), hv4_1, (by rw [hg4_1]; simp [gset]), hv5_1, (by rw [hg5_1]; simp [gset]), hv6_1, (by rw [hg6_1]; simp [gset]), hv8_1, (by rw [hg8_1]; simp [gset]), hv9_1, (by rw [hg9_1]; simp [gset]), hv12_1, hv13_1, (by rw [hg13_1]; simp [gset]), hv14_1, (by rw [hg14_1]; simp [gset]), hv15_1, (by rw [hg15_1]; simp [gset]), hv17_1, (by rw [hg17_1]; simp [gset]), hv20_1, (by rw [hg20_1]; simp [gset]), hv23_1, (by rw [hg23_1]; simp [gset]), hv25_1, hv36_1, (by rw [hg36_1]; simp [gset]), hv47_1, (by rw [hg47_1]; simp [gset]), hv48_1, (by rw [hg48_1]; simp [gset]), hv53_1, (by rw [hg53_1]; simp [gset]), hv55_1, (by rw [hg55_1]; simp [gset]), hrel0_1⟩ (fun q hq => ((gset_ne (fun e => hq (by subst e; decide))).trans rfl))
      have hT : TI g ad (gset th 13 z1.toInt) f14 := TI.cast hT (by funext q; simp only [gset]; (repeat' split); all_goals first | rfl | omega | (subst_vars; rfl) | (exfalso; omega))
      exact ret_i (ty := .boolean) hx hb hr hlocks (rfl) hP hD hS (Nat.le_of_ble_eq_true rfl) (Nat.le_of_ble_eq_true rfl) (⟨rfl, ⟨(gset th 13 z1.toInt), ⟨(show MI (gset th 13 z1.toInt) from ⟨(show th 15 = 0 ∨ 3 ≤ th 11 by omega), (show 0 ≤ th 12 ∧ th 12 ≤ 6 by omega), (show th 20 = (th 12) * rnd (th 10) from m3), (show th 21 = th 11 by omega), (show th 22 = 2126 by omega), (show th 17 = 0 ∨ th 23 = 2126 by omega), (show th 24 = 2126 * (th 16) by omega), (show 0 ≤ th 16 ∧ th 16 ≤ 20 by omega), (show 0 ≤ th 19 ∧ th 19 ≤ th 20 by omega), (show 0 ≤ th 11 ∧ th 11 ≤ 9 by omega)⟩), (SBM.set (k := 13) (SBM.rf th) (by decide))⟩, hT⟩, hfr, (⟨by decide, by decide⟩ : In 1 0 1)⟩) dX11_end_25
    ·
      have cc17 : v2_1.toInt < z1.toInt := i32_nle c11
      have hb18 : In z1 1 2147483647 := In.gt1 hb10 hv2_1 cc17 (by omega) (by omega)
      refine lv_iconst (v := 0) hx hb dX11_end_17 (by decide) ?_
      exact ret_i (ty := .boolean) hx hb hr hlocks (rfl) hP hD hS (Nat.le_of_ble_eq_true rfl) (Nat.le_of_ble_eq_true rfl) (⟨rfl, ⟨th, ⟨(show MI th from hM), (SBM.rf th)⟩, hT⟩, hfr, (⟨by decide, by decide⟩ : In 0 0 1)⟩) dX11_end_18

abbrev rm_X11_here : Room := { frames := 0, cells := 0, slots := 0, locals := 0 }
abbrev po_X11_here (g : GG) (ad : Nat → Nat) (th : Nat → Int) (L : List Nat) (f : HP)  : Int32 → (List Nat × HP) → Prop := fun r u => u.1 = L ∧ u.2 = f ∧ In r (-1) 255 ∧ (r.toInt = -1 ∨ th 37 < th 13) ∧ (∀ r0 : Nat → Int32, f (ad 256) = .inl (g.2.1 2, 500, .inl r0) → r.toInt = -1 ∨ r.toInt = (r0 (th 37).toNat).toInt % 256)
set_option maxHeartbeats 4000000 in
set_option maxRecDepth 100000 in
theorem s_X11_here (l : Launch) (g : GG) (ad : Nat → Nat) (th : Nat → Int) (L : List Nat) (f : HP) (sz : Nat)  (hst : ST ad L) (hT : TI g ad th f)  : MtI l g yX11_here cX11_here 1 (some .int) rm_X11_here [.ref (ad 255)] L f sz (po_X11_here g ad th L f ) := by
  refine MtI.of (by decide +kernel) (Nat.le_of_ble_eq_true rfl) ?_
  intro p e s m below meth c A hEn hP hD hS ls hl
  obtain ⟨hx, hb, hr, hml, hown, hlocks, hts, hG, hA, hE, hnm⟩ := hEn
  have hown : s.vm.findClass "RulerWordModel" = some m.cls := hown
  have hl : lv_has ls 1 [(0, .ref (ad 255))] := hl
  refine lv_aload_n hx hb dX11_here_0 rfl (lv_at hl 0 rfl) ?_
  obtain ⟨v0_1, v2_1, v3_1, v4_1, v5_1, v6_1, v8_1, v9_1, v12_1, v13_1, v14_1, v15_1, v16_1, v17_1, v18_1, v19_1, v20_1, v21_1, v22_1, v23_1, v25_1, v36_1, v37_1, v38_1, v39_1, v40_1, v45_1, v46_1, v47_1, v48_1, v50_1, v51_1, v53_1, v55_1, hf2, hv0_1, hv2_1, hg2_1, hv3_1, hg3_1, hv4_1, hg4_1, hv5_1, hg5_1, hv6_1, hg6_1, hv8_1, hg8_1, hv9_1, hg9_1, hv12_1, hv13_1, hg13_1, hv14_1, hg14_1, hv15_1, hg15_1, hv17_1, hg17_1, hv20_1, hg20_1, hv23_1, hg23_1, hv25_1, hv36_1, hg36_1, hv47_1, hg47_1, hv48_1, hg48_1, hv53_1, hg53_1, hv55_1, hg55_1, hrel0_1⟩ := hT.2.2 0 (by decide)
  refine pl_get (v := .int v3_1) hx hb hts (fun w h => mT (inX11 w h)) hown hG.1 hP (hst.1 255 (by decide)) hf2 rfl 3 (by decide) (hts _ (mT wg_1339)) (fun _ h => h) rfl dX11_here_1 ?_
  refine lv_aload_n hx hb dX11_here_4 rfl (lv_at hl 0 rfl) ?_
  refine pl_get (v := .int v2_1) hx hb hts (fun w h => mT (inX11 w h)) hown hG.1 hP (hst.1 255 (by decide)) hf2 rfl 2 (by decide) (hts _ (mT wg_1338)) (fun _ h => h) rfl dX11_here_5 ?_
  refine lv_icmp_ge (tgt := 27) hx hb dX11_here_8 (by decide) (fun c3 => ?_) (fun c3 => ?_)
  ·
    have cc4 : v2_1.toInt ≤ v3_1.toInt := i32_le.mp c3
    refine lv_iconst (v := (-1)) hx hb dX11_here_27 (by decide) ?_
    exact ret_i (ty := .int) hx hb hr hlocks (rfl) hP hD hS (Nat.le_of_ble_eq_true rfl) (Nat.le_of_ble_eq_true rfl) (⟨rfl, rfl, (⟨by decide, by decide⟩ : In (-1) (-1) 255), (Or.inl (by decide)), (fun r0 _ => Or.inl (by decide))⟩) dX11_here_28
  ·
    have cc5 : v3_1.toInt < v2_1.toInt := i32_nle c3
    have hb6 : In v3_1 0 499 := In.lt1 hv3_1 hv2_1 cc5 (by omega) (by omega)
    have hb7 : In v2_1 1 500 := In.lt2 hv3_1 hv2_1 cc5 (by omega) (by omega)
    refine lv_aload_n hx hb dX11_here_11 rfl (lv_at hl 0 rfl) ?_
    refine pl_get (v := .ref (ad 256)) hx hb hts (fun w h => mT (inX11 w h)) hown hG.1 hP (hst.1 255 (by decide)) hf2 rfl 1 (by decide) (hts _ (mT wg_1337)) (fun _ h => h) rfl dX11_here_12 ?_
    refine lv_aload_n hx hb dX11_here_15 rfl (lv_at hl 0 rfl) ?_
    refine pl_get (v := .int v3_1) hx hb hts (fun w h => mT (inX11 w h)) hown hG.1 hP (hst.1 255 (by decide)) hf2 rfl 3 (by decide) (hts _ (mT wg_1339)) (fun _ h => h) rfl dX11_here_16 ?_
    obtain ⟨rw8, hf9, hc10⟩ := hT.2.2 1 (by decide)
    have hin11 : vp_in v3_1 500 := In.inb hb6 (by decide) (by decide)
    refine pl_bald hx hb hG.1 hP (hst.1 256 (by decide)) 2 hf9 rfl hin11 dX11_here_19 ?_
    refine lv_topi (fun x12 ex12 => ?_)
    have hb13 : In x12 (-128) 127 := by rw [ex12]; exact hc10 _ (vp_nat hin11)
    refine lv_sipush (v := 255) hx hb dX11_here_20 (by decide) ?_
    refine lv_iand hx hb dX11_here_23 ?_
    refine lv_topi (fun x14 ex14 => ?_)
    have hb15 : In x14 0 255 := ex14 ▸ In.andr (⟨by decide, by decide⟩ : In 255 255 255) (by decide)
    refine lv_goto (tgt := 28) hx hb dX11_here_24 (by decide) ?_
    exact ret_i (ty := .int) hx hb hr hlocks (rfl) hP hD hS (Nat.le_of_ble_eq_true rfl) (Nat.le_of_ble_eq_true rfl) (⟨rfl, rfl, (In.mono hb15 (by decide) (by decide)), (Or.inr (by obtain ⟨o0a, o0b⟩ := (hb7 : In _ _ _); obtain ⟨o1a, o1b⟩ := (hb6 : In _ _ _); obtain ⟨o2a, o2b⟩ := (hv4_1 : In _ _ _); obtain ⟨o3a, o3b⟩ := (hv5_1 : In _ _ _); obtain ⟨o4a, o4b⟩ := (hv6_1 : In _ _ _); obtain ⟨o5a, o5b⟩ := (hv8_1 : In _ _ _); obtain ⟨o6a, o6b⟩ := (hv9_1 : In _ _ _); obtain ⟨o7a, o7b⟩ := (hv13_1 : In _ _ _); obtain ⟨o8a, o8b⟩ := (hv14_1 : In _ _ _); obtain ⟨o9a, o9b⟩ := (hv15_1 : In _ _ _); obtain ⟨o10a, o10b⟩ := (hv17_1 : In _ _ _); obtain ⟨o11a, o11b⟩ := (hv20_1 : In _ _ _); obtain ⟨o12a, o12b⟩ := (hv23_1 : In _ _ _); obtain ⟨o13a, o13b⟩ := (hv36_1 : In _ _ _); obtain ⟨o14a, o14b⟩ := (hv47_1 : In _ _ _); obtain ⟨o15a, o15b⟩ := (hv48_1 : In _ _ _); obtain ⟨o16a, o16b⟩ := (hv53_1 : In _ _ _); obtain ⟨o17a, o17b⟩ := (hv55_1 : In _ _ _); omega)), (fun r0 q0 => Or.inr (by rw [and255 ex14, ex12]; have q1 := hf9.symm.trans q0; injection q1 with q1; injection q1 with _ q1; injection q1 with _ q1; injection q1 with q1; rw [← q1]; show (rw8 v3_1.toInt.toNat).toInt % 256 = _; rw [hg3_1]))⟩) dX11_here_28

abbrev rm_X11_look : Room := { frames := 1, cells := 0, slots := 0, locals := 20 }
abbrev po_X11_look (g : GG) (ad : Nat → Nat) (th : Nat → Int) (L : List Nat) (f : HP)  : Int32 → (List Nat × HP) → Prop := fun r u => u.1 = L ∧ (∃ za : Int, ((th 37 ≤ za ∧ za ≤ 500) ∧ (r.toInt = -1 ∨ za < th 13)) ∧ TI g ad (gset th 37 za) u.2) ∧ (∀ b, b ≠ (ad 255) → u.2 b = f b) ∧ In r (-1) 255
set_option maxHeartbeats 4000000 in
set_option maxRecDepth 100000 in
theorem s_X11_look (l : Launch) (g : GG) (ad : Nat → Nat) (th : Nat → Int) (L : List Nat) (f : HP) (sz : Nat)  (hst : ST ad L) (hT : TI g ad th f)  : MtI l g yX11_look cX11_look 1 (some .int) rm_X11_look [.ref (ad 255)] L f sz (po_X11_look g ad th L f ) := by
  refine MtI.of (by decide +kernel) (Nat.le_of_ble_eq_true rfl) ?_
  intro p e s m below meth c A hEn hP hD hS ls hl
  obtain ⟨hx, hb, hr, hml, hown, hlocks, hts, hG, hA, hE, hnm⟩ := hEn
  have hown : s.vm.findClass "RulerWordModel" = some m.cls := hown
  have hl : lv_has ls 1 [(0, .ref (ad 255))] := hl
  have hfr : (∀ b, b ≠ (ad 255) → f b = f b) := fun b z0_ => rfl
  have hJ0 : ∀ (k0 : Nat) (zg0_za : Int) (f_0 : HP) (H : Heap) (locs : List Loc) (ls : Array Slot), th 37 ≤ zg0_za ∧ zg0_za ≤ 500 → va_P g.1 vwCl (va_pl L f_0) H → va_D A (va_pl L f_0) → va_S A s.heap H locs → TI g ad (gset th 37 zg0_za) f_0 → (∀ b, b ≠ (ad 255) → f_0 b = f b) → lv_has ls 1 [(0, .ref (ad 255))] → 500 - zg0_za < ((k0 : Nat) : Int) → W p l e rm_X11_look s m [.ref (ad 255)].toArray below meth c H locs 0 0 (MQ below (va_Qi (po_X11_look g ad th L f ) (PstB g A) A) [.ref (ad 255)].toArray s rm_X11_look.cells rm_X11_look.slots A) (F0 m 0 ls []) := by
    intro k0
    induction k0 with
    | zero =>
      intro zg0_za f_0 H locs ls hzg0 hP hD hS hT hfr hl hmz0
      exact absurd hmz0 (by omega)
    | succ k0 ih0 =>
      intro zg0_za f_0 H locs ls hzg0 hP hD hS hT hfr hl hmz0
      refine lv_aload_n hx hb dX11_look_0 rfl (lv_at hl 0 rfl) ?_
      obtain ⟨v0_1, v2_1, v3_1, v4_1, v5_1, v6_1, v8_1, v9_1, v12_1, v13_1, v14_1, v15_1, v16_1, v17_1, v18_1, v19_1, v20_1, v21_1, v22_1, v23_1, v25_1, v36_1, v37_1, v38_1, v39_1, v40_1, v45_1, v46_1, v47_1, v48_1, v50_1, v51_1, v53_1, v55_1, hf2, hv0_1, hv2_1, hg2_1, hv3_1, hg3_1, hv4_1, hg4_1, hv5_1, hg5_1, hv6_1, hg6_1, hv8_1, hg8_1, hv9_1, hg9_1, hv12_1, hv13_1, hg13_1, hv14_1, hg14_1, hv15_1, hg15_1, hv17_1, hg17_1, hv20_1, hg20_1, hv23_1, hg23_1, hv25_1, hv36_1, hg36_1, hv47_1, hg47_1, hv48_1, hg48_1, hv53_1, hg53_1, hv55_1, hg55_1, hrel0_1⟩ := hT.2.2 0 (by decide)
      have hg2_1 : v2_1.toInt = th 13 := hg2_1
      have hg3_1 : v3_1.toInt = zg0_za := hg3_1
      have hg4_1 : v4_1.toInt = th 42 := hg4_1
      have hg5_1 : v5_1.toInt = th 40 := hg5_1
      have hg6_1 : v6_1.toInt = th 41 := hg6_1
      have hg8_1 : v8_1.toInt = th 43 := hg8_1
      have hg9_1 : v9_1.toInt = th 35 := hg9_1
      have hg13_1 : v13_1.toInt = th 36 := hg13_1
      have hg14_1 : v14_1.toInt = th 10 := hg14_1
      have hg15_1 : v15_1.toInt = th 11 := hg15_1
      have hg17_1 : v17_1.toInt = th 12 := hg17_1
      have hg20_1 : v20_1.toInt = th 14 := hg20_1
      have hg23_1 : v23_1.toInt = th 15 := hg23_1
      have hg36_1 : v36_1.toInt = th 18 := hg36_1
      have hg47_1 : v47_1.toInt = th 16 := hg47_1
      have hg48_1 : v48_1.toInt = th 17 := hg48_1
      have hg53_1 : v53_1.toInt = th 38 := hg53_1
      have hg55_1 : v55_1.toInt = th 39 := hg55_1
      refine call_i (run_V (rm := rm_X11_here) hx hb hml hown hts (s_X11_here l g ad (gset th 37 zg0_za) _ _ _  hst hT ) cV_X11_here wg_1533 ⟨Nat.le_of_ble_eq_true rfl, Nat.le_of_ble_eq_true rfl⟩ hG hE hA hP hD hS (hst.1 255 (by decide)) hf2 rfl rfl hl.1 (As := []) (rest := []) rfl (Nat.le_of_ble_eq_true rfl) dX11_look_1 ⟨Nat.le_of_ble_eq_true rfl, Nat.le_of_ble_eq_true rfl⟩) hA hD hS (fun r3 L4 f5 H locs hp6 hP hD hS => ?_)
      obtain ⟨eL7L, eL7T, eL7R, eL7X0, eL7X1⟩ := hp6
      have eL7L : L4 = L := eL7L
      have eL7T : f5 = f_0 := eL7T
      rw [eL7L, eL7T] at hP hD
      have eL7R : In r3 (-1) 255 := eL7R
      have hh8 : r3.toInt = -1 ∨ zg0_za < th 13 := eL7X0
      refine lv_bipush (v := 32) hx hb dX11_look_4 (by decide) ?_
      refine lv_icmp_ne (tgt := 22) hx hb dX11_look_6 (by decide) (fun c9 => ?_) (fun c9 => ?_)
      ·
        have oc32 : (32 : Int32).toInt = 32 := by decide
        have cc10 : r3.toInt ≠ (32 : Int32).toInt := i32_ne c9
        refine lv_aload_n hx hb dX11_look_22 rfl (lv_at hl 0 rfl) ?_
        refine call_i (run_V (rm := rm_X11_here) hx hb hml hown hts (s_X11_here l g ad (gset th 37 zg0_za) _ _ _  hst hT ) cV_X11_here wg_1533 ⟨Nat.le_of_ble_eq_true rfl, Nat.le_of_ble_eq_true rfl⟩ hG hE hA hP hD hS (hst.1 255 (by decide)) hf2 rfl rfl hl.1 (As := []) (rest := []) rfl (Nat.le_of_ble_eq_true rfl) dX11_look_23 ⟨Nat.le_of_ble_eq_true rfl, Nat.le_of_ble_eq_true rfl⟩) hA hD hS (fun r11 L12 f13 H locs hp14 hP hD hS => ?_)
        obtain ⟨eL15L, eL15T, eL15R, eL15X0, eL15X1⟩ := hp14
        have eL15L : L12 = L := eL15L
        have eL15T : f13 = f_0 := eL15T
        rw [eL15L, eL15T] at hP hD
        have eL15R : In r11 (-1) 255 := eL15R
        have hh16 : r11.toInt = -1 ∨ zg0_za < th 13 := eL15X0
        exact ret_i (ty := .int) hx hb hr hlocks (rfl) hP hD hS (Nat.le_of_ble_eq_true rfl) (Nat.le_of_ble_eq_true rfl) (⟨rfl, ⟨zg0_za, (show (th 37 ≤ zg0_za ∧ zg0_za ≤ 500) ∧ (r11.toInt = -1 ∨ zg0_za < th 13) from (by obtain ⟨o0a, o0b⟩ := (eL15R : In _ _ _); obtain ⟨o1a, o1b⟩ := (hv2_1 : In _ _ _); obtain ⟨o2a, o2b⟩ := (hv3_1 : In _ _ _); obtain ⟨o3a, o3b⟩ := (hv4_1 : In _ _ _); obtain ⟨o4a, o4b⟩ := (hv5_1 : In _ _ _); obtain ⟨o5a, o5b⟩ := (hv6_1 : In _ _ _); obtain ⟨o6a, o6b⟩ := (hv8_1 : In _ _ _); obtain ⟨o7a, o7b⟩ := (hv9_1 : In _ _ _); obtain ⟨o8a, o8b⟩ := (hv13_1 : In _ _ _); obtain ⟨o9a, o9b⟩ := (hv14_1 : In _ _ _); obtain ⟨o10a, o10b⟩ := (hv15_1 : In _ _ _); obtain ⟨o11a, o11b⟩ := (hv17_1 : In _ _ _); obtain ⟨o12a, o12b⟩ := (hv20_1 : In _ _ _); obtain ⟨o13a, o13b⟩ := (hv23_1 : In _ _ _); obtain ⟨o14a, o14b⟩ := (hv36_1 : In _ _ _); obtain ⟨o15a, o15b⟩ := (hv47_1 : In _ _ _); obtain ⟨o16a, o16b⟩ := (hv48_1 : In _ _ _); obtain ⟨o17a, o17b⟩ := (hv53_1 : In _ _ _); obtain ⟨o18a, o18b⟩ := (hv55_1 : In _ _ _); omega)), TI.cast hT (by funext q; simp only [gset]; (repeat' split); all_goals first | rfl | omega | (subst_vars; rfl) | (exfalso; omega))⟩, hfr, eL15R⟩) dX11_look_26
      ·
        have oc32 : (32 : Int32).toInt = 32 := by decide
        have cc17 : r3.toInt = (32 : Int32).toInt := congrArg Int32.toInt c9
        have hb18 : In r3 32 32 := In.eq1 eL7R (⟨by decide, by decide⟩ : In 32 32 32) cc17 (by omega) (by omega)
        refine lv_aload_n hx hb dX11_look_9 rfl (lv_at hl 0 rfl) ?_
        refine lv_dup hx hb dX11_look_10 rfl ?_
        refine pl_get (v := .int v3_1) hx hb hts (fun w h => mT (inX11 w h)) hown hG.1 hP (hst.1 255 (by decide)) hf2 rfl 3 (by decide) (hts _ (mT wg_1339)) (fun _ h => h) rfl dX11_look_11 ?_
        refine lv_iconst (v := 1) hx hb dX11_look_14 (by decide) ?_
        refine lv_iadd hx hb dX11_look_15 ?_
        refine lv_topi (fun x19 ex19 => ?_)
        have hb20 : In x19 1 501 := ex19 ▸ In.add hv3_1 (⟨by decide, by decide⟩ : In 1 1 1) (by decide) (by decide) (by decide) (by decide)
        have et21 : x19.toInt = v3_1.toInt + 1 := In.adde ex19 hv3_1 (k := 1) (by decide) (by decide) (by decide)
        refine pl_put (ty := .int) (v := .int x19) (fs' := [.int v0_1, .ref (ad 256), .int v2_1, .int x19, .int v4_1, .int v5_1, .int v6_1, .ref (ad 257), .int v8_1, .int v9_1, .ref (ad 258), .ref (ad 259), .int v12_1, .int v13_1, .int v14_1, .int v15_1, .int v16_1, .int v17_1, .int v18_1, .int v19_1, .int v20_1, .long v21_1, .long v22_1, .int v23_1, .ref (ad 260), .int v25_1, .ref (ad 261), .ref (ad 262), .ref (ad 263), .ref (ad 264), .ref (ad 265), .ref (ad 266), .ref (ad 267), .ref (ad 268), .ref (ad 269), .ref (ad 270), .int v36_1, .int v37_1, .int v38_1, .int v39_1, .int v40_1, .ref (ad 271), .ref (ad 272), .ref (ad 273), .ref (ad 274), .long v45_1, .long v46_1, .int v47_1, .int v48_1, .ref (ad 275), .int v50_1, .int v51_1, .ref (ad 276), .int v53_1, .ref (ad 277), .int v55_1]) hx hb hts (fun w h => mT (inX11 w h)) tyX11 tyX11_ok nmX11 hown hG.1 hP hD hS (hst.1 255 (by decide)) hf2 rfl 3 (by decide) (hts _ (mT wg_1339)) (fun _ h => h) rfl (by decide +kernel) (rfl) (rfl) (Nat.le_of_ble_eq_true rfl) rfl dX11_look_16 (fun H locs f22 hf23 ho24 hP hD hS => ?_)
        have hfr : (∀ b, b ≠ (ad 255) → f22 b = f b) := fun b z0_ => (ho24 b z0_).trans (hfr b z0_)
        have hT := TI.updMG (th' := (gset (gset th 37 zg0_za) 37 (x19.toInt))) hT hst (k := 0) (by decide) hf23 ho24 ⟨v0_1, v2_1, x19, v4_1, v5_1, v6_1, v8_1, v9_1, v12_1, v13_1, v14_1, v15_1, v16_1, v17_1, v18_1, v19_1, v20_1, v21_1, v22_1, v23_1, v25_1, v36_1, v37_1, v38_1, v39_1, v40_1, v45_1, v46_1, v47_1, v48_1, v50_1, v51_1, v53_1, v55_1, rfl, hv0_1, hv2_1, (by rw [hg2_1]; simp [gset]), (In.mk (by obtain ⟨o0a, o0b⟩ := (hb20 : In _ _ _); obtain ⟨o1a, o1b⟩ := (hv2_1 : In _ _ _); obtain ⟨o2a, o2b⟩ := (hv4_1 : In _ _ _); obtain ⟨o3a, o3b⟩ := (hv5_1 : In _ _ _); obtain ⟨o4a, o4b⟩ := (hv6_1 : In _ _ _); obtain ⟨o5a, o5b⟩ := (hv8_1 : In _ _ _); obtain ⟨o6a, o6b⟩ := (hv9_1 : In _ _ _); obtain ⟨o7a, o7b⟩ := (hv13_1 : In _ _ _); obtain ⟨o8a, o8b⟩ := (hv14_1 : In _ _ _); obtain ⟨o9a, o9b⟩ := (hv15_1 : In _ _ _); obtain ⟨o10a, o10b⟩ := (hv17_1 : In _ _ _); obtain ⟨o11a, o11b⟩ := (hv20_1 : In _ _ _); obtain ⟨o12a, o12b⟩ := (hv23_1 : In _ _ _); obtain ⟨o13a, o13b⟩ := (hv36_1 : In _ _ _); obtain ⟨o14a, o14b⟩ := (hv47_1 : In _ _ _); obtain ⟨o15a, o15b⟩ := (hv48_1 : In _ _ _); obtain ⟨o16a, o16b⟩ := (hv53_1 : In _ _ _); obtain ⟨o17a, o17b⟩ := (hv55_1 : In _ _ _); obtain ⟨o18a, o18b⟩ := (hv3_1 : In _ _ _); omega) (by obtain ⟨o0a, o0b⟩ := (hb20 : In _ _ _); obtain ⟨o1a, o1b⟩ := (hv2_1 : In _ _ _); obtain ⟨o2a, o2b⟩ := (hv4_1 : In _ _ _); obtain ⟨o3a, o3b⟩ := (hv5_1 : In _ _ _); obtain ⟨o4a, o4b⟩ := (hv6_1 : In _ _ _); obtain ⟨o5a, o5b⟩ := (hv8_1 : In _ _ _); obtain ⟨o6a, o6b⟩ := (hv9_1 : In _ _ _); obtain ⟨o7a, o7b⟩ := (hv13_1 : In _ _ _); obtain ⟨o8a, o8b⟩ := (hv14_1 : In _ _ _); obtain ⟨o9a, o9b⟩ := (hv15_1 : In _ _ _); obtain ⟨o10a, o10b⟩ := (hv17_1 : In _ _ _); obtain ⟨o11a, o11b⟩ := (hv20_1 : In _ _ _); obtain ⟨o12a, o12b⟩ := (hv23_1 : In _ _ _); obtain ⟨o13a, o13b⟩ := (hv36_1 : In _ _ _); obtain ⟨o14a, o14b⟩ := (hv47_1 : In _ _ _); obtain ⟨o15a, o15b⟩ := (hv48_1 : In _ _ _); obtain ⟨o16a, o16b⟩ := (hv53_1 : In _ _ _); obtain ⟨o17a, o17b⟩ := (hv55_1 : In _ _ _); obtain ⟨o18a, o18b⟩ := (hv3_1 : In _ _ _); omega)), (by simp [gset]), hv4_1, (by rw [hg4_1]; simp [gset]), hv5_1, (by rw [hg5_1]; simp [gset]), hv6_1, (by rw [hg6_1]; simp [gset]), hv8_1, (by rw [hg8_1]; simp [gset]), hv9_1, (by rw [hg9_1]; simp [gset]), hv12_1, hv13_1, (by rw [hg13_1]; simp [gset]), hv14_1, (by rw [hg14_1]; simp [gset]), hv15_1, (by rw [hg15_1]; simp [gset]), hv17_1, (by rw [hg17_1]; simp [gset]), hv20_1, (by rw [hg20_1]; simp [gset]), hv23_1, (by rw [hg23_1]; simp [gset]), hv25_1, hv36_1, (by rw [hg36_1]; simp [gset]), hv47_1, (by rw [hg47_1]; simp [gset]), hv48_1, (by rw [hg48_1]; simp [gset]), hv53_1, (by rw [hg53_1]; simp [gset]), hv55_1, (by rw [hg55_1]; simp [gset]), hrel0_1⟩ (fun q hq => ((gset_ne (fun e => hq (by subst e; decide))).trans rfl))
        have hT : TI g ad (gset th 37 x19.toInt) f22 := TI.cast hT (by funext q; simp only [gset]; (repeat' split); all_goals first | rfl | omega | (subst_vars; rfl) | (exfalso; omega))
        refine lv_goto (tgt := 0) hx hb dX11_look_19 (by decide) ?_
        exact ih0 x19.toInt _ _ _ _ (show th 37 ≤ x19.toInt ∧ x19.toInt ≤ 500 from (by omega)) hP hD hS (TI.cast hT (by funext q; simp only [gset]; (repeat' split); all_goals first | rfl | omega | (subst_vars; rfl) | (exfalso; omega))) hfr (lv_sub hl [0] rfl) (show 500 - (x19.toInt) < ((k0 : Nat) : Int) from (by omega))
  exact hJ0 ((500 - (th 37)).toNat + 1) (th 37) _ _ _ _ (show th 37 ≤ (th 37) ∧ (th 37) ≤ 500 from (by omega)) hP hD hS (TI.cast hT (by funext q; simp only [gset]; (repeat' split); all_goals first | rfl | omega | (subst_vars; rfl) | (exfalso; omega))) hfr (lv_sub hl [0] rfl) (msI _)

abbrev rm_X11_fails : Room := { frames := 0, cells := 0, slots := 0, locals := 0 }
abbrev po_X11_fails (g : GG) (ad : Nat → Nat) (th : Nat → Int) (L : List Nat) (f : HP) (z1 : Int32) : (List Nat × HP) → Prop := fun u => u.1 = L ∧ (∃ ze : Int, (0 ≤ ze) ∧ TI g ad (gset th 42 ze) u.2) ∧ (∀ b, b ≠ (ad 255) → u.2 b = f b)
set_option maxHeartbeats 4000000 in
set_option maxRecDepth 100000 in
theorem s_X11_fails (l : Launch) (g : GG) (ad : Nat → Nat) (th : Nat → Int) (L : List Nat) (f : HP) (sz : Nat) (z1 : Int32) (hst : ST ad L) (hT : TI g ad th f) (hz1 : In z1 0 500) : MtV l g yX11_fails cX11_fails 2 rm_X11_fails [.ref (ad 255), .int z1] L f sz (po_X11_fails g ad th L f z1) := by
  refine MtV.of (by decide +kernel) (Nat.le_of_ble_eq_true rfl) ?_
  intro p e s m below meth c A hEn hP hD hS ls hl
  obtain ⟨hx, hb, hr, hml, hown, hlocks, hts, hG, hA, hE, hnm⟩ := hEn
  have hown : s.vm.findClass "RulerWordModel" = some m.cls := hown
  have hl : lv_has ls 2 [(0, .ref (ad 255)), (1, .int z1)] := hl
  have hfr : (∀ b, b ≠ (ad 255) → f b = f b) := fun b z0_ => rfl
  refine lv_aload_n hx hb dX11_fails_0 rfl (lv_at hl 0 rfl) ?_
  obtain ⟨v0_1, v2_1, v3_1, v4_1, v5_1, v6_1, v8_1, v9_1, v12_1, v13_1, v14_1, v15_1, v16_1, v17_1, v18_1, v19_1, v20_1, v21_1, v22_1, v23_1, v25_1, v36_1, v37_1, v38_1, v39_1, v40_1, v45_1, v46_1, v47_1, v48_1, v50_1, v51_1, v53_1, v55_1, hf2, hv0_1, hv2_1, hg2_1, hv3_1, hg3_1, hv4_1, hg4_1, hv5_1, hg5_1, hv6_1, hg6_1, hv8_1, hg8_1, hv9_1, hg9_1, hv12_1, hv13_1, hg13_1, hv14_1, hg14_1, hv15_1, hg15_1, hv17_1, hg17_1, hv20_1, hg20_1, hv23_1, hg23_1, hv25_1, hv36_1, hg36_1, hv47_1, hg47_1, hv48_1, hg48_1, hv53_1, hg53_1, hv55_1, hg55_1, hrel0_1⟩ := hT.2.2 0 (by decide)
  refine pl_get (v := .int v4_1) hx hb hts (fun w h => mT (inX11 w h)) hown hG.1 hP (hst.1 255 (by decide)) hf2 rfl 4 (by decide) (hts _ (mT wg_1340)) (fun _ h => h) rfl dX11_fails_1 ?_
  refine lv_iconst (v := (-1)) hx hb dX11_fails_4 (by decide) ?_
  refine lv_icmp_ne (tgt := 13) hx hb dX11_fails_5 (by decide) (fun c3 => ?_) (fun c3 => ?_)
  ·
    have ocm1 : ((-1) : Int32).toInt = (-1) := by decide
    have cc4 : v4_1.toInt ≠ ((-1) : Int32).toInt := i32_ne c3
    have hb5 : In v4_1 0 500 := In.ne1 hv4_1 (⟨by decide, by decide⟩ : In (-1) (-1) (-1)) cc4 (by omega) (by omega)
    exact ret_v hx hb hr hlocks hP hD hS (Nat.le_of_ble_eq_true rfl) (Nat.le_of_ble_eq_true rfl) (⟨rfl, ⟨(th 42), (show 0 ≤ (th 42) from (by obtain ⟨o0a, o0b⟩ := (hz1 : In _ _ _); obtain ⟨o1a, o1b⟩ := (hv2_1 : In _ _ _); obtain ⟨o2a, o2b⟩ := (hv3_1 : In _ _ _); obtain ⟨o3a, o3b⟩ := (hb5 : In _ _ _); obtain ⟨o4a, o4b⟩ := (hv5_1 : In _ _ _); obtain ⟨o5a, o5b⟩ := (hv6_1 : In _ _ _); obtain ⟨o6a, o6b⟩ := (hv8_1 : In _ _ _); obtain ⟨o7a, o7b⟩ := (hv9_1 : In _ _ _); obtain ⟨o8a, o8b⟩ := (hv13_1 : In _ _ _); obtain ⟨o9a, o9b⟩ := (hv14_1 : In _ _ _); obtain ⟨o10a, o10b⟩ := (hv15_1 : In _ _ _); obtain ⟨o11a, o11b⟩ := (hv17_1 : In _ _ _); obtain ⟨o12a, o12b⟩ := (hv20_1 : In _ _ _); obtain ⟨o13a, o13b⟩ := (hv23_1 : In _ _ _); obtain ⟨o14a, o14b⟩ := (hv36_1 : In _ _ _); obtain ⟨o15a, o15b⟩ := (hv47_1 : In _ _ _); obtain ⟨o16a, o16b⟩ := (hv48_1 : In _ _ _); obtain ⟨o17a, o17b⟩ := (hv53_1 : In _ _ _); obtain ⟨o18a, o18b⟩ := (hv55_1 : In _ _ _); omega)), TI.cast hT (by funext q; simp only [gset]; (repeat' split); all_goals first | rfl | omega | (subst_vars; rfl) | (exfalso; omega))⟩, hfr⟩) dX11_fails_13
  ·
    have ocm1 : ((-1) : Int32).toInt = (-1) := by decide
    have cc6 : v4_1.toInt = ((-1) : Int32).toInt := congrArg Int32.toInt c3
    have hb7 : In v4_1 (-1) (-1) := In.eq1 hv4_1 (⟨by decide, by decide⟩ : In (-1) (-1) (-1)) cc6 (by omega) (by omega)
    refine lv_aload_n hx hb dX11_fails_8 rfl (lv_at hl 0 rfl) ?_
    refine lv_iload_n hx hb dX11_fails_9 rfl (lv_at hl 1 rfl) ?_
    refine pl_put (ty := .int) (v := .int z1) (fs' := [.int v0_1, .ref (ad 256), .int v2_1, .int v3_1, .int z1, .int v5_1, .int v6_1, .ref (ad 257), .int v8_1, .int v9_1, .ref (ad 258), .ref (ad 259), .int v12_1, .int v13_1, .int v14_1, .int v15_1, .int v16_1, .int v17_1, .int v18_1, .int v19_1, .int v20_1, .long v21_1, .long v22_1, .int v23_1, .ref (ad 260), .int v25_1, .ref (ad 261), .ref (ad 262), .ref (ad 263), .ref (ad 264), .ref (ad 265), .ref (ad 266), .ref (ad 267), .ref (ad 268), .ref (ad 269), .ref (ad 270), .int v36_1, .int v37_1, .int v38_1, .int v39_1, .int v40_1, .ref (ad 271), .ref (ad 272), .ref (ad 273), .ref (ad 274), .long v45_1, .long v46_1, .int v47_1, .int v48_1, .ref (ad 275), .int v50_1, .int v51_1, .ref (ad 276), .int v53_1, .ref (ad 277), .int v55_1]) hx hb hts (fun w h => mT (inX11 w h)) tyX11 tyX11_ok nmX11 hown hG.1 hP hD hS (hst.1 255 (by decide)) hf2 rfl 4 (by decide) (hts _ (mT wg_1340)) (fun _ h => h) rfl (by decide +kernel) (rfl) (rfl) (Nat.le_of_ble_eq_true rfl) rfl dX11_fails_10 (fun H locs f8 hf9 ho10 hP hD hS => ?_)
    have hfr : (∀ b, b ≠ (ad 255) → f8 b = f b) := fun b z0_ => (ho10 b z0_).trans (hfr b z0_)
    have hT := TI.updMG (th' := (gset th 42 (z1.toInt))) hT hst (k := 0) (by decide) hf9 ho10 ⟨v0_1, v2_1, v3_1, z1, v5_1, v6_1, v8_1, v9_1, v12_1, v13_1, v14_1, v15_1, v16_1, v17_1, v18_1, v19_1, v20_1, v21_1, v22_1, v23_1, v25_1, v36_1, v37_1, v38_1, v39_1, v40_1, v45_1, v46_1, v47_1, v48_1, v50_1, v51_1, v53_1, v55_1, rfl, hv0_1, hv2_1, (by rw [hg2_1]; simp [gset]), hv3_1, (by rw [hg3_1]; simp [gset]), (In.mono hz1 (by decide) (by decide)), (by simp [gset]), hv5_1, (by rw [hg5_1]; simp [gset]), hv6_1, (by rw [hg6_1]; simp [gset]), hv8_1, (by rw [hg8_1]; simp [gset]), hv9_1, (by rw [hg9_1]; simp [gset]), hv12_1, hv13_1, (by rw [hg13_1]; simp [gset]), hv14_1, (by rw [hg14_1]; simp [gset]), hv15_1, (by rw [hg15_1]; simp [gset]), hv17_1, (by rw [hg17_1]; simp [gset]), hv20_1, (by rw [hg20_1]; simp [gset]), hv23_1, (by rw [hg23_1]; simp [gset]), hv25_1, hv36_1, (by rw [hg36_1]; simp [gset]), hv47_1, (by rw [hg47_1]; simp [gset]), hv48_1, (by rw [hg48_1]; simp [gset]), hv53_1, (by rw [hg53_1]; simp [gset]), hv55_1, (by rw [hg55_1]; simp [gset]), hrel0_1⟩ (fun q hq => ((gset_ne (fun e => hq (by subst e; decide))).trans rfl))
    have hT : TI g ad (gset th 42 z1.toInt) f8 := TI.cast hT (by funext q; simp only [gset]; (repeat' split); all_goals first | rfl | omega | (subst_vars; rfl) | (exfalso; omega))
    exact ret_v hx hb hr hlocks hP hD hS (Nat.le_of_ble_eq_true rfl) (Nat.le_of_ble_eq_true rfl) (⟨rfl, ⟨z1.toInt, (show 0 ≤ z1.toInt from (by obtain ⟨o0a, o0b⟩ := (hz1 : In _ _ _); omega)), TI.cast hT (by funext q; simp only [gset]; (repeat' split); all_goals first | rfl | omega | (subst_vars; rfl) | (exfalso; omega))⟩, hfr⟩) dX11_fails_13

abbrev rm_X11_isDigit : Room := { frames := 0, cells := 0, slots := 0, locals := 0 }
abbrev po_X11_isDigit (g : GG) (ad : Nat → Nat) (th : Nat → Int) (L : List Nat) (f : HP) (z0 : Int32) : Int32 → (List Nat × HP) → Prop := fun r u => u.1 = L ∧ u.2 = f ∧ In r 0 1 ∧ (¬ r = 0 → In z0 48 57)
set_option maxHeartbeats 4000000 in
set_option maxRecDepth 100000 in
theorem s_X11_isDigit (l : Launch) (g : GG) (ad : Nat → Nat) (th : Nat → Int) (L : List Nat) (f : HP) (sz : Nat) (z0 : Int32) (hst : ST ad L) (hT : TI g ad th f)  : MtI l g yX11_isDigit cX11_isDigit 1 (some .boolean) rm_X11_isDigit [.int z0] L f sz (po_X11_isDigit g ad th L f z0) := by
  refine MtI.of (by decide +kernel) (Nat.le_of_ble_eq_true rfl) ?_
  intro p e s m below meth c A hEn hP hD hS ls hl
  obtain ⟨hx, hb, hr, hml, hown, hlocks, hts, hG, hA, hE, hnm⟩ := hEn
  have hown : s.vm.findClass "RulerWordModel" = some m.cls := hown
  have hl : lv_has ls 1 [(0, .int z0)] := hl
  refine lv_iload_n hx hb dX11_isDigit_0 rfl (lv_at hl 0 rfl) ?_
  refine lv_bipush (v := 48) hx hb dX11_isDigit_1 (by decide) ?_
  have hJ16 : ∀ (H : Heap) (locs : List Loc) (ls : Array Slot), va_P g.1 vwCl (va_pl L f) H → va_D A (va_pl L f) → va_S A s.heap H locs → lv_has ls 1 [(0, .int z0)] → W p l e rm_X11_isDigit s m [.int z0].toArray below meth c H locs 0 0 (MQ below (va_Qi (po_X11_isDigit g ad th L f z0) (PstB g A) A) [.int z0].toArray s rm_X11_isDigit.cells rm_X11_isDigit.slots A) (F0 m 16 ls []) := by
    intro H locs ls hP hD hS hl
    refine lv_iconst (v := 0) hx hb dX11_isDigit_16 (by decide) ?_
    exact ret_i (ty := .boolean) hx hb hr hlocks (rfl) hP hD hS (Nat.le_of_ble_eq_true rfl) (Nat.le_of_ble_eq_true rfl) (⟨rfl, rfl, (⟨by decide, by decide⟩ : In 0 0 1), (fun q => absurd rfl q)⟩) dX11_isDigit_17
  refine lv_icmp_lt (tgt := 16) hx hb dX11_isDigit_3 (by decide) (fun c1 => ?_) (fun c1 => ?_)
  ·
    have cc2 : z0.toInt < (48 : Int32).toInt := i32_lt.mp c1
    have hb3 : In z0 (-2147483648) 47 := In.lt1 (In.full z0) (⟨by decide, by decide⟩ : In 48 48 48) cc2 (by omega) (by omega)
    exact hJ16 _ _ _ hP hD hS (lv_sub hl [0] rfl)
  ·
    have cc4 : (48 : Int32).toInt ≤ z0.toInt := i32_nlt c1
    have hb5 : In z0 48 2147483647 := In.ge1 (In.full z0) (⟨by decide, by decide⟩ : In 48 48 48) cc4 (by omega) (by omega)
    refine lv_iload_n hx hb dX11_isDigit_6 rfl (lv_at hl 0 rfl) ?_
    refine lv_bipush (v := 57) hx hb dX11_isDigit_7 (by decide) ?_
    refine lv_icmp_gt (tgt := 16) hx hb dX11_isDigit_9 (by decide) (fun c6 => ?_) (fun c6 => ?_)
    ·
      have cc7 : (57 : Int32).toInt < z0.toInt := i32_lt.mp c6
      have hb8 : In z0 58 2147483647 := In.gt1 hb5 (⟨by decide, by decide⟩ : In 57 57 57) cc7 (by omega) (by omega)
      exact hJ16 _ _ _ hP hD hS (lv_sub hl [0] rfl)
    ·
      have cc9 : z0.toInt ≤ (57 : Int32).toInt := i32_nlt c6
      have hb10 : In z0 48 57 := In.le1 hb5 (⟨by decide, by decide⟩ : In 57 57 57) cc9 (by omega) (by omega)
      refine lv_iconst (v := 1) hx hb dX11_isDigit_12 (by decide) ?_
      refine lv_goto (tgt := 17) hx hb dX11_isDigit_13 (by decide) ?_
      exact ret_i (ty := .boolean) hx hb hr hlocks (rfl) hP hD hS (Nat.le_of_ble_eq_true rfl) (Nat.le_of_ble_eq_true rfl) (⟨rfl, rfl, (⟨by decide, by decide⟩ : In 1 0 1), (fun _ => hb10)⟩) dX11_isDigit_17

abbrev rm_X11_takes : Room := { frames := 4, cells := 0, slots := 0, locals := 85 }
abbrev po_X11_takes (g : GG) (ad : Nat → Nat) (th : Nat → Int) (L : List Nat) (f : HP) (z1 : Nat) : Int32 → (List Nat × HP) → Prop := fun r u => u.1 = L ∧ (∃ za : Int, (th 37 ≤ za ∧ za ≤ 500) ∧ TI g ad (gset th 37 za) u.2) ∧ (∀ b, b ≠ (ad 255) → u.2 b = f b) ∧ In r 0 1
set_option maxHeartbeats 4000000 in
set_option maxRecDepth 100000 in
theorem s_X11_takes (l : Launch) (g : GG) (ad : Nat → Nat) (th : Nat → Int) (L : List Nat) (f : HP) (sz : Nat) (z1 : Nat) (hst : ST ad L) (hT : TI g ad th f) (hi_z1 : z1 < nS) : MtI l g yX11_takes cX11_takes 4 (some .boolean) rm_X11_takes [.ref (ad 255), .ref (g.2.2.1 z1)] L f sz (po_X11_takes g ad th L f z1) := by
  refine MtI.of (by decide +kernel) (Nat.le_of_ble_eq_true rfl) ?_
  intro p e s m below meth c A hEn hP hD hS ls hl
  obtain ⟨hx, hb, hr, hml, hown, hlocks, hts, hG, hA, hE, hnm⟩ := hEn
  have hown : s.vm.findClass "RulerWordModel" = some m.cls := hown
  have hl : lv_has ls 4 [(0, .ref (ad 255)), (1, .ref (g.2.2.1 z1))] := hl
  have hfr : (∀ b, b ≠ (ad 255) → f b = f b) := fun b z0_ => rfl
  refine lv_aload_n hx hb dX11_takes_0 rfl (lv_at hl 0 rfl) ?_
  obtain ⟨v0_1, v2_1, v3_1, v4_1, v5_1, v6_1, v8_1, v9_1, v12_1, v13_1, v14_1, v15_1, v16_1, v17_1, v18_1, v19_1, v20_1, v21_1, v22_1, v23_1, v25_1, v36_1, v37_1, v38_1, v39_1, v40_1, v45_1, v46_1, v47_1, v48_1, v50_1, v51_1, v53_1, v55_1, hf2, hv0_1, hv2_1, hg2_1, hv3_1, hg3_1, hv4_1, hg4_1, hv5_1, hg5_1, hv6_1, hg6_1, hv8_1, hg8_1, hv9_1, hg9_1, hv12_1, hv13_1, hg13_1, hv14_1, hg14_1, hv15_1, hg15_1, hv17_1, hg17_1, hv20_1, hg20_1, hv23_1, hg23_1, hv25_1, hv36_1, hg36_1, hv47_1, hg47_1, hv48_1, hg48_1, hv53_1, hg53_1, hv55_1, hg55_1, hrel0_1⟩ := hT.2.2 0 (by decide)
  refine call_i (run_V (rm := rm_X11_look) hx hb hml hown hts (s_X11_look l g ad th _ _ _  hst hT ) cV_X11_look wg_1529 ⟨Nat.le_of_ble_eq_true rfl, Nat.le_of_ble_eq_true rfl⟩ hG hE hA hP hD hS (hst.1 255 (by decide)) hf2 rfl rfl hl.1 (As := []) (rest := []) rfl (Nat.le_of_ble_eq_true rfl) dX11_takes_1 ⟨Nat.le_of_ble_eq_true rfl, Nat.le_of_ble_eq_true rfl⟩) hA hD hS (fun r3 L4 f5 H locs hp6 hP hD hS => ?_)
  obtain ⟨eL7L, eL7T, eL7F, eL7R⟩ := hp6
  have eL7L : L4 = L := eL7L
  rw [eL7L] at hP hD
  obtain ⟨zz8, hzz8, eL7T⟩ := eL7T
  have hT : TI g ad (gset th 37 zz8) f5 := eL7T
  have eL7F : ∀ b, b ≠ (ad 255) → f5 b = f b := eL7F
  have hfr : (∀ b, b ≠ (ad 255) → f5 b = f b) := fun b z0_ => (eL7F b z0_).trans (hfr b z0_)
  have eL7R : In r3 (-1) 255 := eL7R
  refine lv_istore_n (lv' := [(2, .int r3), (0, .ref (ad 255)), (1, .ref (g.2.2.1 z1))]) hx hb dX11_takes_4 rfl hl (by decide) rfl (fun ls hl => ?_)
  refine lv_iconst (v := 0) hx hb dX11_takes_5 (by decide) ?_
  refine lv_istore_n (lv' := [(3, .int 0), (2, .int r3), (0, .ref (ad 255)), (1, .ref (g.2.2.1 z1))]) hx hb dX11_takes_6 rfl hl (by decide) rfl (fun ls hl => ?_)
  obtain ⟨v0_9, v2_9, v3_9, v4_9, v5_9, v6_9, v8_9, v9_9, v12_9, v13_9, v14_9, v15_9, v16_9, v17_9, v18_9, v19_9, v20_9, v21_9, v22_9, v23_9, v25_9, v36_9, v37_9, v38_9, v39_9, v40_9, v45_9, v46_9, v47_9, v48_9, v50_9, v51_9, v53_9, v55_9, hf10, hv0_9, hv2_9, hg2_9, hv3_9, hg3_9, hv4_9, hg4_9, hv5_9, hg5_9, hv6_9, hg6_9, hv8_9, hg8_9, hv9_9, hg9_9, hv12_9, hv13_9, hg13_9, hv14_9, hg14_9, hv15_9, hg15_9, hv17_9, hg17_9, hv20_9, hg20_9, hv23_9, hg23_9, hv25_9, hv36_9, hg36_9, hv47_9, hg47_9, hv48_9, hg48_9, hv53_9, hg53_9, hv55_9, hg55_9, hrel0_9⟩ := hT.2.2 0 (by decide)
  have hg2_9 : v2_9.toInt = th 13 := hg2_9
  have hg3_9 : v3_9.toInt = zz8 := hg3_9
  have hg4_9 : v4_9.toInt = th 42 := hg4_9
  have hg5_9 : v5_9.toInt = th 40 := hg5_9
  have hg6_9 : v6_9.toInt = th 41 := hg6_9
  have hg8_9 : v8_9.toInt = th 43 := hg8_9
  have hg9_9 : v9_9.toInt = th 35 := hg9_9
  have hg13_9 : v13_9.toInt = th 36 := hg13_9
  have hg14_9 : v14_9.toInt = th 10 := hg14_9
  have hg15_9 : v15_9.toInt = th 11 := hg15_9
  have hg17_9 : v17_9.toInt = th 12 := hg17_9
  have hg20_9 : v20_9.toInt = th 14 := hg20_9
  have hg23_9 : v23_9.toInt = th 15 := hg23_9
  have hg36_9 : v36_9.toInt = th 18 := hg36_9
  have hg47_9 : v47_9.toInt = th 16 := hg47_9
  have hg48_9 : v48_9.toInt = th 17 := hg48_9
  have hg53_9 : v53_9.toInt = th 38 := hg53_9
  have hg55_9 : v55_9.toInt = th 39 := hg55_9
  have hJ7 : ∀ (k7 : Nat) (y7_l3 : Int32) (H : Heap) (locs : List Loc) (ls : Array Slot), In y7_l3 0 7 → va_P g.1 vwCl (va_pl L f5) H → va_D A (va_pl L f5) → va_S A s.heap H locs → (y7_l3.toInt = 0 ∨ v3_9.toInt + y7_l3.toInt ≤ v2_9.toInt) ∧ y7_l3.toInt ≤ ((lenS.getD z1 0 : Nat) : Int) ∧ 0 ≤ y7_l3.toInt → lv_has ls 4 [(0, .ref (ad 255)), (1, .ref (g.2.2.1 z1)), (2, .int r3), (3, .int y7_l3)] → 7 - y7_l3.toInt < ((k7 : Nat) : Int) → W p l e rm_X11_takes s m [.ref (ad 255), .ref (g.2.2.1 z1)].toArray below meth c H locs 0 0 (MQ below (va_Qi (po_X11_takes g ad th L f z1) (PstB g A) A) [.ref (ad 255), .ref (g.2.2.1 z1)].toArray s rm_X11_takes.cells rm_X11_takes.slots A) (F0 m 7 ls []) := by
    intro k7
    induction k7 with
    | zero =>
      intro y7_l3 H locs ls hy7_l3 hP hD hS hxi7_0 hl hmz7
      exact ms0 hy7_l3 hmz7
    | succ k7 ih7 =>
      intro y7_l3 H locs ls hy7_l3 hP hD hS hxi7_0 hl hmz7
      refine lv_iload_n hx hb dX11_takes_7 rfl (lv_at hl 3 rfl) ?_
      refine lv_aload_n hx hb dX11_takes_8 rfl (lv_at hl 1 rfl) ?_
      refine call_i (run_VJ (rm := rm_J0_length) hx hb hml hown hts (i := z1) (hi_z1) (s_J0_length l g _ _ _ z1  hi_z1) cV_J0_length_8abf5 wg_1542 rfl ⟨Nat.le_of_ble_eq_true rfl, Nat.le_of_ble_eq_true rfl⟩ hG hE hA hP hD hS rfl hl.1 (As := []) (rest := [.int y7_l3]) rfl (Nat.le_of_ble_eq_true rfl) dX11_takes_9 ⟨Nat.le_of_ble_eq_true rfl, Nat.le_of_ble_eq_true rfl⟩) hA hD hS (fun r11 L12 f13 H locs hp14 hP hD hS => ?_)
      have eL15 : L12 = L := hp14.1
      have eL15f : f13 = f5 := hp14.2.1
      rw [eL15, eL15f] at hP hD
      have hb16 : In r11 0 7 := hp14.2.2.1
      have hle17 : r11.toInt = ((lenS.getD z1 0 : Nat) : Int) := hp14.2.2.2
      refine lv_icmp_ge (tgt := 55) hx hb dX11_takes_12 (by decide) (fun c18 => ?_) (fun c18 => ?_)
      ·
        have cc19 : r11.toInt ≤ y7_l3.toInt := i32_le.mp c18
        refine lv_aload_n hx hb dX11_takes_55 rfl (lv_at hl 0 rfl) ?_
        refine pl_get (v := .int v3_9) hx hb hts (fun w h => mT (inX11 w h)) hown hG.1 hP (hst.1 255 (by decide)) hf10 rfl 3 (by decide) (hts _ (mT wg_1339)) (fun _ h => h) rfl dX11_takes_56 ?_
        refine lv_aload_n hx hb dX11_takes_59 rfl (lv_at hl 1 rfl) ?_
        refine call_i (run_VJ (rm := rm_J0_length) hx hb hml hown hts (i := z1) (hi_z1) (s_J0_length l g _ _ _ z1  hi_z1) cV_J0_length_8abf5 wg_1542 rfl ⟨Nat.le_of_ble_eq_true rfl, Nat.le_of_ble_eq_true rfl⟩ hG hE hA hP hD hS rfl hl.1 (As := []) (rest := [.int v3_9]) rfl (Nat.le_of_ble_eq_true rfl) dX11_takes_60 ⟨Nat.le_of_ble_eq_true rfl, Nat.le_of_ble_eq_true rfl⟩) hA hD hS (fun r20 L21 f22 H locs hp23 hP hD hS => ?_)
        have eL24 : L21 = L := hp23.1
        have eL24f : f22 = f5 := hp23.2.1
        rw [eL24, eL24f] at hP hD
        have hb25 : In r20 0 7 := hp23.2.2.1
        have hle26 : r20.toInt = ((lenS.getD z1 0 : Nat) : Int) := hp23.2.2.2
        refine lv_iadd hx hb dX11_takes_63 ?_
        refine lv_topi (fun x27 ex27 => ?_)
        have hb28 : In x27 0 507 := ex27 ▸ In.add hv3_9 hb25 (by decide) (by decide) (by decide) (by decide)
        have et29 : x27.toInt = v3_9.toInt + r20.toInt := In.add2e ex27 hv3_9 hb25 (by decide) (by decide)
        refine lv_istore_n (lv' := [(3, .int x27), (0, .ref (ad 255)), (1, .ref (g.2.2.1 z1)), (2, .int r3)]) hx hb dX11_takes_64 rfl hl (by decide) rfl (fun ls hl => ?_)
        refine lv_iload_n hx hb dX11_takes_65 rfl (lv_at hl 0 rfl) ?_
        refine lv_aload_n hx hb dX11_takes_66 rfl (lv_at hl 1 rfl) ?_
        refine pl_get (v := .int v2_9) hx hb hts (fun w h => mT (inX11 w h)) hown hG.1 hP (hst.1 255 (by decide)) hf10 rfl 2 (by decide) (hts _ (mT wg_1338)) (fun _ h => h) rfl dX11_takes_67 ?_
        have hJ97 : ∀ (H : Heap) (locs : List Loc) (ls : Array Slot), va_P g.1 vwCl (va_pl L f5) H → va_D A (va_pl L f5) → va_S A s.heap H locs → lv_has ls 4 [(0, .ref (ad 255)), (1, .ref (g.2.2.1 z1)), (2, .int r3), (3, .int x27)] → W p l e rm_X11_takes s m [.ref (ad 255), .ref (g.2.2.1 z1)].toArray below meth c H locs 0 0 (MQ below (va_Qi (po_X11_takes g ad th L f z1) (PstB g A) A) [.ref (ad 255), .ref (g.2.2.1 z1)].toArray s rm_X11_takes.cells rm_X11_takes.slots A) (F0 m 97 ls []) := by
          intro H locs ls hP hD hS hl
          refine lv_aload_n hx hb dX11_takes_97 rfl (lv_at hl 0 rfl) ?_
          refine lv_iload_n hx hb dX11_takes_98 rfl (lv_at hl 3 rfl) ?_
          refine pl_put (ty := .int) (v := .int x27) (fs' := [.int v0_9, .ref (ad 256), .int v2_9, .int x27, .int v4_9, .int v5_9, .int v6_9, .ref (ad 257), .int v8_9, .int v9_9, .ref (ad 258), .ref (ad 259), .int v12_9, .int v13_9, .int v14_9, .int v15_9, .int v16_9, .int v17_9, .int v18_9, .int v19_9, .int v20_9, .long v21_9, .long v22_9, .int v23_9, .ref (ad 260), .int v25_9, .ref (ad 261), .ref (ad 262), .ref (ad 263), .ref (ad 264), .ref (ad 265), .ref (ad 266), .ref (ad 267), .ref (ad 268), .ref (ad 269), .ref (ad 270), .int v36_9, .int v37_9, .int v38_9, .int v39_9, .int v40_9, .ref (ad 271), .ref (ad 272), .ref (ad 273), .ref (ad 274), .long v45_9, .long v46_9, .int v47_9, .int v48_9, .ref (ad 275), .int v50_9, .int v51_9, .ref (ad 276), .int v53_9, .ref (ad 277), .int v55_9]) hx hb hts (fun w h => mT (inX11 w h)) tyX11 tyX11_ok nmX11 hown hG.1 hP hD hS (hst.1 255 (by decide)) hf10 rfl 3 (by decide) (hts _ (mT wg_1339)) (fun _ h => h) rfl (by decide +kernel) (rfl) (rfl) (Nat.le_of_ble_eq_true rfl) rfl dX11_takes_99 (fun H locs f30 hf31 ho32 hP hD hS => ?_)
          have hfr : (∀ b, b ≠ (ad 255) → f30 b = f b) := fun b z0_ => (ho32 b z0_).trans (hfr b z0_)
          refine lv_iconst (v := 1) hx hb dX11_takes_102 (by decide) ?_
          have hT := TI.updMG (th' := (gset (gset th 37 zz8) 37 (x27.toInt))) hT hst (k := 0) (by decide) hf31 ho32 ⟨v0_9, v2_9, x27, v4_9, v5_9, v6_9, v8_9, v9_9, v12_9, v13_9, v14_9, v15_9, v16_9, v17_9, v18_9, v19_9, v20_9, v21_9, v22_9, v23_9, v25_9, v36_9, v37_9, v38_9, v39_9, v40_9, v45_9, v46_9, v47_9, v48_9, v50_9, v51_9, v53_9, v55_9, rfl, hv0_9, hv2_9, (by rw [hg2_9]; simp [gset]), (In.mk (by obtain ⟨o0a, o0b⟩ := (hb28 : In _ _ _); obtain ⟨o1a, o1b⟩ := (hv2_9 : In _ _ _); obtain ⟨o2a, o2b⟩ := (hv4_9 : In _ _ _); obtain ⟨o3a, o3b⟩ := (hv5_9 : In _ _ _); obtain ⟨o4a, o4b⟩ := (hv6_9 : In _ _ _); obtain ⟨o5a, o5b⟩ := (hv8_9 : In _ _ _); obtain ⟨o6a, o6b⟩ := (hv9_9 : In _ _ _); obtain ⟨o7a, o7b⟩ := (hv13_9 : In _ _ _); obtain ⟨o8a, o8b⟩ := (hv14_9 : In _ _ _); obtain ⟨o9a, o9b⟩ := (hv15_9 : In _ _ _); obtain ⟨o10a, o10b⟩ := (hv17_9 : In _ _ _); obtain ⟨o11a, o11b⟩ := (hv20_9 : In _ _ _); obtain ⟨o12a, o12b⟩ := (hv23_9 : In _ _ _); obtain ⟨o13a, o13b⟩ := (hv36_9 : In _ _ _); obtain ⟨o14a, o14b⟩ := (hv47_9 : In _ _ _); obtain ⟨o15a, o15b⟩ := (hv48_9 : In _ _ _); obtain ⟨o16a, o16b⟩ := (hv53_9 : In _ _ _); obtain ⟨o17a, o17b⟩ := (hv55_9 : In _ _ _); obtain ⟨o18a, o18b⟩ := (hv3_9 : In _ _ _); obtain ⟨o19a, o19b⟩ := (hb25 : In _ _ _); obtain ⟨o20a, o20b⟩ := (hb16 : In _ _ _); obtain ⟨o21a, o21b⟩ := (hy7_l3 : In _ _ _); omega) (by obtain ⟨o0a, o0b⟩ := (hb28 : In _ _ _); obtain ⟨o1a, o1b⟩ := (hv2_9 : In _ _ _); obtain ⟨o2a, o2b⟩ := (hv4_9 : In _ _ _); obtain ⟨o3a, o3b⟩ := (hv5_9 : In _ _ _); obtain ⟨o4a, o4b⟩ := (hv6_9 : In _ _ _); obtain ⟨o5a, o5b⟩ := (hv8_9 : In _ _ _); obtain ⟨o6a, o6b⟩ := (hv9_9 : In _ _ _); obtain ⟨o7a, o7b⟩ := (hv13_9 : In _ _ _); obtain ⟨o8a, o8b⟩ := (hv14_9 : In _ _ _); obtain ⟨o9a, o9b⟩ := (hv15_9 : In _ _ _); obtain ⟨o10a, o10b⟩ := (hv17_9 : In _ _ _); obtain ⟨o11a, o11b⟩ := (hv20_9 : In _ _ _); obtain ⟨o12a, o12b⟩ := (hv23_9 : In _ _ _); obtain ⟨o13a, o13b⟩ := (hv36_9 : In _ _ _); obtain ⟨o14a, o14b⟩ := (hv47_9 : In _ _ _); obtain ⟨o15a, o15b⟩ := (hv48_9 : In _ _ _); obtain ⟨o16a, o16b⟩ := (hv53_9 : In _ _ _); obtain ⟨o17a, o17b⟩ := (hv55_9 : In _ _ _); obtain ⟨o18a, o18b⟩ := (hv3_9 : In _ _ _); obtain ⟨o19a, o19b⟩ := (hb25 : In _ _ _); obtain ⟨o20a, o20b⟩ := (hb16 : In _ _ _); obtain ⟨o21a, o21b⟩ := (hy7_l3 : In _ _ _); omega)), (by simp [gset]), hv4_9, (by rw [hg4_9]; simp [gset]), hv5_9, (by rw [hg5_9]; simp [gset]), hv6_9, (by rw [hg6_9]; simp [gset]), hv8_9, (by rw [hg8_9]; simp [gset]), hv9_9, (by rw [hg9_9]; simp [gset]), hv12_9, hv13_9, (by rw [hg13_9]; simp [gset]), hv14_9, (by rw [hg14_9]; simp [gset]), hv15_9, (by rw [hg15_9]; simp [gset]), hv17_9, (by rw [hg17_9]; simp [gset]), hv20_9, (by rw [hg20_9]; simp [gset]), hv23_9, (by rw [hg23_9]; simp [gset]), hv25_9, hv36_9, (by rw [hg36_9]; simp [gset]), hv47_9, (by rw [hg47_9]; simp [gset]), hv48_9, (by rw [hg48_9]; simp [gset]), hv53_9, (by rw [hg53_9]; simp [gset]), hv55_9, (by rw [hg55_9]; simp [gset]), hrel0_9⟩ (fun q hq => ((gset_ne (fun e => hq (by subst e; decide))).trans rfl))
          have hT : TI g ad (gset th 37 x27.toInt) f30 := TI.cast hT (by funext q; simp only [gset]; (repeat' split); all_goals first | rfl | omega | (subst_vars; rfl) | (exfalso; omega))
          exact ret_i (ty := .boolean) hx hb hr hlocks (rfl) hP hD hS (Nat.le_of_ble_eq_true rfl) (Nat.le_of_ble_eq_true rfl) (⟨rfl, ⟨x27.toInt, (show th 37 ≤ x27.toInt ∧ x27.toInt ≤ 500 from (by have oc1 : (1 : Int32).toInt = 1 := (by decide); obtain ⟨o0a, o0b⟩ := (eL7R : In _ _ _); obtain ⟨o1a, o1b⟩ := (hb28 : In _ _ _); obtain ⟨o2a, o2b⟩ := (hv3_9 : In _ _ _); obtain ⟨o3a, o3b⟩ := (hb25 : In _ _ _); obtain ⟨o4a, o4b⟩ := (hb16 : In _ _ _); obtain ⟨o5a, o5b⟩ := (hy7_l3 : In _ _ _); omega)), TI.cast hT (by funext q; simp only [gset]; (repeat' split); all_goals first | rfl | omega | (subst_vars; rfl) | (exfalso; omega))⟩, hfr, (⟨by decide, by decide⟩ : In 1 0 1)⟩) dX11_takes_103
        refine lv_icmp_ge (tgt := 97) hx hb dX11_takes_70 (by decide) (fun c33 => ?_) (fun c33 => ?_)
        ·
          have cc34 : v2_9.toInt ≤ x27.toInt := i32_le.mp c33
          exact hJ97 _ _ _ hP hD hS (lv_sub hl [1, 2, 3, 0] rfl)
        ·
          have cc35 : x27.toInt < v2_9.toInt := i32_nle c33
          have hb36 : In x27 0 499 := In.lt1 hb28 hv2_9 cc35 (by omega) (by omega)
          have hb37 : In v2_9 1 500 := In.lt2 hb28 hv2_9 cc35 (by omega) (by omega)
          refine lv_aload_n hx hb dX11_takes_73 rfl (lv_at hl 1 rfl) ?_
          refine pl_get (v := .ref (ad 256)) hx hb hts (fun w h => mT (inX11 w h)) hown hG.1 hP (hst.1 255 (by decide)) hf10 rfl 1 (by decide) (hts _ (mT wg_1337)) (fun _ h => h) rfl dX11_takes_74 ?_
          refine lv_iload_n hx hb dX11_takes_77 rfl (lv_at hl 0 rfl) ?_
          obtain ⟨rw38, hf39, hc40⟩ := hT.2.2 1 (by decide)
          have hin41 : vp_in x27 500 := In.inb hb36 (by decide) (by decide)
          refine pl_bald hx hb hG.1 hP (hst.1 256 (by decide)) 2 hf39 rfl hin41 dX11_takes_78 ?_
          refine lv_topi (fun x42 ex42 => ?_)
          have hb43 : In x42 (-128) 127 := by rw [ex42]; exact hc40 _ (vp_nat hin41)
          refine lv_bipush (v := 97) hx hb dX11_takes_79 (by decide) ?_
          refine lv_icmp_lt (tgt := 97) hx hb dX11_takes_81 (by decide) (fun c44 => ?_) (fun c44 => ?_)
          ·
            have oc97 : (97 : Int32).toInt = 97 := by decide
            have cc45 : x42.toInt < (97 : Int32).toInt := i32_lt.mp c44
            have hb46 : In x42 (-128) 96 := In.lt1 hb43 (⟨by decide, by decide⟩ : In 97 97 97) cc45 (by omega) (by omega)
            exact hJ97 _ _ _ hP hD hS (lv_sub hl [1, 2, 3, 0] rfl)
          ·
            have oc97 : (97 : Int32).toInt = 97 := by decide
            have cc47 : (97 : Int32).toInt ≤ x42.toInt := i32_nlt c44
            have hb48 : In x42 97 127 := In.ge1 hb43 (⟨by decide, by decide⟩ : In 97 97 97) cc47 (by omega) (by omega)
            refine lv_aload_n hx hb dX11_takes_84 rfl (lv_at hl 1 rfl) ?_
            refine pl_get (v := .ref (ad 256)) hx hb hts (fun w h => mT (inX11 w h)) hown hG.1 hP (hst.1 255 (by decide)) hf10 rfl 1 (by decide) (hts _ (mT wg_1337)) (fun _ h => h) rfl dX11_takes_85 ?_
            refine lv_iload_n hx hb dX11_takes_88 rfl (lv_at hl 0 rfl) ?_
            have hin49 : vp_in x27 500 := In.inb hb36 (by decide) (by decide)
            refine pl_bald hx hb hG.1 hP (hst.1 256 (by decide)) 2 hf39 rfl hin49 dX11_takes_89 ?_
            refine lv_topi (fun x50 ex50 => ?_)
            obtain rfl : x42 = x50 := ex42.trans ex50.symm
            refine lv_bipush (v := 122) hx hb dX11_takes_90 (by decide) ?_
            refine lv_icmp_gt (tgt := 97) hx hb dX11_takes_92 (by decide) (fun c51 => ?_) (fun c51 => ?_)
            ·
              have oc122 : (122 : Int32).toInt = 122 := by decide
              have cc52 : (122 : Int32).toInt < x42.toInt := i32_lt.mp c51
              have hb53 : In x42 123 127 := In.gt1 hb48 (⟨by decide, by decide⟩ : In 122 122 122) cc52 (by omega) (by omega)
              exact hJ97 _ _ _ hP hD hS (lv_sub hl [1, 2, 3, 0] rfl)
            ·
              have oc122 : (122 : Int32).toInt = 122 := by decide
              have cc54 : x42.toInt ≤ (122 : Int32).toInt := i32_nlt c51
              have hb55 : In x42 97 122 := In.le1 hb48 (⟨by decide, by decide⟩ : In 122 122 122) cc54 (by omega) (by omega)
              refine lv_iconst (v := 0) hx hb dX11_takes_95 (by decide) ?_
              exact ret_i (ty := .boolean) hx hb hr hlocks (rfl) hP hD hS (Nat.le_of_ble_eq_true rfl) (Nat.le_of_ble_eq_true rfl) (⟨rfl, ⟨zz8, (show th 37 ≤ zz8 ∧ zz8 ≤ 500 from (by have oc0 : (0 : Int32).toInt = 0 := (by decide); obtain ⟨o0a, o0b⟩ := (eL7R : In _ _ _); obtain ⟨o1a, o1b⟩ := (hb36 : In _ _ _); obtain ⟨o2a, o2b⟩ := (hb37 : In _ _ _); obtain ⟨o3a, o3b⟩ := (hv3_9 : In _ _ _); obtain ⟨o4a, o4b⟩ := (hv4_9 : In _ _ _); obtain ⟨o5a, o5b⟩ := (hv5_9 : In _ _ _); obtain ⟨o6a, o6b⟩ := (hv6_9 : In _ _ _); obtain ⟨o7a, o7b⟩ := (hv8_9 : In _ _ _); obtain ⟨o8a, o8b⟩ := (hv9_9 : In _ _ _); obtain ⟨o9a, o9b⟩ := (hv13_9 : In _ _ _); obtain ⟨o10a, o10b⟩ := (hv14_9 : In _ _ _); obtain ⟨o11a, o11b⟩ := (hv15_9 : In _ _ _); obtain ⟨o12a, o12b⟩ := (hv17_9 : In _ _ _); obtain ⟨o13a, o13b⟩ := (hv20_9 : In _ _ _); obtain ⟨o14a, o14b⟩ := (hv23_9 : In _ _ _); obtain ⟨o15a, o15b⟩ := (hv36_9 : In _ _ _); obtain ⟨o16a, o16b⟩ := (hv47_9 : In _ _ _); obtain ⟨o17a, o17b⟩ := (hv48_9 : In _ _ _); obtain ⟨o18a, o18b⟩ := (hv53_9 : In _ _ _); obtain ⟨o19a, o19b⟩ := (hv55_9 : In _ _ _); obtain ⟨o20a, o20b⟩ := (hb25 : In _ _ _); obtain ⟨o21a, o21b⟩ := (hb16 : In _ _ _); obtain ⟨o22a, o22b⟩ := (hy7_l3 : In _ _ _); omega)), TI.cast hT (by funext q; simp only [gset]; (repeat' split); all_goals first | rfl | omega | (subst_vars; rfl) | (exfalso; omega))⟩, hfr, (⟨by decide, by decide⟩ : In 0 0 1)⟩) dX11_takes_96
      ·
        have cc56 : y7_l3.toInt < r11.toInt := i32_nle c18
        have hb57 : In y7_l3 0 6 := In.lt1 hy7_l3 hb16 cc56 (by omega) (by omega)
        have hb58 : In r11 1 7 := In.lt2 hy7_l3 hb16 cc56 (by omega) (by omega)
        refine lv_aload_n hx hb dX11_takes_15 rfl (lv_at hl 0 rfl) ?_
        refine pl_get (v := .int v3_9) hx hb hts (fun w h => mT (inX11 w h)) hown hG.1 hP (hst.1 255 (by decide)) hf10 rfl 3 (by decide) (hts _ (mT wg_1339)) (fun _ h => h) rfl dX11_takes_16 ?_
        refine lv_iload_n hx hb dX11_takes_19 rfl (lv_at hl 3 rfl) ?_
        refine lv_iadd hx hb dX11_takes_20 ?_
        refine lv_topi (fun x59 ex59 => ?_)
        have hb60 : In x59 0 506 := ex59 ▸ In.add hv3_9 hb57 (by decide) (by decide) (by decide) (by decide)
        have et61 : x59.toInt = v3_9.toInt + y7_l3.toInt := In.add2e ex59 hv3_9 hb57 (by decide) (by decide)
        refine lv_aload_n hx hb dX11_takes_21 rfl (lv_at hl 0 rfl) ?_
        refine pl_get (v := .int v2_9) hx hb hts (fun w h => mT (inX11 w h)) hown hG.1 hP (hst.1 255 (by decide)) hf10 rfl 2 (by decide) (hts _ (mT wg_1338)) (fun _ h => h) rfl dX11_takes_22 ?_
        refine lv_icmp_ge (tgt := 47) hx hb dX11_takes_25 (by decide) (fun c62 => ?_) (fun c62 => ?_)
        ·
          have cc63 : v2_9.toInt ≤ x59.toInt := i32_le.mp c62
          refine lv_iconst (v := 0) hx hb dX11_takes_47 (by decide) ?_
          exact ret_i (ty := .boolean) hx hb hr hlocks (rfl) hP hD hS (Nat.le_of_ble_eq_true rfl) (Nat.le_of_ble_eq_true rfl) (⟨rfl, ⟨zz8, (show th 37 ≤ zz8 ∧ zz8 ≤ 500 from (by have oc0 : (0 : Int32).toInt = 0 := (by decide); obtain ⟨o0a, o0b⟩ := (eL7R : In _ _ _); obtain ⟨o1a, o1b⟩ := (hb57 : In _ _ _); obtain ⟨o2a, o2b⟩ := (hv2_9 : In _ _ _); obtain ⟨o3a, o3b⟩ := (hv3_9 : In _ _ _); obtain ⟨o4a, o4b⟩ := (hv4_9 : In _ _ _); obtain ⟨o5a, o5b⟩ := (hv5_9 : In _ _ _); obtain ⟨o6a, o6b⟩ := (hv6_9 : In _ _ _); obtain ⟨o7a, o7b⟩ := (hv8_9 : In _ _ _); obtain ⟨o8a, o8b⟩ := (hv9_9 : In _ _ _); obtain ⟨o9a, o9b⟩ := (hv13_9 : In _ _ _); obtain ⟨o10a, o10b⟩ := (hv14_9 : In _ _ _); obtain ⟨o11a, o11b⟩ := (hv15_9 : In _ _ _); obtain ⟨o12a, o12b⟩ := (hv17_9 : In _ _ _); obtain ⟨o13a, o13b⟩ := (hv20_9 : In _ _ _); obtain ⟨o14a, o14b⟩ := (hv23_9 : In _ _ _); obtain ⟨o15a, o15b⟩ := (hv36_9 : In _ _ _); obtain ⟨o16a, o16b⟩ := (hv47_9 : In _ _ _); obtain ⟨o17a, o17b⟩ := (hv48_9 : In _ _ _); obtain ⟨o18a, o18b⟩ := (hv53_9 : In _ _ _); obtain ⟨o19a, o19b⟩ := (hv55_9 : In _ _ _); obtain ⟨o20a, o20b⟩ := (hb58 : In _ _ _); obtain ⟨o21a, o21b⟩ := (hb60 : In _ _ _); omega)), TI.cast hT (by funext q; simp only [gset]; (repeat' split); all_goals first | rfl | omega | (subst_vars; rfl) | (exfalso; omega))⟩, hfr, (⟨by decide, by decide⟩ : In 0 0 1)⟩) dX11_takes_48
        ·
          have cc64 : x59.toInt < v2_9.toInt := i32_nle c62
          have hb65 : In x59 0 499 := In.lt1 hb60 hv2_9 cc64 (by omega) (by omega)
          have hb66 : In v2_9 1 500 := In.lt2 hb60 hv2_9 cc64 (by omega) (by omega)
          refine lv_aload_n hx hb dX11_takes_28 rfl (lv_at hl 0 rfl) ?_
          refine pl_get (v := .ref (ad 256)) hx hb hts (fun w h => mT (inX11 w h)) hown hG.1 hP (hst.1 255 (by decide)) hf10 rfl 1 (by decide) (hts _ (mT wg_1337)) (fun _ h => h) rfl dX11_takes_29 ?_
          refine lv_aload_n hx hb dX11_takes_32 rfl (lv_at hl 0 rfl) ?_
          refine pl_get (v := .int v3_9) hx hb hts (fun w h => mT (inX11 w h)) hown hG.1 hP (hst.1 255 (by decide)) hf10 rfl 3 (by decide) (hts _ (mT wg_1339)) (fun _ h => h) rfl dX11_takes_33 ?_
          refine lv_iload_n hx hb dX11_takes_36 rfl (lv_at hl 3 rfl) ?_
          refine lv_iadd hx hb dX11_takes_37 ?_
          refine lv_topi (fun x67 ex67 => ?_)
          obtain rfl : x59 = x67 := ex59.trans ex67.symm
          obtain ⟨rw68, hf69, hc70⟩ := hT.2.2 1 (by decide)
          have hin71 : vp_in x59 500 := In.inb hb65 (by decide) (by decide)
          refine pl_bald hx hb hG.1 hP (hst.1 256 (by decide)) 2 hf69 rfl hin71 dX11_takes_38 ?_
          refine lv_topi (fun x72 ex72 => ?_)
          have hb73 : In x72 (-128) 127 := by rw [ex72]; exact hc70 _ (vp_nat hin71)
          refine lv_aload_n hx hb dX11_takes_39 rfl (lv_at hl 1 rfl) ?_
          refine lv_iload_n hx hb dX11_takes_40 rfl (lv_at hl 3 rfl) ?_
          refine call_i (run_VJ (rm := rm_J0_charAt) hx hb hml hown hts (i := z1) (hi_z1) (s_J0_charAt l g _ _ _ z1 y7_l3 hi_z1 (Int.le_trans (by decide) hb57.1) (by have q1 := cc56; have q2 := hle17; omega)) cV_J0_charAt_5068e wg_1543 rfl ⟨Nat.le_of_ble_eq_true rfl, Nat.le_of_ble_eq_true rfl⟩ hG hE hA hP hD hS rfl hl.1 (As := [.int y7_l3]) (rest := [.int x72]) rfl (Nat.le_of_ble_eq_true rfl) dX11_takes_41 ⟨Nat.le_of_ble_eq_true rfl, Nat.le_of_ble_eq_true rfl⟩) hA hD hS (fun r74 L75 f76 H locs hp77 hP hD hS => ?_)
          have eL78 : L75 = L := hp77.1
          have eL78f : f76 = f5 := hp77.2.1
          rw [eL78, eL78f] at hP hD
          have hb79 : In r74 0 65535 := hp77.2.2
          refine lv_icmp_eq (tgt := 49) hx hb dX11_takes_44 (by decide) (fun c80 => ?_) (fun c80 => ?_)
          ·
            have cc81 : x72.toInt = r74.toInt := congrArg Int32.toInt c80
            have hb82 : In x72 0 127 := In.eq1 hb73 hb79 cc81 (by omega) (by omega)
            have hb83 : In r74 0 127 := In.eq2 hb73 hb79 cc81 (by omega) (by omega)
            obtain ⟨x84, ex84⟩ : ∃ y : Int32, y = y7_l3 + 1 := ⟨_, rfl⟩
            have hb85 : In x84 1 7 := ex84 ▸ In.add hb57 (⟨by decide, by decide⟩ : In 1 1 1) (by decide) (by decide) (by decide) (by decide)
            have et86 : x84.toInt = y7_l3.toInt + 1 := In.adde ex84 hb57 (k := 1) (by decide) (by decide) (by decide)
            refine lv_iinc (v := x84) (lv' := [(3, .int x84), (0, .ref (ad 255)), (1, .ref (g.2.2.1 z1)), (2, .int r3)]) hx hb dX11_takes_49 hl (k := 3) rfl (by rw [ex84]; rfl) (by decide) rfl (fun ls hl => ?_)
            refine lv_goto (tgt := 7) hx hb dX11_takes_52 (by decide) ?_
            exact ih7 x84 _ _ _ (In.mono hb85 (by decide) (by decide)) hP hD hS (by have ql := Int.natCast_nonneg (lenS.getD z1 0); obtain ⟨o0a, o0b⟩ := (hb85 : In _ _ _); obtain ⟨o1a, o1b⟩ := (hb66 : In _ _ _); obtain ⟨o2a, o2b⟩ := (hv3_9 : In _ _ _); obtain ⟨o3a, o3b⟩ := (hv4_9 : In _ _ _); obtain ⟨o4a, o4b⟩ := (hv5_9 : In _ _ _); obtain ⟨o5a, o5b⟩ := (hv6_9 : In _ _ _); obtain ⟨o6a, o6b⟩ := (hv8_9 : In _ _ _); obtain ⟨o7a, o7b⟩ := (hv9_9 : In _ _ _); obtain ⟨o8a, o8b⟩ := (hv13_9 : In _ _ _); obtain ⟨o9a, o9b⟩ := (hv14_9 : In _ _ _); obtain ⟨o10a, o10b⟩ := (hv15_9 : In _ _ _); obtain ⟨o11a, o11b⟩ := (hv17_9 : In _ _ _); obtain ⟨o12a, o12b⟩ := (hv20_9 : In _ _ _); obtain ⟨o13a, o13b⟩ := (hv23_9 : In _ _ _); obtain ⟨o14a, o14b⟩ := (hv36_9 : In _ _ _); obtain ⟨o15a, o15b⟩ := (hv47_9 : In _ _ _); obtain ⟨o16a, o16b⟩ := (hv48_9 : In _ _ _); obtain ⟨o17a, o17b⟩ := (hv53_9 : In _ _ _); obtain ⟨o18a, o18b⟩ := (hv55_9 : In _ _ _); obtain ⟨o19a, o19b⟩ := (hb57 : In _ _ _); obtain ⟨o20a, o20b⟩ := (hb65 : In _ _ _); obtain ⟨o21a, o21b⟩ := (hb58 : In _ _ _); omega) (lv_sub hl [1, 2, 3, 0] rfl) (msu et86 (by decide) hmz7)
          ·
            have cc87 : x72.toInt ≠ r74.toInt := i32_ne c80
            refine lv_iconst (v := 0) hx hb dX11_takes_47 (by decide) ?_
            exact ret_i (ty := .boolean) hx hb hr hlocks (rfl) hP hD hS (Nat.le_of_ble_eq_true rfl) (Nat.le_of_ble_eq_true rfl) (⟨rfl, ⟨zz8, (show th 37 ≤ zz8 ∧ zz8 ≤ 500 from (by have oc0 : (0 : Int32).toInt = 0 := (by decide); obtain ⟨o0a, o0b⟩ := (eL7R : In _ _ _); obtain ⟨o1a, o1b⟩ := (hb57 : In _ _ _); obtain ⟨o2a, o2b⟩ := (hb66 : In _ _ _); obtain ⟨o3a, o3b⟩ := (hv3_9 : In _ _ _); obtain ⟨o4a, o4b⟩ := (hv4_9 : In _ _ _); obtain ⟨o5a, o5b⟩ := (hv5_9 : In _ _ _); obtain ⟨o6a, o6b⟩ := (hv6_9 : In _ _ _); obtain ⟨o7a, o7b⟩ := (hv8_9 : In _ _ _); obtain ⟨o8a, o8b⟩ := (hv9_9 : In _ _ _); obtain ⟨o9a, o9b⟩ := (hv13_9 : In _ _ _); obtain ⟨o10a, o10b⟩ := (hv14_9 : In _ _ _); obtain ⟨o11a, o11b⟩ := (hv15_9 : In _ _ _); obtain ⟨o12a, o12b⟩ := (hv17_9 : In _ _ _); obtain ⟨o13a, o13b⟩ := (hv20_9 : In _ _ _); obtain ⟨o14a, o14b⟩ := (hv23_9 : In _ _ _); obtain ⟨o15a, o15b⟩ := (hv36_9 : In _ _ _); obtain ⟨o16a, o16b⟩ := (hv47_9 : In _ _ _); obtain ⟨o17a, o17b⟩ := (hv48_9 : In _ _ _); obtain ⟨o18a, o18b⟩ := (hv53_9 : In _ _ _); obtain ⟨o19a, o19b⟩ := (hv55_9 : In _ _ _); obtain ⟨o20a, o20b⟩ := (hb58 : In _ _ _); obtain ⟨o21a, o21b⟩ := (hb65 : In _ _ _); omega)), TI.cast hT (by funext q; simp only [gset]; (repeat' split); all_goals first | rfl | omega | (subst_vars; rfl) | (exfalso; omega))⟩, hfr, (⟨by decide, by decide⟩ : In 0 0 1)⟩) dX11_takes_48
  exact hJ7 ((7 - (0 : Int32).toInt).toNat + 1) 0 _ _ _ (⟨by decide, by decide⟩ : In 0 0 7) hP hD hS (by have ql := Int.natCast_nonneg (lenS.getD z1 0); have oc0 : (0 : Int32).toInt = 0 := (by decide); omega) (lv_sub hl [2, 3, 1, 0] rfl) (msI _)

abbrev rm_X11_digits : Room := { frames := 2, cells := 0, slots := 0, locals := 40 }
abbrev po_X11_digits (g : GG) (ad : Nat → Nat) (th : Nat → Int) (L : List Nat) (f : HP)  : (List Nat × HP) → Prop := fun u => u.1 = L ∧ (∃ za zr zl : Int, ((th 37 ≤ zr ∧ 0 ≤ zr ∧ 0 ≤ zl ∧ zr + zl = za ∧ za ≤ 500) ∧ (∀ r0 : Nat → Int32, u.2 (ad 256) = .inl (g.2.1 2, 500, .inl r0) → ∀ i : Nat, zr ≤ (i : Int) → (i : Int) < za → In (r0 i) 48 57)) ∧ TI g ad (gset (gset (gset th 37 za) 40 zr) 41 zl) u.2) ∧ (∀ b, b ≠ (ad 255) → u.2 b = f b)
set_option maxHeartbeats 4000000 in
set_option maxRecDepth 100000 in
theorem s_X11_digits (l : Launch) (g : GG) (ad : Nat → Nat) (th : Nat → Int) (L : List Nat) (f : HP) (sz : Nat)  (hst : ST ad L) (hT : TI g ad th f)  : MtV l g yX11_digits cX11_digits 2 rm_X11_digits [.ref (ad 255)] L f sz (po_X11_digits g ad th L f ) := by
  refine MtV.of (by decide +kernel) (Nat.le_of_ble_eq_true rfl) ?_
  intro p e s m below meth c A hEn hP hD hS ls hl
  obtain ⟨hx, hb, hr, hml, hown, hlocks, hts, hG, hA, hE, hnm⟩ := hEn
  have hown : s.vm.findClass "RulerWordModel" = some m.cls := hown
  have hl : lv_has ls 2 [(0, .ref (ad 255))] := hl
  have hfr : (∀ b, b ≠ (ad 255) → f b = f b) := fun b z0_ => rfl
  refine lv_aload_n hx hb dX11_digits_0 rfl (lv_at hl 0 rfl) ?_
  obtain ⟨v0_1, v2_1, v3_1, v4_1, v5_1, v6_1, v8_1, v9_1, v12_1, v13_1, v14_1, v15_1, v16_1, v17_1, v18_1, v19_1, v20_1, v21_1, v22_1, v23_1, v25_1, v36_1, v37_1, v38_1, v39_1, v40_1, v45_1, v46_1, v47_1, v48_1, v50_1, v51_1, v53_1, v55_1, hf2, hv0_1, hv2_1, hg2_1, hv3_1, hg3_1, hv4_1, hg4_1, hv5_1, hg5_1, hv6_1, hg6_1, hv8_1, hg8_1, hv9_1, hg9_1, hv12_1, hv13_1, hg13_1, hv14_1, hg14_1, hv15_1, hg15_1, hv17_1, hg17_1, hv20_1, hg20_1, hv23_1, hg23_1, hv25_1, hv36_1, hg36_1, hv47_1, hg47_1, hv48_1, hg48_1, hv53_1, hg53_1, hv55_1, hg55_1, hrel0_1⟩ := hT.2.2 0 (by decide)
  refine call_i (run_V (rm := rm_X11_look) hx hb hml hown hts (s_X11_look l g ad th _ _ _  hst hT ) cV_X11_look wg_1529 ⟨Nat.le_of_ble_eq_true rfl, Nat.le_of_ble_eq_true rfl⟩ hG hE hA hP hD hS (hst.1 255 (by decide)) hf2 rfl rfl hl.1 (As := []) (rest := []) rfl (Nat.le_of_ble_eq_true rfl) dX11_digits_1 ⟨Nat.le_of_ble_eq_true rfl, Nat.le_of_ble_eq_true rfl⟩) hA hD hS (fun r3 L4 f5 H locs hp6 hP hD hS => ?_)
  obtain ⟨eL7L, eL7T, eL7F, eL7R⟩ := hp6
  have eL7L : L4 = L := eL7L
  rw [eL7L] at hP hD
  obtain ⟨zz8, hzz8, eL7T⟩ := eL7T
  have hT : TI g ad (gset th 37 zz8) f5 := eL7T
  have eL7F : ∀ b, b ≠ (ad 255) → f5 b = f b := eL7F
  have hfr : (∀ b, b ≠ (ad 255) → f5 b = f b) := fun b z0_ => (eL7F b z0_).trans (hfr b z0_)
  have eL7R : In r3 (-1) 255 := eL7R
  refine lv_istore_n (lv' := [(1, .int r3), (0, .ref (ad 255))]) hx hb dX11_digits_4 rfl hl (by decide) rfl (fun ls hl => ?_)
  refine lv_aload_n hx hb dX11_digits_5 rfl (lv_at hl 1 rfl) ?_
  refine lv_aload_n hx hb dX11_digits_6 rfl (lv_at hl 1 rfl) ?_
  obtain ⟨v0_9, v2_9, v3_9, v4_9, v5_9, v6_9, v8_9, v9_9, v12_9, v13_9, v14_9, v15_9, v16_9, v17_9, v18_9, v19_9, v20_9, v21_9, v22_9, v23_9, v25_9, v36_9, v37_9, v38_9, v39_9, v40_9, v45_9, v46_9, v47_9, v48_9, v50_9, v51_9, v53_9, v55_9, hf10, hv0_9, hv2_9, hg2_9, hv3_9, hg3_9, hv4_9, hg4_9, hv5_9, hg5_9, hv6_9, hg6_9, hv8_9, hg8_9, hv9_9, hg9_9, hv12_9, hv13_9, hg13_9, hv14_9, hg14_9, hv15_9, hg15_9, hv17_9, hg17_9, hv20_9, hg20_9, hv23_9, hg23_9, hv25_9, hv36_9, hg36_9, hv47_9, hg47_9, hv48_9, hg48_9, hv53_9, hg53_9, hv55_9, hg55_9, hrel0_9⟩ := hT.2.2 0 (by decide)
  have hg2_9 : v2_9.toInt = th 13 := hg2_9
  have hg3_9 : v3_9.toInt = zz8 := hg3_9
  have hg4_9 : v4_9.toInt = th 42 := hg4_9
  have hg5_9 : v5_9.toInt = th 40 := hg5_9
  have hg6_9 : v6_9.toInt = th 41 := hg6_9
  have hg8_9 : v8_9.toInt = th 43 := hg8_9
  have hg9_9 : v9_9.toInt = th 35 := hg9_9
  have hg13_9 : v13_9.toInt = th 36 := hg13_9
  have hg14_9 : v14_9.toInt = th 10 := hg14_9
  have hg15_9 : v15_9.toInt = th 11 := hg15_9
  have hg17_9 : v17_9.toInt = th 12 := hg17_9
  have hg20_9 : v20_9.toInt = th 14 := hg20_9
  have hg23_9 : v23_9.toInt = th 15 := hg23_9
  have hg36_9 : v36_9.toInt = th 18 := hg36_9
  have hg47_9 : v47_9.toInt = th 16 := hg47_9
  have hg48_9 : v48_9.toInt = th 17 := hg48_9
  have hg53_9 : v53_9.toInt = th 38 := hg53_9
  have hg55_9 : v55_9.toInt = th 39 := hg55_9
  refine pl_get (v := .int v3_9) hx hb hts (fun w h => mT (inX11 w h)) hown hG.1 hP (hst.1 255 (by decide)) hf10 rfl 3 (by decide) (hts _ (mT wg_1339)) (fun _ h => h) rfl dX11_digits_7 ?_
  refine pl_put (ty := .int) (v := .int v3_9) (fs' := [.int v0_9, .ref (ad 256), .int v2_9, .int v3_9, .int v4_9, .int v3_9, .int v6_9, .ref (ad 257), .int v8_9, .int v9_9, .ref (ad 258), .ref (ad 259), .int v12_9, .int v13_9, .int v14_9, .int v15_9, .int v16_9, .int v17_9, .int v18_9, .int v19_9, .int v20_9, .long v21_9, .long v22_9, .int v23_9, .ref (ad 260), .int v25_9, .ref (ad 261), .ref (ad 262), .ref (ad 263), .ref (ad 264), .ref (ad 265), .ref (ad 266), .ref (ad 267), .ref (ad 268), .ref (ad 269), .ref (ad 270), .int v36_9, .int v37_9, .int v38_9, .int v39_9, .int v40_9, .ref (ad 271), .ref (ad 272), .ref (ad 273), .ref (ad 274), .long v45_9, .long v46_9, .int v47_9, .int v48_9, .ref (ad 275), .int v50_9, .int v51_9, .ref (ad 276), .int v53_9, .ref (ad 277), .int v55_9]) hx hb hts (fun w h => mT (inX11 w h)) tyX11 tyX11_ok nmX11 hown hG.1 hP hD hS (hst.1 255 (by decide)) hf10 rfl 5 (by decide) (hts _ (mT wg_1341)) (fun _ h => h) rfl (by decide +kernel) (rfl) (rfl) (Nat.le_of_ble_eq_true rfl) rfl dX11_digits_10 (fun H locs f11 hf12 ho13 hP hD hS => ?_)
  have hfr : (∀ b, b ≠ (ad 255) → f11 b = f b) := fun b z0_ => (ho13 b z0_).trans (hfr b z0_)
  have hT := TI.updMG (th' := (gset (gset th 37 zz8) 40 (v3_9.toInt))) hT hst (k := 0) (by decide) hf12 ho13 ⟨v0_9, v2_9, v3_9, v4_9, v3_9, v6_9, v8_9, v9_9, v12_9, v13_9, v14_9, v15_9, v16_9, v17_9, v18_9, v19_9, v20_9, v21_9, v22_9, v23_9, v25_9, v36_9, v37_9, v38_9, v39_9, v40_9, v45_9, v46_9, v47_9, v48_9, v50_9, v51_9, v53_9, v55_9, rfl, hv0_9, hv2_9, (by rw [hg2_9]; simp [gset]), hv3_9, (by rw [hg3_9]; simp [gset]), hv4_9, (by rw [hg4_9]; simp [gset]), hv3_9, (by simp [gset, hg3_9]), hv6_9, (by rw [hg6_9]; simp [gset]), hv8_9, (by rw [hg8_9]; simp [gset]), hv9_9, (by rw [hg9_9]; simp [gset]), hv12_9, hv13_9, (by rw [hg13_9]; simp [gset]), hv14_9, (by rw [hg14_9]; simp [gset]), hv15_9, (by rw [hg15_9]; simp [gset]), hv17_9, (by rw [hg17_9]; simp [gset]), hv20_9, (by rw [hg20_9]; simp [gset]), hv23_9, (by rw [hg23_9]; simp [gset]), hv25_9, hv36_9, (by rw [hg36_9]; simp [gset]), hv47_9, (by rw [hg47_9]; simp [gset]), hv48_9, (by rw [hg48_9]; simp [gset]), hv53_9, (by rw [hg53_9]; simp [gset]), hv55_9, (by rw [hg55_9]; simp [gset]), hrel0_9⟩ (fun q hq => ((gset_ne (fun e => hq (by subst e; decide))).trans rfl))
  have hT : TI g ad (gset (gset th 37 zz8) 40 v3_9.toInt) f11 := TI.cast hT (by funext q; simp only [gset]; (repeat' split); all_goals first | rfl | omega | (subst_vars; rfl) | (exfalso; omega))
  obtain ⟨rw14, hf15, hc16⟩ := hT.2.2 1 (by decide)
  have hJ13 : ∀ (k13 : Nat) (zg13_za : Int) (f_13 : HP) (H : Heap) (locs : List Loc) (ls : Array Slot), ((gset (gset th 37 zz8) 40 v3_9.toInt) 40 ≤ zg13_za ∧ zg13_za ≤ 500 ∧ 0 ≤ zg13_za) → va_P g.1 vwCl (va_pl L f_13) H → va_D A (va_pl L f_13) → va_S A s.heap H locs → TI g ad (gset (gset th 40 v3_9.toInt) 37 zg13_za) f_13 → (∀ b, b ≠ (ad 255) → f_13 b = f b) → (∀ i : Nat, v3_9.toInt ≤ (i : Int) → (i : Int) < zg13_za → In (rw14 i) 48 57) → lv_has ls 2 [(0, .ref (ad 255)), (1, .int r3)] → 500 - zg13_za < ((k13 : Nat) : Int) → W p l e rm_X11_digits s m [.ref (ad 255)].toArray below meth c H locs 0 0 (MQ below (va_Qv (po_X11_digits g ad th L f ) (PstB g A) A) [.ref (ad 255)].toArray s rm_X11_digits.cells rm_X11_digits.slots A) (F0 m 13 ls []) := by
    intro k13
    induction k13 with
    | zero =>
      intro zg13_za f_13 H locs ls hzg13 hP hD hS hT hfr hxi13_0 hl hmz13
      exact absurd hmz13 (by omega)
    | succ k13 ih13 =>
      intro zg13_za f_13 H locs ls hzg13 hP hD hS hT hfr hxi13_0 hl hmz13
      refine lv_aload_n hx hb dX11_digits_13 rfl (lv_at hl 0 rfl) ?_
      obtain ⟨v0_17, v2_17, v3_17, v4_17, v5_17, v6_17, v8_17, v9_17, v12_17, v13_17, v14_17, v15_17, v16_17, v17_17, v18_17, v19_17, v20_17, v21_17, v22_17, v23_17, v25_17, v36_17, v37_17, v38_17, v39_17, v40_17, v45_17, v46_17, v47_17, v48_17, v50_17, v51_17, v53_17, v55_17, hf18, hv0_17, hv2_17, hg2_17, hv3_17, hg3_17, hv4_17, hg4_17, hv5_17, hg5_17, hv6_17, hg6_17, hv8_17, hg8_17, hv9_17, hg9_17, hv12_17, hv13_17, hg13_17, hv14_17, hg14_17, hv15_17, hg15_17, hv17_17, hg17_17, hv20_17, hg20_17, hv23_17, hg23_17, hv25_17, hv36_17, hg36_17, hv47_17, hg47_17, hv48_17, hg48_17, hv53_17, hg53_17, hv55_17, hg55_17, hrel0_17⟩ := hT.2.2 0 (by decide)
      have hg2_17 : v2_17.toInt = th 13 := hg2_17
      have hg3_17 : v3_17.toInt = zg13_za := hg3_17
      have hg4_17 : v4_17.toInt = th 42 := hg4_17
      have hg5_17 : v5_17.toInt = v3_9.toInt := hg5_17
      have hg6_17 : v6_17.toInt = th 41 := hg6_17
      have hg8_17 : v8_17.toInt = th 43 := hg8_17
      have hg9_17 : v9_17.toInt = th 35 := hg9_17
      have hg13_17 : v13_17.toInt = th 36 := hg13_17
      have hg14_17 : v14_17.toInt = th 10 := hg14_17
      have hg15_17 : v15_17.toInt = th 11 := hg15_17
      have hg17_17 : v17_17.toInt = th 12 := hg17_17
      have hg20_17 : v20_17.toInt = th 14 := hg20_17
      have hg23_17 : v23_17.toInt = th 15 := hg23_17
      have hg36_17 : v36_17.toInt = th 18 := hg36_17
      have hg47_17 : v47_17.toInt = th 16 := hg47_17
      have hg48_17 : v48_17.toInt = th 17 := hg48_17
      have hg53_17 : v53_17.toInt = th 38 := hg53_17
      have hg55_17 : v55_17.toInt = th 39 := hg55_17
      refine call_i (run_V (rm := rm_X11_here) hx hb hml hown hts (s_X11_here l g ad (gset (gset th 40 v3_9.toInt) 37 zg13_za) _ _ _  hst hT ) cV_X11_here wg_1533 ⟨Nat.le_of_ble_eq_true rfl, Nat.le_of_ble_eq_true rfl⟩ hG hE hA hP hD hS (hst.1 255 (by decide)) hf18 rfl rfl hl.1 (As := []) (rest := []) rfl (Nat.le_of_ble_eq_true rfl) dX11_digits_14 ⟨Nat.le_of_ble_eq_true rfl, Nat.le_of_ble_eq_true rfl⟩) hA hD hS (fun r19 L20 f21 H locs hp22 hP hD hS => ?_)
      obtain ⟨eL23L, eL23T, eL23R, eL23X0, eL23X1⟩ := hp22
      have eL23L : L20 = L := eL23L
      have eL23T : f21 = f_13 := eL23T
      rw [eL23L, eL23T] at hP hD
      have eL23R : In r19 (-1) 255 := eL23R
      have hh24 : r19.toInt = -1 ∨ zg13_za < th 13 := eL23X0
      have hby25 : r19.toInt = -1 ∨ r19.toInt = (rw14 (zg13_za).toNat).toInt % 256 := eL23X1 _ hf15
      refine call_i (run_S (rm := rm_X11_isDigit) hx hb hml hown hts (s_X11_isDigit l g ad (gset (gset th 40 v3_9.toInt) 37 zg13_za) _ _ _ r19 hst hT ) cS_X11_isDigit wg_1574 ⟨Nat.le_of_ble_eq_true rfl, Nat.le_of_ble_eq_true rfl⟩ hG hE hA hP hD hS rfl hl.1 (As := [.int r19]) (rest := []) rfl (Nat.le_of_ble_eq_true rfl) dX11_digits_17 ⟨Nat.le_of_ble_eq_true rfl, Nat.le_of_ble_eq_true rfl⟩) hA hD hS (fun r26 L27 f28 H locs hp29 hP hD hS => ?_)
      obtain ⟨eL30L, eL30T, eL30R, eL30W0⟩ := hp29
      have eL30L : L27 = L := eL30L
      have eL30T : f28 = f_13 := eL30T
      rw [eL30L, eL30T] at hP hD
      have eL30R : In r26 0 1 := eL30R
      refine lv_if_eq (tgt := 36) hx hb dX11_digits_20 (by decide) (fun c31 => ?_) (fun c31 => ?_)
      ·
        have oc0 : (0 : Int32).toInt = 0 := by decide
        have cc32 : r26.toInt = (0 : Int32).toInt := congrArg Int32.toInt c31
        have hb33 : In r26 0 0 := In.eq1 eL30R (⟨by decide, by decide⟩ : In 0 0 0) cc32 (by omega) (by omega)
        refine lv_aload_n hx hb dX11_digits_36 rfl (lv_at hl 0 rfl) ?_
        refine lv_aload_n hx hb dX11_digits_37 rfl (lv_at hl 0 rfl) ?_
        refine pl_get (v := .int v3_17) hx hb hts (fun w h => mT (inX11 w h)) hown hG.1 hP (hst.1 255 (by decide)) hf18 rfl 3 (by decide) (hts _ (mT wg_1339)) (fun _ h => h) rfl dX11_digits_38 ?_
        refine lv_aload_n hx hb dX11_digits_41 rfl (lv_at hl 0 rfl) ?_
        refine pl_get (v := .int v5_17) hx hb hts (fun w h => mT (inX11 w h)) hown hG.1 hP (hst.1 255 (by decide)) hf18 rfl 5 (by decide) (hts _ (mT wg_1341)) (fun _ h => h) rfl dX11_digits_42 ?_
        refine lv_isub hx hb dX11_digits_45 ?_
        refine lv_topi (fun x34 ex34 => ?_)
        have hb35 : In x34 (-500) 500 := ex34 ▸ In.sub hv3_17 hv5_17 (by decide) (by decide) (by decide) (by decide)
        have et36 : x34.toInt = v3_17.toInt - v5_17.toInt := In.sub2e ex34 hv3_17 hv5_17 (by decide) (by decide)
        refine pl_put (ty := .int) (v := .int x34) (fs' := [.int v0_17, .ref (ad 256), .int v2_17, .int v3_17, .int v4_17, .int v5_17, .int x34, .ref (ad 257), .int v8_17, .int v9_17, .ref (ad 258), .ref (ad 259), .int v12_17, .int v13_17, .int v14_17, .int v15_17, .int v16_17, .int v17_17, .int v18_17, .int v19_17, .int v20_17, .long v21_17, .long v22_17, .int v23_17, .ref (ad 260), .int v25_17, .ref (ad 261), .ref (ad 262), .ref (ad 263), .ref (ad 264), .ref (ad 265), .ref (ad 266), .ref (ad 267), .ref (ad 268), .ref (ad 269), .ref (ad 270), .int v36_17, .int v37_17, .int v38_17, .int v39_17, .int v40_17, .ref (ad 271), .ref (ad 272), .ref (ad 273), .ref (ad 274), .long v45_17, .long v46_17, .int v47_17, .int v48_17, .ref (ad 275), .int v50_17, .int v51_17, .ref (ad 276), .int v53_17, .ref (ad 277), .int v55_17]) hx hb hts (fun w h => mT (inX11 w h)) tyX11 tyX11_ok nmX11 hown hG.1 hP hD hS (hst.1 255 (by decide)) hf18 rfl 6 (by decide) (hts _ (mT wg_1342)) (fun _ h => h) rfl (by decide +kernel) (rfl) (rfl) (Nat.le_of_ble_eq_true rfl) rfl dX11_digits_46 (fun H locs f37 hf38 ho39 hP hD hS => ?_)
        have hf40 := (ho39 (ad 256) (hst.ne (by decide) (by decide) (by decide))).trans hf15
        have hfr : (∀ b, b ≠ (ad 255) → f37 b = f b) := fun b z0_ => (ho39 b z0_).trans (hfr b z0_)
        have hT := TI.updMG (th' := (gset (gset (gset th 40 v3_9.toInt) 37 zg13_za) 41 (x34.toInt))) hT hst (k := 0) (by decide) hf38 ho39 ⟨v0_17, v2_17, v3_17, v4_17, v5_17, x34, v8_17, v9_17, v12_17, v13_17, v14_17, v15_17, v16_17, v17_17, v18_17, v19_17, v20_17, v21_17, v22_17, v23_17, v25_17, v36_17, v37_17, v38_17, v39_17, v40_17, v45_17, v46_17, v47_17, v48_17, v50_17, v51_17, v53_17, v55_17, rfl, hv0_17, hv2_17, (by rw [hg2_17]; simp [gset]), hv3_17, (by rw [hg3_17]; simp [gset]), hv4_17, (by rw [hg4_17]; simp [gset]), hv5_17, (by rw [hg5_17]; simp [gset]), (In.mk (by obtain ⟨o0a, o0b⟩ := (hb35 : In _ _ _); obtain ⟨o1a, o1b⟩ := (hv2_17 : In _ _ _); obtain ⟨o2a, o2b⟩ := (hv3_17 : In _ _ _); obtain ⟨o3a, o3b⟩ := (hv4_17 : In _ _ _); obtain ⟨o4a, o4b⟩ := (hv5_17 : In _ _ _); obtain ⟨o5a, o5b⟩ := (hv8_17 : In _ _ _); obtain ⟨o6a, o6b⟩ := (hv9_17 : In _ _ _); obtain ⟨o7a, o7b⟩ := (hv13_17 : In _ _ _); obtain ⟨o8a, o8b⟩ := (hv14_17 : In _ _ _); obtain ⟨o9a, o9b⟩ := (hv15_17 : In _ _ _); obtain ⟨o10a, o10b⟩ := (hv17_17 : In _ _ _); obtain ⟨o11a, o11b⟩ := (hv20_17 : In _ _ _); obtain ⟨o12a, o12b⟩ := (hv23_17 : In _ _ _); obtain ⟨o13a, o13b⟩ := (hv36_17 : In _ _ _); obtain ⟨o14a, o14b⟩ := (hv47_17 : In _ _ _); obtain ⟨o15a, o15b⟩ := (hv48_17 : In _ _ _); obtain ⟨o16a, o16b⟩ := (hv53_17 : In _ _ _); obtain ⟨o17a, o17b⟩ := (hv55_17 : In _ _ _); omega) (by obtain ⟨o0a, o0b⟩ := (hb35 : In _ _ _); obtain ⟨o1a, o1b⟩ := (hv2_17 : In _ _ _); obtain ⟨o2a, o2b⟩ := (hv3_17 : In _ _ _); obtain ⟨o3a, o3b⟩ := (hv4_17 : In _ _ _); obtain ⟨o4a, o4b⟩ := (hv5_17 : In _ _ _); obtain ⟨o5a, o5b⟩ := (hv8_17 : In _ _ _); obtain ⟨o6a, o6b⟩ := (hv9_17 : In _ _ _); obtain ⟨o7a, o7b⟩ := (hv13_17 : In _ _ _); obtain ⟨o8a, o8b⟩ := (hv14_17 : In _ _ _); obtain ⟨o9a, o9b⟩ := (hv15_17 : In _ _ _); obtain ⟨o10a, o10b⟩ := (hv17_17 : In _ _ _); obtain ⟨o11a, o11b⟩ := (hv20_17 : In _ _ _); obtain ⟨o12a, o12b⟩ := (hv23_17 : In _ _ _); obtain ⟨o13a, o13b⟩ := (hv36_17 : In _ _ _); obtain ⟨o14a, o14b⟩ := (hv47_17 : In _ _ _); obtain ⟨o15a, o15b⟩ := (hv48_17 : In _ _ _); obtain ⟨o16a, o16b⟩ := (hv53_17 : In _ _ _); obtain ⟨o17a, o17b⟩ := (hv55_17 : In _ _ _); omega)), (by simp [gset]), hv8_17, (by rw [hg8_17]; simp [gset]), hv9_17, (by rw [hg9_17]; simp [gset]), hv12_17, hv13_17, (by rw [hg13_17]; simp [gset]), hv14_17, (by rw [hg14_17]; simp [gset]), hv15_17, (by rw [hg15_17]; simp [gset]), hv17_17, (by rw [hg17_17]; simp [gset]), hv20_17, (by rw [hg20_17]; simp [gset]), hv23_17, (by rw [hg23_17]; simp [gset]), hv25_17, hv36_17, (by rw [hg36_17]; simp [gset]), hv47_17, (by rw [hg47_17]; simp [gset]), hv48_17, (by rw [hg48_17]; simp [gset]), hv53_17, (by rw [hg53_17]; simp [gset]), hv55_17, (by rw [hg55_17]; simp [gset]), hrel0_17⟩ (fun q hq => ((gset_ne (fun e => hq (by subst e; decide))).trans rfl))
        have hT : TI g ad (gset (gset (gset th 40 v3_9.toInt) 37 zg13_za) 41 x34.toInt) f37 := TI.cast hT (by funext q; simp only [gset]; (repeat' split); all_goals first | rfl | omega | (subst_vars; rfl) | (exfalso; omega))
        exact ret_v hx hb hr hlocks hP hD hS (Nat.le_of_ble_eq_true rfl) (Nat.le_of_ble_eq_true rfl) (⟨rfl, ⟨zg13_za, v3_9.toInt, x34.toInt, ⟨(show (th 37 ≤ v3_9.toInt ∧ 0 ≤ v3_9.toInt ∧ 0 ≤ x34.toInt ∧ v3_9.toInt + x34.toInt = zg13_za ∧ zg13_za ≤ 500) from (by omega)), fun r0 q0 => by have q1 := hf40.symm.trans q0; injection q1 with q1; injection q1 with _ q1; injection q1 with _ q1; injection q1 with q1; rw [← q1]; exact fun i a b => hxi13_0 i a (by omega)⟩, TI.cast hT (by funext q; simp only [gset]; (repeat' split); all_goals first | rfl | omega | (subst_vars; rfl) | (exfalso; omega))⟩, hfr⟩) dX11_digits_49
      ·
        have oc0 : (0 : Int32).toInt = 0 := by decide
        have cc41 : r26.toInt ≠ (0 : Int32).toInt := i32_ne c31
        have hb42 : In r26 1 1 := In.ne1 eL30R (⟨by decide, by decide⟩ : In 0 0 0) cc41 (by omega) (by omega)
        have hb43 : In r19 48 57 := In.both (eL30W0 c31) eL23R (by decide) (by decide)
        have hdd44 : In (rw14 (zg13_za).toNat) 48 57 := dg_at (hc16 _ (by obtain ⟨o0a, o0b⟩ := (hb43 : In _ _ _); obtain ⟨o1a, o1b⟩ := (hv2_17 : In _ _ _); obtain ⟨o2a, o2b⟩ := (hv3_17 : In _ _ _); obtain ⟨o3a, o3b⟩ := (hv4_17 : In _ _ _); obtain ⟨o4a, o4b⟩ := (hv5_17 : In _ _ _); obtain ⟨o5a, o5b⟩ := (hv6_17 : In _ _ _); obtain ⟨o6a, o6b⟩ := (hv8_17 : In _ _ _); obtain ⟨o7a, o7b⟩ := (hv9_17 : In _ _ _); obtain ⟨o8a, o8b⟩ := (hv13_17 : In _ _ _); obtain ⟨o9a, o9b⟩ := (hv14_17 : In _ _ _); obtain ⟨o10a, o10b⟩ := (hv15_17 : In _ _ _); obtain ⟨o11a, o11b⟩ := (hv17_17 : In _ _ _); obtain ⟨o12a, o12b⟩ := (hv20_17 : In _ _ _); obtain ⟨o13a, o13b⟩ := (hv23_17 : In _ _ _); obtain ⟨o14a, o14b⟩ := (hv36_17 : In _ _ _); obtain ⟨o15a, o15b⟩ := (hv47_17 : In _ _ _); obtain ⟨o16a, o16b⟩ := (hv48_17 : In _ _ _); obtain ⟨o17a, o17b⟩ := (hv53_17 : In _ _ _); obtain ⟨o18a, o18b⟩ := (hv55_17 : In _ _ _); omega)) hb43 hby25
        refine lv_aload_n hx hb dX11_digits_23 rfl (lv_at hl 0 rfl) ?_
        refine lv_dup hx hb dX11_digits_24 rfl ?_
        refine pl_get (v := .int v3_17) hx hb hts (fun w h => mT (inX11 w h)) hown hG.1 hP (hst.1 255 (by decide)) hf18 rfl 3 (by decide) (hts _ (mT wg_1339)) (fun _ h => h) rfl dX11_digits_25 ?_
        refine lv_iconst (v := 1) hx hb dX11_digits_28 (by decide) ?_
        refine lv_iadd hx hb dX11_digits_29 ?_
        refine lv_topi (fun x45 ex45 => ?_)
        have hb46 : In x45 1 501 := ex45 ▸ In.add hv3_17 (⟨by decide, by decide⟩ : In 1 1 1) (by decide) (by decide) (by decide) (by decide)
        have et47 : x45.toInt = v3_17.toInt + 1 := In.adde ex45 hv3_17 (k := 1) (by decide) (by decide) (by decide)
        refine pl_put (ty := .int) (v := .int x45) (fs' := [.int v0_17, .ref (ad 256), .int v2_17, .int x45, .int v4_17, .int v5_17, .int v6_17, .ref (ad 257), .int v8_17, .int v9_17, .ref (ad 258), .ref (ad 259), .int v12_17, .int v13_17, .int v14_17, .int v15_17, .int v16_17, .int v17_17, .int v18_17, .int v19_17, .int v20_17, .long v21_17, .long v22_17, .int v23_17, .ref (ad 260), .int v25_17, .ref (ad 261), .ref (ad 262), .ref (ad 263), .ref (ad 264), .ref (ad 265), .ref (ad 266), .ref (ad 267), .ref (ad 268), .ref (ad 269), .ref (ad 270), .int v36_17, .int v37_17, .int v38_17, .int v39_17, .int v40_17, .ref (ad 271), .ref (ad 272), .ref (ad 273), .ref (ad 274), .long v45_17, .long v46_17, .int v47_17, .int v48_17, .ref (ad 275), .int v50_17, .int v51_17, .ref (ad 276), .int v53_17, .ref (ad 277), .int v55_17]) hx hb hts (fun w h => mT (inX11 w h)) tyX11 tyX11_ok nmX11 hown hG.1 hP hD hS (hst.1 255 (by decide)) hf18 rfl 3 (by decide) (hts _ (mT wg_1339)) (fun _ h => h) rfl (by decide +kernel) (rfl) (rfl) (Nat.le_of_ble_eq_true rfl) rfl dX11_digits_30 (fun H locs f48 hf49 ho50 hP hD hS => ?_)
        have hf51 := (ho50 (ad 256) (hst.ne (by decide) (by decide) (by decide))).trans hf15
        have hfr : (∀ b, b ≠ (ad 255) → f48 b = f b) := fun b z0_ => (ho50 b z0_).trans (hfr b z0_)
        have hT := TI.updMG (th' := (gset (gset (gset th 40 v3_9.toInt) 37 zg13_za) 37 (x45.toInt))) hT hst (k := 0) (by decide) hf49 ho50 ⟨v0_17, v2_17, x45, v4_17, v5_17, v6_17, v8_17, v9_17, v12_17, v13_17, v14_17, v15_17, v16_17, v17_17, v18_17, v19_17, v20_17, v21_17, v22_17, v23_17, v25_17, v36_17, v37_17, v38_17, v39_17, v40_17, v45_17, v46_17, v47_17, v48_17, v50_17, v51_17, v53_17, v55_17, rfl, hv0_17, hv2_17, (by rw [hg2_17]; simp [gset]), (In.mk (by obtain ⟨o0a, o0b⟩ := (hb46 : In _ _ _); obtain ⟨o1a, o1b⟩ := (hv2_17 : In _ _ _); obtain ⟨o2a, o2b⟩ := (hv4_17 : In _ _ _); obtain ⟨o3a, o3b⟩ := (hv5_17 : In _ _ _); obtain ⟨o4a, o4b⟩ := (hv6_17 : In _ _ _); obtain ⟨o5a, o5b⟩ := (hv8_17 : In _ _ _); obtain ⟨o6a, o6b⟩ := (hv9_17 : In _ _ _); obtain ⟨o7a, o7b⟩ := (hv13_17 : In _ _ _); obtain ⟨o8a, o8b⟩ := (hv14_17 : In _ _ _); obtain ⟨o9a, o9b⟩ := (hv15_17 : In _ _ _); obtain ⟨o10a, o10b⟩ := (hv17_17 : In _ _ _); obtain ⟨o11a, o11b⟩ := (hv20_17 : In _ _ _); obtain ⟨o12a, o12b⟩ := (hv23_17 : In _ _ _); obtain ⟨o13a, o13b⟩ := (hv36_17 : In _ _ _); obtain ⟨o14a, o14b⟩ := (hv47_17 : In _ _ _); obtain ⟨o15a, o15b⟩ := (hv48_17 : In _ _ _); obtain ⟨o16a, o16b⟩ := (hv53_17 : In _ _ _); obtain ⟨o17a, o17b⟩ := (hv55_17 : In _ _ _); obtain ⟨o18a, o18b⟩ := (hv3_17 : In _ _ _); omega) (by obtain ⟨o0a, o0b⟩ := (hb46 : In _ _ _); obtain ⟨o1a, o1b⟩ := (hv2_17 : In _ _ _); obtain ⟨o2a, o2b⟩ := (hv4_17 : In _ _ _); obtain ⟨o3a, o3b⟩ := (hv5_17 : In _ _ _); obtain ⟨o4a, o4b⟩ := (hv6_17 : In _ _ _); obtain ⟨o5a, o5b⟩ := (hv8_17 : In _ _ _); obtain ⟨o6a, o6b⟩ := (hv9_17 : In _ _ _); obtain ⟨o7a, o7b⟩ := (hv13_17 : In _ _ _); obtain ⟨o8a, o8b⟩ := (hv14_17 : In _ _ _); obtain ⟨o9a, o9b⟩ := (hv15_17 : In _ _ _); obtain ⟨o10a, o10b⟩ := (hv17_17 : In _ _ _); obtain ⟨o11a, o11b⟩ := (hv20_17 : In _ _ _); obtain ⟨o12a, o12b⟩ := (hv23_17 : In _ _ _); obtain ⟨o13a, o13b⟩ := (hv36_17 : In _ _ _); obtain ⟨o14a, o14b⟩ := (hv47_17 : In _ _ _); obtain ⟨o15a, o15b⟩ := (hv48_17 : In _ _ _); obtain ⟨o16a, o16b⟩ := (hv53_17 : In _ _ _); obtain ⟨o17a, o17b⟩ := (hv55_17 : In _ _ _); obtain ⟨o18a, o18b⟩ := (hv3_17 : In _ _ _); omega)), (by simp [gset]), hv4_17, (by rw [hg4_17]; simp [gset]), hv5_17, (by rw [hg5_17]; simp [gset]), hv6_17, (by rw [hg6_17]; simp [gset]), hv8_17, (by rw [hg8_17]; simp [gset]), hv9_17, (by rw [hg9_17]; simp [gset]), hv12_17, hv13_17, (by rw [hg13_17]; simp [gset]), hv14_17, (by rw [hg14_17]; simp [gset]), hv15_17, (by rw [hg15_17]; simp [gset]), hv17_17, (by rw [hg17_17]; simp [gset]), hv20_17, (by rw [hg20_17]; simp [gset]), hv23_17, (by rw [hg23_17]; simp [gset]), hv25_17, hv36_17, (by rw [hg36_17]; simp [gset]), hv47_17, (by rw [hg47_17]; simp [gset]), hv48_17, (by rw [hg48_17]; simp [gset]), hv53_17, (by rw [hg53_17]; simp [gset]), hv55_17, (by rw [hg55_17]; simp [gset]), hrel0_17⟩ (fun q hq => ((gset_ne (fun e => hq (by subst e; decide))).trans rfl))
        have hT : TI g ad (gset (gset th 40 v3_9.toInt) 37 x45.toInt) f48 := TI.cast hT (by funext q; simp only [gset]; (repeat' split); all_goals first | rfl | omega | (subst_vars; rfl) | (exfalso; omega))
        refine lv_goto (tgt := 13) hx hb dX11_digits_33 (by decide) ?_
        exact ih13 x45.toInt _ _ _ _ (show ((gset (gset th 37 zz8) 40 v3_9.toInt) 40 ≤ x45.toInt ∧ x45.toInt ≤ 500 ∧ 0 ≤ x45.toInt) from (by omega)) hP hD hS (TI.cast hT (by funext q; simp only [gset]; (repeat' split); all_goals first | rfl | omega | (subst_vars; rfl) | (exfalso; omega))) hfr (fun i q1 q2 => dg_step hxi13_0 hdd44 i q1 (by omega)) (lv_sub hl [0, 1] rfl) (show 500 - (x45.toInt) < ((k13 : Nat) : Int) from (by omega))
  obtain ⟨rw52, hf53, hc54⟩ := hT.2.2 1 (by decide)
  exact hJ13 ((500 - zz8).toNat + 1) zz8 _ _ _ _ (show ((gset (gset th 37 zz8) 40 v3_9.toInt) 40 ≤ zz8 ∧ zz8 ≤ 500 ∧ 0 ≤ zz8) from (by omega)) hP hD hS (TI.cast hT (by funext q; simp only [gset]; (repeat' split); all_goals first | rfl | omega | (subst_vars; rfl) | (exfalso; omega))) hfr (fun i q1 q2 => by omega) (lv_sub hl [1, 0] rfl) (msI _)

abbrev rm_X11_digitAt : Room := { frames := 0, cells := 0, slots := 0, locals := 0 }
abbrev po_X11_digitAt (g : GG) (ad : Nat → Nat) (th : Nat → Int) (L : List Nat) (f : HP) (z1 : Int32) : Int32 → (List Nat × HP) → Prop := fun r u => u.1 = L ∧ u.2 = f ∧ In r (-176) 79 ∧ (∀ r0 : Nat → Int32, f (ad 256) = .inl (g.2.1 2, 500, .inl r0) → r.toInt = (r0 (th 40 + z1.toInt).toNat).toInt - 48)
set_option maxHeartbeats 4000000 in
set_option maxRecDepth 100000 in
theorem s_X11_digitAt (l : Launch) (g : GG) (ad : Nat → Nat) (th : Nat → Int) (L : List Nat) (f : HP) (sz : Nat) (z1 : Int32) (hst : ST ad L) (hT : TI g ad th f) (hz1 : In z1 0 499) (hw1 : th 40 + z1.toInt < 500) : MtI l g yX11_digitAt cX11_digitAt 2 (some .int) rm_X11_digitAt [.ref (ad 255), .int z1] L f sz (po_X11_digitAt g ad th L f z1) := by
  refine MtI.of (by decide +kernel) (Nat.le_of_ble_eq_true rfl) ?_
  intro p e s m below meth c A hEn hP hD hS ls hl
  obtain ⟨hx, hb, hr, hml, hown, hlocks, hts, hG, hA, hE, hnm⟩ := hEn
  have hown : s.vm.findClass "RulerWordModel" = some m.cls := hown
  have hl : lv_has ls 2 [(0, .ref (ad 255)), (1, .int z1)] := hl
  refine lv_aload_n hx hb dX11_digitAt_0 rfl (lv_at hl 0 rfl) ?_
  obtain ⟨v0_1, v2_1, v3_1, v4_1, v5_1, v6_1, v8_1, v9_1, v12_1, v13_1, v14_1, v15_1, v16_1, v17_1, v18_1, v19_1, v20_1, v21_1, v22_1, v23_1, v25_1, v36_1, v37_1, v38_1, v39_1, v40_1, v45_1, v46_1, v47_1, v48_1, v50_1, v51_1, v53_1, v55_1, hf2, hv0_1, hv2_1, hg2_1, hv3_1, hg3_1, hv4_1, hg4_1, hv5_1, hg5_1, hv6_1, hg6_1, hv8_1, hg8_1, hv9_1, hg9_1, hv12_1, hv13_1, hg13_1, hv14_1, hg14_1, hv15_1, hg15_1, hv17_1, hg17_1, hv20_1, hg20_1, hv23_1, hg23_1, hv25_1, hv36_1, hg36_1, hv47_1, hg47_1, hv48_1, hg48_1, hv53_1, hg53_1, hv55_1, hg55_1, hrel0_1⟩ := hT.2.2 0 (by decide)
  refine pl_get (v := .ref (ad 256)) hx hb hts (fun w h => mT (inX11 w h)) hown hG.1 hP (hst.1 255 (by decide)) hf2 rfl 1 (by decide) (hts _ (mT wg_1337)) (fun _ h => h) rfl dX11_digitAt_1 ?_
  refine lv_aload_n hx hb dX11_digitAt_4 rfl (lv_at hl 0 rfl) ?_
  refine pl_get (v := .int v5_1) hx hb hts (fun w h => mT (inX11 w h)) hown hG.1 hP (hst.1 255 (by decide)) hf2 rfl 5 (by decide) (hts _ (mT wg_1341)) (fun _ h => h) rfl dX11_digitAt_5 ?_
  refine lv_iload_n hx hb dX11_digitAt_8 rfl (lv_at hl 1 rfl) ?_
  refine lv_iadd hx hb dX11_digitAt_9 ?_
  refine lv_topi (fun x3 ex3 => ?_)
  have hb4 : In x3 0 999 := ex3 ▸ In.add hv5_1 hz1 (by decide) (by decide) (by decide) (by decide)
  have et5 : x3.toInt = v5_1.toInt + z1.toInt := In.add2e ex3 hv5_1 hz1 (by decide) (by decide)
  obtain ⟨rw6, hf7, hc8⟩ := hT.2.2 1 (by decide)
  have hin9 : vp_in x3 500 := vp_of (by obtain ⟨o0a, o0b⟩ := (hb4 : In _ _ _); obtain ⟨o1a, o1b⟩ := (hv2_1 : In _ _ _); obtain ⟨o2a, o2b⟩ := (hv3_1 : In _ _ _); obtain ⟨o3a, o3b⟩ := (hv4_1 : In _ _ _); obtain ⟨o4a, o4b⟩ := (hv5_1 : In _ _ _); obtain ⟨o5a, o5b⟩ := (hv6_1 : In _ _ _); obtain ⟨o6a, o6b⟩ := (hv8_1 : In _ _ _); obtain ⟨o7a, o7b⟩ := (hv9_1 : In _ _ _); obtain ⟨o8a, o8b⟩ := (hv13_1 : In _ _ _); obtain ⟨o9a, o9b⟩ := (hv14_1 : In _ _ _); obtain ⟨o10a, o10b⟩ := (hv15_1 : In _ _ _); obtain ⟨o11a, o11b⟩ := (hv17_1 : In _ _ _); obtain ⟨o12a, o12b⟩ := (hv20_1 : In _ _ _); obtain ⟨o13a, o13b⟩ := (hv23_1 : In _ _ _); obtain ⟨o14a, o14b⟩ := (hv36_1 : In _ _ _); obtain ⟨o15a, o15b⟩ := (hv47_1 : In _ _ _); obtain ⟨o16a, o16b⟩ := (hv48_1 : In _ _ _); obtain ⟨o17a, o17b⟩ := (hv53_1 : In _ _ _); obtain ⟨o18a, o18b⟩ := (hv55_1 : In _ _ _); obtain ⟨o19a, o19b⟩ := (hz1 : In _ _ _); omega) (by obtain ⟨o0a, o0b⟩ := (hb4 : In _ _ _); obtain ⟨o1a, o1b⟩ := (hv2_1 : In _ _ _); obtain ⟨o2a, o2b⟩ := (hv3_1 : In _ _ _); obtain ⟨o3a, o3b⟩ := (hv4_1 : In _ _ _); obtain ⟨o4a, o4b⟩ := (hv5_1 : In _ _ _); obtain ⟨o5a, o5b⟩ := (hv6_1 : In _ _ _); obtain ⟨o6a, o6b⟩ := (hv8_1 : In _ _ _); obtain ⟨o7a, o7b⟩ := (hv9_1 : In _ _ _); obtain ⟨o8a, o8b⟩ := (hv13_1 : In _ _ _); obtain ⟨o9a, o9b⟩ := (hv14_1 : In _ _ _); obtain ⟨o10a, o10b⟩ := (hv15_1 : In _ _ _); obtain ⟨o11a, o11b⟩ := (hv17_1 : In _ _ _); obtain ⟨o12a, o12b⟩ := (hv20_1 : In _ _ _); obtain ⟨o13a, o13b⟩ := (hv23_1 : In _ _ _); obtain ⟨o14a, o14b⟩ := (hv36_1 : In _ _ _); obtain ⟨o15a, o15b⟩ := (hv47_1 : In _ _ _); obtain ⟨o16a, o16b⟩ := (hv48_1 : In _ _ _); obtain ⟨o17a, o17b⟩ := (hv53_1 : In _ _ _); obtain ⟨o18a, o18b⟩ := (hv55_1 : In _ _ _); obtain ⟨o19a, o19b⟩ := (hz1 : In _ _ _); omega)
  refine pl_bald hx hb hG.1 hP (hst.1 256 (by decide)) 2 hf7 rfl hin9 dX11_digitAt_10 ?_
  refine lv_topi (fun x10 ex10 => ?_)
  have hb11 : In x10 (-128) 127 := by rw [ex10]; exact hc8 _ (vp_nat hin9)
  refine lv_bipush (v := 48) hx hb dX11_digitAt_11 (by decide) ?_
  refine lv_isub hx hb dX11_digitAt_13 ?_
  refine lv_topi (fun x12 ex12 => ?_)
  have hb13 : In x12 (-176) 79 := ex12 ▸ In.sub hb11 (⟨by decide, by decide⟩ : In 48 48 48) (by decide) (by decide) (by decide) (by decide)
  have et14 : x12.toInt = x10.toInt + (-48) := In.sube ex12 hb11 (k := 48) (by decide) (by decide) (by decide)
  exact ret_i (ty := .int) hx hb hr hlocks (rfl) hP hD hS (Nat.le_of_ble_eq_true rfl) (Nat.le_of_ble_eq_true rfl) (⟨rfl, rfl, hb13, (fun r0 q0 => by have q1 := hf7.symm.trans q0; injection q1 with q1; injection q1 with _ q1; injection q1 with _ q1; injection q1 with q1; rw [← q1, et14, ex10]; show (rw6 x3.toInt.toNat).toInt + -48 = _; rw [et5, hg5_1]; rfl)⟩) dX11_digitAt_14

abbrev rm_X11_digit_3_9 : Room := { frames := 3, cells := 0, slots := 0, locals := 61 }
abbrev po_X11_digit_3_9 (g : GG) (ad : Nat → Nat) (th : Nat → Int) (L : List Nat) (f : HP)  : Int32 → (List Nat × HP) → Prop := fun r u => u.1 = L ∧ (∃ za zr zl ze : Int, ((th 37 ≤ zr ∧ 0 ≤ zr ∧ 0 ≤ zl ∧ zr + zl = za ∧ za ≤ 500)) ∧ TI g ad (gset (gset (gset (gset th 37 za) 40 zr) 41 zl) 42 ze) u.2) ∧ (∀ b, b ≠ (ad 255) → u.2 b = f b) ∧ In r 3 9
set_option maxHeartbeats 4000000 in
set_option maxRecDepth 100000 in
theorem s_X11_digit_3_9 (l : Launch) (g : GG) (ad : Nat → Nat) (th : Nat → Int) (L : List Nat) (f : HP) (sz : Nat)  (hst : ST ad L) (hT : TI g ad th f)  : MtI l g yX11_digit cX11_digit 3 (some .int) rm_X11_digit_3_9 [.ref (ad 255), .int 3, .int 9] L f sz (po_X11_digit_3_9 g ad th L f ) := by
  refine MtI.of (by decide +kernel) (Nat.le_of_ble_eq_true rfl) ?_
  intro p e s m below meth c A hEn hP hD hS ls hl
  obtain ⟨hx, hb, hr, hml, hown, hlocks, hts, hG, hA, hE, hnm⟩ := hEn
  have hown : s.vm.findClass "RulerWordModel" = some m.cls := hown
  have hl : lv_has ls 3 [(0, .ref (ad 255)), (1, .int 3), (2, .int 9)] := hl
  have hfr : (∀ b, b ≠ (ad 255) → f b = f b) := fun b z0_ => rfl
  refine lv_aload_n hx hb dX11_digit_0 rfl (lv_at hl 0 rfl) ?_
  obtain ⟨v0_1, v2_1, v3_1, v4_1, v5_1, v6_1, v8_1, v9_1, v12_1, v13_1, v14_1, v15_1, v16_1, v17_1, v18_1, v19_1, v20_1, v21_1, v22_1, v23_1, v25_1, v36_1, v37_1, v38_1, v39_1, v40_1, v45_1, v46_1, v47_1, v48_1, v50_1, v51_1, v53_1, v55_1, hf2, hv0_1, hv2_1, hg2_1, hv3_1, hg3_1, hv4_1, hg4_1, hv5_1, hg5_1, hv6_1, hg6_1, hv8_1, hg8_1, hv9_1, hg9_1, hv12_1, hv13_1, hg13_1, hv14_1, hg14_1, hv15_1, hg15_1, hv17_1, hg17_1, hv20_1, hg20_1, hv23_1, hg23_1, hv25_1, hv36_1, hg36_1, hv47_1, hg47_1, hv48_1, hg48_1, hv53_1, hg53_1, hv55_1, hg55_1, hrel0_1⟩ := hT.2.2 0 (by decide)
  refine call_v (run_V (rm := rm_X11_digits) hx hb hml hown hts (s_X11_digits l g ad th _ _ _  hst hT ) cV_X11_digits wg_1570 ⟨Nat.le_of_ble_eq_true rfl, Nat.le_of_ble_eq_true rfl⟩ hG hE hA hP hD hS (hst.1 255 (by decide)) hf2 rfl rfl hl.1 (As := []) (rest := []) rfl (Nat.le_of_ble_eq_true rfl) dX11_digit_1 ⟨Nat.le_of_ble_eq_true rfl, Nat.le_of_ble_eq_true rfl⟩) hA hD hS (fun L4 f5 H locs hp6 hP hD hS => ?_)
  obtain ⟨eL7L, eL7T, eL7F⟩ := hp6
  have eL7L : L4 = L := eL7L
  rw [eL7L] at hP hD
  obtain ⟨zz8, zz9, zz10, hzz8, eL7T⟩ := eL7T
  have hT : TI g ad (gset (gset (gset th 37 zz8) 40 zz9) 41 zz10) f5 := eL7T
  have eL7F : ∀ b, b ≠ (ad 255) → f5 b = f b := eL7F
  have hfr : (∀ b, b ≠ (ad 255) → f5 b = f b) := fun b z0_ => (eL7F b z0_).trans (hfr b z0_)
  refine lv_aload_n hx hb dX11_digit_4 rfl (lv_at hl 0 rfl) ?_
  obtain ⟨v0_11, v2_11, v3_11, v4_11, v5_11, v6_11, v8_11, v9_11, v12_11, v13_11, v14_11, v15_11, v16_11, v17_11, v18_11, v19_11, v20_11, v21_11, v22_11, v23_11, v25_11, v36_11, v37_11, v38_11, v39_11, v40_11, v45_11, v46_11, v47_11, v48_11, v50_11, v51_11, v53_11, v55_11, hf12, hv0_11, hv2_11, hg2_11, hv3_11, hg3_11, hv4_11, hg4_11, hv5_11, hg5_11, hv6_11, hg6_11, hv8_11, hg8_11, hv9_11, hg9_11, hv12_11, hv13_11, hg13_11, hv14_11, hg14_11, hv15_11, hg15_11, hv17_11, hg17_11, hv20_11, hg20_11, hv23_11, hg23_11, hv25_11, hv36_11, hg36_11, hv47_11, hg47_11, hv48_11, hg48_11, hv53_11, hg53_11, hv55_11, hg55_11, hrel0_11⟩ := hT.2.2 0 (by decide)
  have hg2_11 : v2_11.toInt = th 13 := hg2_11
  have hg3_11 : v3_11.toInt = zz8 := hg3_11
  have hg4_11 : v4_11.toInt = th 42 := hg4_11
  have hg5_11 : v5_11.toInt = zz9 := hg5_11
  have hg6_11 : v6_11.toInt = zz10 := hg6_11
  have hg8_11 : v8_11.toInt = th 43 := hg8_11
  have hg9_11 : v9_11.toInt = th 35 := hg9_11
  have hg13_11 : v13_11.toInt = th 36 := hg13_11
  have hg14_11 : v14_11.toInt = th 10 := hg14_11
  have hg15_11 : v15_11.toInt = th 11 := hg15_11
  have hg17_11 : v17_11.toInt = th 12 := hg17_11
  have hg20_11 : v20_11.toInt = th 14 := hg20_11
  have hg23_11 : v23_11.toInt = th 15 := hg23_11
  have hg36_11 : v36_11.toInt = th 18 := hg36_11
  have hg47_11 : v47_11.toInt = th 16 := hg47_11
  have hg48_11 : v48_11.toInt = th 17 := hg48_11
  have hg53_11 : v53_11.toInt = th 38 := hg53_11
  have hg55_11 : v55_11.toInt = th 39 := hg55_11
  refine pl_get (v := .int v6_11) hx hb hts (fun w h => mT (inX11 w h)) hown hG.1 hP (hst.1 255 (by decide)) hf12 rfl 6 (by decide) (hts _ (mT wg_1342)) (fun _ h => h) rfl dX11_digit_5 ?_
  refine lv_iconst (v := 1) hx hb dX11_digit_8 (by decide) ?_
  have hJ28 : ∀ (H : Heap) (locs : List Loc) (ls : Array Slot), va_P g.1 vwCl (va_pl L f5) H → va_D A (va_pl L f5) → va_S A s.heap H locs → lv_has ls 3 [(0, .ref (ad 255)), (1, .int 3), (2, .int 9)] → W p l e rm_X11_digit_3_9 s m [.ref (ad 255), .int 3, .int 9].toArray below meth c H locs 0 0 (MQ below (va_Qi (po_X11_digit_3_9 g ad th L f ) (PstB g A) A) [.ref (ad 255), .int 3, .int 9].toArray s rm_X11_digit_3_9.cells rm_X11_digit_3_9.slots A) (F0 m 28 ls []) := by
    intro H locs ls hP hD hS hl
    refine lv_aload_n hx hb dX11_digit_28 rfl (lv_at hl 0 rfl) ?_
    refine lv_aload_n hx hb dX11_digit_29 rfl (lv_at hl 0 rfl) ?_
    refine pl_get (v := .int v5_11) hx hb hts (fun w h => mT (inX11 w h)) hown hG.1 hP (hst.1 255 (by decide)) hf12 rfl 5 (by decide) (hts _ (mT wg_1341)) (fun _ h => h) rfl dX11_digit_30 ?_
    refine call_v (run_V (rm := rm_X11_fails) hx hb hml hown hts (s_X11_fails l g ad (gset (gset (gset th 37 zz8) 40 zz9) 41 zz10) _ _ _ v5_11 hst hT hv5_11) cV_X11_fails wg_1545 ⟨Nat.le_of_ble_eq_true rfl, Nat.le_of_ble_eq_true rfl⟩ hG hE hA hP hD hS (hst.1 255 (by decide)) hf12 rfl rfl hl.1 (As := [.int v5_11]) (rest := []) rfl (Nat.le_of_ble_eq_true rfl) dX11_digit_33 ⟨Nat.le_of_ble_eq_true rfl, Nat.le_of_ble_eq_true rfl⟩) hA hD hS (fun L14 f15 H locs hp16 hP hD hS => ?_)
    obtain ⟨eL17L, eL17T, eL17F⟩ := hp16
    have eL17L : L14 = L := eL17L
    rw [eL17L] at hP hD
    obtain ⟨zz18, hzz18, eL17T⟩ := eL17T
    have hT : TI g ad (gset (gset (gset (gset th 37 zz8) 40 zz9) 41 zz10) 42 zz18) f15 := eL17T
    have eL17F : ∀ b, b ≠ (ad 255) → f15 b = f5 b := eL17F
    have hfr : (∀ b, b ≠ (ad 255) → f15 b = f b) := fun b z0_ => (eL17F b z0_).trans (hfr b z0_)
    refine lv_iload_n hx hb dX11_digit_36 rfl (lv_at hl 1 rfl) ?_
    exact ret_i (ty := .int) hx hb hr hlocks (rfl) hP hD hS (Nat.le_of_ble_eq_true rfl) (Nat.le_of_ble_eq_true rfl) (⟨rfl, ⟨zz8, zz9, zz10, zz18, (show (th 37 ≤ zz9 ∧ 0 ≤ zz9 ∧ 0 ≤ zz10 ∧ zz9 + zz10 = zz8 ∧ zz8 ≤ 500) from (by have oc3 : (3 : Int32).toInt = 3 := (by decide); omega)), TI.cast hT (by funext q; simp only [gset]; (repeat' split); all_goals first | rfl | omega | (subst_vars; rfl) | (exfalso; omega))⟩, hfr, (⟨by decide, by decide⟩ : In 3 3 9)⟩) dX11_digit_37
  refine lv_icmp_ne (tgt := 28) hx hb dX11_digit_9 (by decide) (fun c19 => ?_) (fun c19 => ?_)
  ·
    have oc1 : (1 : Int32).toInt = 1 := by decide
    have cc20 : v6_11.toInt ≠ (1 : Int32).toInt := i32_ne c19
    exact hJ28 _ _ _ hP hD hS (lv_sub hl [0, 1, 2] rfl)
  ·
    have oc1 : (1 : Int32).toInt = 1 := by decide
    have cc21 : v6_11.toInt = (1 : Int32).toInt := congrArg Int32.toInt c19
    have hb22 : In v6_11 1 1 := In.eq1 hv6_11 (⟨by decide, by decide⟩ : In 1 1 1) cc21 (by omega) (by omega)
    refine lv_aload_n hx hb dX11_digit_12 rfl (lv_at hl 0 rfl) ?_
    refine lv_iconst (v := 0) hx hb dX11_digit_13 (by decide) ?_
    refine call_i (run_V (rm := rm_X11_digitAt) hx hb hml hown hts (s_X11_digitAt l g ad (gset (gset (gset th 37 zz8) 40 zz9) 41 zz10) _ _ _ 0 hst hT (⟨by decide, by decide⟩ : In 0 0 499) (show zz9 + (0 : Int32).toInt < 500 from (by have oc0 : (0 : Int32).toInt = 0 := (by decide); obtain ⟨o0a, o0b⟩ := (hv2_11 : In _ _ _); obtain ⟨o1a, o1b⟩ := (hv3_11 : In _ _ _); obtain ⟨o2a, o2b⟩ := (hv4_11 : In _ _ _); obtain ⟨o3a, o3b⟩ := (hv5_11 : In _ _ _); obtain ⟨o4a, o4b⟩ := (hb22 : In _ _ _); obtain ⟨o5a, o5b⟩ := (hv8_11 : In _ _ _); obtain ⟨o6a, o6b⟩ := (hv9_11 : In _ _ _); obtain ⟨o7a, o7b⟩ := (hv13_11 : In _ _ _); obtain ⟨o8a, o8b⟩ := (hv14_11 : In _ _ _); obtain ⟨o9a, o9b⟩ := (hv15_11 : In _ _ _); obtain ⟨o10a, o10b⟩ := (hv17_11 : In _ _ _); obtain ⟨o11a, o11b⟩ := (hv20_11 : In _ _ _); obtain ⟨o12a, o12b⟩ := (hv23_11 : In _ _ _); obtain ⟨o13a, o13b⟩ := (hv36_11 : In _ _ _); obtain ⟨o14a, o14b⟩ := (hv47_11 : In _ _ _); obtain ⟨o15a, o15b⟩ := (hv48_11 : In _ _ _); obtain ⟨o16a, o16b⟩ := (hv53_11 : In _ _ _); obtain ⟨o17a, o17b⟩ := (hv55_11 : In _ _ _); omega))) cV_X11_digitAt wg_1577 ⟨Nat.le_of_ble_eq_true rfl, Nat.le_of_ble_eq_true rfl⟩ hG hE hA hP hD hS (hst.1 255 (by decide)) hf12 rfl rfl hl.1 (As := [.int 0]) (rest := []) rfl (Nat.le_of_ble_eq_true rfl) dX11_digit_14 ⟨Nat.le_of_ble_eq_true rfl, Nat.le_of_ble_eq_true rfl⟩) hA hD hS (fun r23 L24 f25 H locs hp26 hP hD hS => ?_)
    obtain ⟨eL27L, eL27T, eL27R, eL27X0⟩ := hp26
    have eL27L : L24 = L := eL27L
    have eL27T : f25 = f5 := eL27T
    rw [eL27L, eL27T] at hP hD
    have eL27R : In r23 (-176) 79 := eL27R
    obtain ⟨rw28, hf29, hc30⟩ := hT.2.2 1 (by decide)
    have hda31 : r23.toInt = (rw28 (zz9 + 0).toNat).toInt - 48 := (eL27X0 _ hf29)
    refine lv_i2l hx hb dX11_digit_17 rfl ?_
    refine lv_iload_n hx hb dX11_digit_18 rfl (lv_at hl 1 rfl) ?_
    refine lv_i2l (v := 3) hx hb dX11_digit_19 (by decide) ?_
    refine lv_iload_n hx hb dX11_digit_20 rfl (lv_at hl 2 rfl) ?_
    refine lv_i2l (v := 9) hx hb dX11_digit_21 (by decide) ?_
    refine call_i (run_S (rm := rm_X11_isIn) hx hb hml hown hts (s_X11_isIn l g ad (gset (gset (gset th 37 zz8) 40 zz9) 41 zz10) _ _ _ (r23.toInt64) 3 9 hst hT ) cS_X11_isIn wg_1581 ⟨Nat.le_of_ble_eq_true rfl, Nat.le_of_ble_eq_true rfl⟩ hG hE hA hP hD hS rfl hl.1 (As := [.long (r23.toInt64), .long 3, .long 9]) (rest := []) rfl (Nat.le_of_ble_eq_true rfl) dX11_digit_22 ⟨Nat.le_of_ble_eq_true rfl, Nat.le_of_ble_eq_true rfl⟩) hA hD hS (fun r32 L33 f34 H locs hp35 hP hD hS => ?_)
    obtain ⟨eL36L, eL36T, eL36R, eL36X0, eL36X1⟩ := hp35
    have eL36L : L33 = L := eL36L
    have eL36T : f34 = f5 := eL36T
    rw [eL36L, eL36T] at hP hD
    have eL36R : In r32 0 1 := eL36R
    have hii37 : r32.toInt = 0 ∨ (3 ≤ r23.toInt ∧ r23.toInt ≤ 9) := by have z := eL36X0; rw [i2l_t r23, (by decide : (3 : Int64).toInt = 3), (by decide : (9 : Int64).toInt = 9)] at z; exact z
    have hii37w : ¬ r32 = 0 → In r23 3 9 := fun c => by have c2 := i32_ne c; have e0 : (0 : Int32).toInt = 0 := (by decide); exact ⟨by omega, by omega⟩
    refine lv_if_ne (tgt := 38) hx hb dX11_digit_25 (by decide) (fun c38 => ?_) (fun c38 => ?_)
    ·
      have oc0 : (0 : Int32).toInt = 0 := by decide
      have cc39 : r32.toInt ≠ (0 : Int32).toInt := i32_ne c38
      have hb40 : In r32 1 1 := In.ne1 eL36R (⟨by decide, by decide⟩ : In 0 0 0) cc39 (by omega) (by omega)
      have hb41 : In r23 3 9 := In.both (hii37w c38) eL27R (by decide) (by decide)
      refine lv_aload_n hx hb dX11_digit_38 rfl (lv_at hl 0 rfl) ?_
      refine lv_iconst (v := 0) hx hb dX11_digit_39 (by decide) ?_
      refine call_i (run_V (rm := rm_X11_digitAt) hx hb hml hown hts (s_X11_digitAt l g ad (gset (gset (gset th 37 zz8) 40 zz9) 41 zz10) _ _ _ 0 hst hT (⟨by decide, by decide⟩ : In 0 0 499) (show zz9 + (0 : Int32).toInt < 500 from (by have oc0 : (0 : Int32).toInt = 0 := (by decide); obtain ⟨o0a, o0b⟩ := (hv2_11 : In _ _ _); obtain ⟨o1a, o1b⟩ := (hv3_11 : In _ _ _); obtain ⟨o2a, o2b⟩ := (hv4_11 : In _ _ _); obtain ⟨o3a, o3b⟩ := (hv5_11 : In _ _ _); obtain ⟨o4a, o4b⟩ := (hb22 : In _ _ _); obtain ⟨o5a, o5b⟩ := (hv8_11 : In _ _ _); obtain ⟨o6a, o6b⟩ := (hv9_11 : In _ _ _); obtain ⟨o7a, o7b⟩ := (hv13_11 : In _ _ _); obtain ⟨o8a, o8b⟩ := (hv14_11 : In _ _ _); obtain ⟨o9a, o9b⟩ := (hv15_11 : In _ _ _); obtain ⟨o10a, o10b⟩ := (hv17_11 : In _ _ _); obtain ⟨o11a, o11b⟩ := (hv20_11 : In _ _ _); obtain ⟨o12a, o12b⟩ := (hv23_11 : In _ _ _); obtain ⟨o13a, o13b⟩ := (hv36_11 : In _ _ _); obtain ⟨o14a, o14b⟩ := (hv47_11 : In _ _ _); obtain ⟨o15a, o15b⟩ := (hv48_11 : In _ _ _); obtain ⟨o16a, o16b⟩ := (hv53_11 : In _ _ _); obtain ⟨o17a, o17b⟩ := (hv55_11 : In _ _ _); omega))) cV_X11_digitAt wg_1577 ⟨Nat.le_of_ble_eq_true rfl, Nat.le_of_ble_eq_true rfl⟩ hG hE hA hP hD hS (hst.1 255 (by decide)) hf12 rfl rfl hl.1 (As := [.int 0]) (rest := []) rfl (Nat.le_of_ble_eq_true rfl) dX11_digit_40 ⟨Nat.le_of_ble_eq_true rfl, Nat.le_of_ble_eq_true rfl⟩) hA hD hS (fun r42 L43 f44 H locs hp45 hP hD hS => ?_)
      obtain ⟨eL46L, eL46T, eL46R, eL46X0⟩ := hp45
      have eL46L : L43 = L := eL46L
      have eL46T : f44 = f5 := eL46T
      rw [eL46L, eL46T] at hP hD
      have eL46R : In r42 (-176) 79 := eL46R
      have hda47 : r42.toInt = (rw28 (zz9 + 0).toNat).toInt - 48 := (eL46X0 _ hf29)
      exact ret_i (ty := .int) hx hb hr hlocks (rfl) hP hD hS (Nat.le_of_ble_eq_true rfl) (Nat.le_of_ble_eq_true rfl) (⟨rfl, ⟨zz8, zz9, zz10, (th 42), (show (th 37 ≤ zz9 ∧ 0 ≤ zz9 ∧ 0 ≤ zz10 ∧ zz9 + zz10 = zz8 ∧ zz8 ≤ 500) from (by obtain ⟨o0a, o0b⟩ := (eL46R : In _ _ _); obtain ⟨o1a, o1b⟩ := (hv2_11 : In _ _ _); obtain ⟨o2a, o2b⟩ := (hv3_11 : In _ _ _); obtain ⟨o3a, o3b⟩ := (hv4_11 : In _ _ _); obtain ⟨o4a, o4b⟩ := (hv5_11 : In _ _ _); obtain ⟨o5a, o5b⟩ := (hb22 : In _ _ _); obtain ⟨o6a, o6b⟩ := (hv8_11 : In _ _ _); obtain ⟨o7a, o7b⟩ := (hv9_11 : In _ _ _); obtain ⟨o8a, o8b⟩ := (hv13_11 : In _ _ _); obtain ⟨o9a, o9b⟩ := (hv14_11 : In _ _ _); obtain ⟨o10a, o10b⟩ := (hv15_11 : In _ _ _); obtain ⟨o11a, o11b⟩ := (hv17_11 : In _ _ _); obtain ⟨o12a, o12b⟩ := (hv20_11 : In _ _ _); obtain ⟨o13a, o13b⟩ := (hv23_11 : In _ _ _); obtain ⟨o14a, o14b⟩ := (hv36_11 : In _ _ _); obtain ⟨o15a, o15b⟩ := (hv47_11 : In _ _ _); obtain ⟨o16a, o16b⟩ := (hv48_11 : In _ _ _); obtain ⟨o17a, o17b⟩ := (hv53_11 : In _ _ _); obtain ⟨o18a, o18b⟩ := (hv55_11 : In _ _ _); omega)), TI.cast hT (by funext q; simp only [gset]; (repeat' split); all_goals first | rfl | omega | (subst_vars; rfl) | (exfalso; omega))⟩, hfr, (In.mk (by obtain ⟨o0a, o0b⟩ := (eL46R : In _ _ _); obtain ⟨o1a, o1b⟩ := (hv2_11 : In _ _ _); obtain ⟨o2a, o2b⟩ := (hv3_11 : In _ _ _); obtain ⟨o3a, o3b⟩ := (hv4_11 : In _ _ _); obtain ⟨o4a, o4b⟩ := (hv5_11 : In _ _ _); obtain ⟨o5a, o5b⟩ := (hb22 : In _ _ _); obtain ⟨o6a, o6b⟩ := (hv8_11 : In _ _ _); obtain ⟨o7a, o7b⟩ := (hv9_11 : In _ _ _); obtain ⟨o8a, o8b⟩ := (hv13_11 : In _ _ _); obtain ⟨o9a, o9b⟩ := (hv14_11 : In _ _ _); obtain ⟨o10a, o10b⟩ := (hv15_11 : In _ _ _); obtain ⟨o11a, o11b⟩ := (hv17_11 : In _ _ _); obtain ⟨o12a, o12b⟩ := (hv20_11 : In _ _ _); obtain ⟨o13a, o13b⟩ := (hv23_11 : In _ _ _); obtain ⟨o14a, o14b⟩ := (hv36_11 : In _ _ _); obtain ⟨o15a, o15b⟩ := (hv47_11 : In _ _ _); obtain ⟨o16a, o16b⟩ := (hv48_11 : In _ _ _); obtain ⟨o17a, o17b⟩ := (hv53_11 : In _ _ _); obtain ⟨o18a, o18b⟩ := (hv55_11 : In _ _ _); omega) (by obtain ⟨o0a, o0b⟩ := (eL46R : In _ _ _); obtain ⟨o1a, o1b⟩ := (hv2_11 : In _ _ _); obtain ⟨o2a, o2b⟩ := (hv3_11 : In _ _ _); obtain ⟨o3a, o3b⟩ := (hv4_11 : In _ _ _); obtain ⟨o4a, o4b⟩ := (hv5_11 : In _ _ _); obtain ⟨o5a, o5b⟩ := (hb22 : In _ _ _); obtain ⟨o6a, o6b⟩ := (hv8_11 : In _ _ _); obtain ⟨o7a, o7b⟩ := (hv9_11 : In _ _ _); obtain ⟨o8a, o8b⟩ := (hv13_11 : In _ _ _); obtain ⟨o9a, o9b⟩ := (hv14_11 : In _ _ _); obtain ⟨o10a, o10b⟩ := (hv15_11 : In _ _ _); obtain ⟨o11a, o11b⟩ := (hv17_11 : In _ _ _); obtain ⟨o12a, o12b⟩ := (hv20_11 : In _ _ _); obtain ⟨o13a, o13b⟩ := (hv23_11 : In _ _ _); obtain ⟨o14a, o14b⟩ := (hv36_11 : In _ _ _); obtain ⟨o15a, o15b⟩ := (hv47_11 : In _ _ _); obtain ⟨o16a, o16b⟩ := (hv48_11 : In _ _ _); obtain ⟨o17a, o17b⟩ := (hv53_11 : In _ _ _); obtain ⟨o18a, o18b⟩ := (hv55_11 : In _ _ _); omega))⟩) dX11_digit_43
    ·
      have oc0 : (0 : Int32).toInt = 0 := by decide
      have cc48 : r32.toInt = (0 : Int32).toInt := congrArg Int32.toInt c38
      have hb49 : In r32 0 0 := In.eq1 eL36R (⟨by decide, by decide⟩ : In 0 0 0) cc48 (by omega) (by omega)
      exact hJ28 _ _ _ hP hD hS (lv_sub hl [0, 1, 2] rfl)

abbrev rm_X11_digit_0_4 : Room := { frames := 3, cells := 0, slots := 0, locals := 61 }
abbrev po_X11_digit_0_4 (g : GG) (ad : Nat → Nat) (th : Nat → Int) (L : List Nat) (f : HP)  : Int32 → (List Nat × HP) → Prop := fun r u => u.1 = L ∧ (∃ za zr zl ze : Int, ((th 37 ≤ zr ∧ 0 ≤ zr ∧ 0 ≤ zl ∧ zr + zl = za ∧ za ≤ 500)) ∧ TI g ad (gset (gset (gset (gset th 37 za) 40 zr) 41 zl) 42 ze) u.2) ∧ (∀ b, b ≠ (ad 255) → u.2 b = f b) ∧ In r 0 4
set_option maxHeartbeats 4000000 in
set_option maxRecDepth 100000 in
theorem s_X11_digit_0_4 (l : Launch) (g : GG) (ad : Nat → Nat) (th : Nat → Int) (L : List Nat) (f : HP) (sz : Nat)  (hst : ST ad L) (hT : TI g ad th f)  : MtI l g yX11_digit cX11_digit 3 (some .int) rm_X11_digit_0_4 [.ref (ad 255), .int 0, .int 4] L f sz (po_X11_digit_0_4 g ad th L f ) := by
  refine MtI.of (by decide +kernel) (Nat.le_of_ble_eq_true rfl) ?_
  intro p e s m below meth c A hEn hP hD hS ls hl
  obtain ⟨hx, hb, hr, hml, hown, hlocks, hts, hG, hA, hE, hnm⟩ := hEn
  have hown : s.vm.findClass "RulerWordModel" = some m.cls := hown
  have hl : lv_has ls 3 [(0, .ref (ad 255)), (1, .int 0), (2, .int 4)] := hl
  have hfr : (∀ b, b ≠ (ad 255) → f b = f b) := fun b z0_ => rfl
  refine lv_aload_n hx hb dX11_digit_0 rfl (lv_at hl 0 rfl) ?_
  obtain ⟨v0_1, v2_1, v3_1, v4_1, v5_1, v6_1, v8_1, v9_1, v12_1, v13_1, v14_1, v15_1, v16_1, v17_1, v18_1, v19_1, v20_1, v21_1, v22_1, v23_1, v25_1, v36_1, v37_1, v38_1, v39_1, v40_1, v45_1, v46_1, v47_1, v48_1, v50_1, v51_1, v53_1, v55_1, hf2, hv0_1, hv2_1, hg2_1, hv3_1, hg3_1, hv4_1, hg4_1, hv5_1, hg5_1, hv6_1, hg6_1, hv8_1, hg8_1, hv9_1, hg9_1, hv12_1, hv13_1, hg13_1, hv14_1, hg14_1, hv15_1, hg15_1, hv17_1, hg17_1, hv20_1, hg20_1, hv23_1, hg23_1, hv25_1, hv36_1, hg36_1, hv47_1, hg47_1, hv48_1, hg48_1, hv53_1, hg53_1, hv55_1, hg55_1, hrel0_1⟩ := hT.2.2 0 (by decide)
  refine call_v (run_V (rm := rm_X11_digits) hx hb hml hown hts (s_X11_digits l g ad th _ _ _  hst hT ) cV_X11_digits wg_1570 ⟨Nat.le_of_ble_eq_true rfl, Nat.le_of_ble_eq_true rfl⟩ hG hE hA hP hD hS (hst.1 255 (by decide)) hf2 rfl rfl hl.1 (As := []) (rest := []) rfl (Nat.le_of_ble_eq_true rfl) dX11_digit_1 ⟨Nat.le_of_ble_eq_true rfl, Nat.le_of_ble_eq_true rfl⟩) hA hD hS (fun L4 f5 H locs hp6 hP hD hS => ?_)
  obtain ⟨eL7L, eL7T, eL7F⟩ := hp6
  have eL7L : L4 = L := eL7L
  rw [eL7L] at hP hD
  obtain ⟨zz8, zz9, zz10, hzz8, eL7T⟩ := eL7T
  have hT : TI g ad (gset (gset (gset th 37 zz8) 40 zz9) 41 zz10) f5 := eL7T
  have eL7F : ∀ b, b ≠ (ad 255) → f5 b = f b := eL7F
  have hfr : (∀ b, b ≠ (ad 255) → f5 b = f b) := fun b z0_ => (eL7F b z0_).trans (hfr b z0_)
  refine lv_aload_n hx hb dX11_digit_4 rfl (lv_at hl 0 rfl) ?_
  obtain ⟨v0_11, v2_11, v3_11, v4_11, v5_11, v6_11, v8_11, v9_11, v12_11, v13_11, v14_11, v15_11, v16_11, v17_11, v18_11, v19_11, v20_11, v21_11, v22_11, v23_11, v25_11, v36_11, v37_11, v38_11, v39_11, v40_11, v45_11, v46_11, v47_11, v48_11, v50_11, v51_11, v53_11, v55_11, hf12, hv0_11, hv2_11, hg2_11, hv3_11, hg3_11, hv4_11, hg4_11, hv5_11, hg5_11, hv6_11, hg6_11, hv8_11, hg8_11, hv9_11, hg9_11, hv12_11, hv13_11, hg13_11, hv14_11, hg14_11, hv15_11, hg15_11, hv17_11, hg17_11, hv20_11, hg20_11, hv23_11, hg23_11, hv25_11, hv36_11, hg36_11, hv47_11, hg47_11, hv48_11, hg48_11, hv53_11, hg53_11, hv55_11, hg55_11, hrel0_11⟩ := hT.2.2 0 (by decide)
  have hg2_11 : v2_11.toInt = th 13 := hg2_11
  have hg3_11 : v3_11.toInt = zz8 := hg3_11
  have hg4_11 : v4_11.toInt = th 42 := hg4_11
  have hg5_11 : v5_11.toInt = zz9 := hg5_11
  have hg6_11 : v6_11.toInt = zz10 := hg6_11
  have hg8_11 : v8_11.toInt = th 43 := hg8_11
  have hg9_11 : v9_11.toInt = th 35 := hg9_11
  have hg13_11 : v13_11.toInt = th 36 := hg13_11
  have hg14_11 : v14_11.toInt = th 10 := hg14_11
  have hg15_11 : v15_11.toInt = th 11 := hg15_11
  have hg17_11 : v17_11.toInt = th 12 := hg17_11
  have hg20_11 : v20_11.toInt = th 14 := hg20_11
  have hg23_11 : v23_11.toInt = th 15 := hg23_11
  have hg36_11 : v36_11.toInt = th 18 := hg36_11
  have hg47_11 : v47_11.toInt = th 16 := hg47_11
  have hg48_11 : v48_11.toInt = th 17 := hg48_11
  have hg53_11 : v53_11.toInt = th 38 := hg53_11
  have hg55_11 : v55_11.toInt = th 39 := hg55_11
  refine pl_get (v := .int v6_11) hx hb hts (fun w h => mT (inX11 w h)) hown hG.1 hP (hst.1 255 (by decide)) hf12 rfl 6 (by decide) (hts _ (mT wg_1342)) (fun _ h => h) rfl dX11_digit_5 ?_
  refine lv_iconst (v := 1) hx hb dX11_digit_8 (by decide) ?_
  have hJ28 : ∀ (H : Heap) (locs : List Loc) (ls : Array Slot), va_P g.1 vwCl (va_pl L f5) H → va_D A (va_pl L f5) → va_S A s.heap H locs → lv_has ls 3 [(0, .ref (ad 255)), (1, .int 0), (2, .int 4)] → W p l e rm_X11_digit_0_4 s m [.ref (ad 255), .int 0, .int 4].toArray below meth c H locs 0 0 (MQ below (va_Qi (po_X11_digit_0_4 g ad th L f ) (PstB g A) A) [.ref (ad 255), .int 0, .int 4].toArray s rm_X11_digit_0_4.cells rm_X11_digit_0_4.slots A) (F0 m 28 ls []) := by
    intro H locs ls hP hD hS hl
    refine lv_aload_n hx hb dX11_digit_28 rfl (lv_at hl 0 rfl) ?_
    refine lv_aload_n hx hb dX11_digit_29 rfl (lv_at hl 0 rfl) ?_
    refine pl_get (v := .int v5_11) hx hb hts (fun w h => mT (inX11 w h)) hown hG.1 hP (hst.1 255 (by decide)) hf12 rfl 5 (by decide) (hts _ (mT wg_1341)) (fun _ h => h) rfl dX11_digit_30 ?_
    refine call_v (run_V (rm := rm_X11_fails) hx hb hml hown hts (s_X11_fails l g ad (gset (gset (gset th 37 zz8) 40 zz9) 41 zz10) _ _ _ v5_11 hst hT hv5_11) cV_X11_fails wg_1545 ⟨Nat.le_of_ble_eq_true rfl, Nat.le_of_ble_eq_true rfl⟩ hG hE hA hP hD hS (hst.1 255 (by decide)) hf12 rfl rfl hl.1 (As := [.int v5_11]) (rest := []) rfl (Nat.le_of_ble_eq_true rfl) dX11_digit_33 ⟨Nat.le_of_ble_eq_true rfl, Nat.le_of_ble_eq_true rfl⟩) hA hD hS (fun L14 f15 H locs hp16 hP hD hS => ?_)
    obtain ⟨eL17L, eL17T, eL17F⟩ := hp16
    have eL17L : L14 = L := eL17L
    rw [eL17L] at hP hD
    obtain ⟨zz18, hzz18, eL17T⟩ := eL17T
    have hT : TI g ad (gset (gset (gset (gset th 37 zz8) 40 zz9) 41 zz10) 42 zz18) f15 := eL17T
    have eL17F : ∀ b, b ≠ (ad 255) → f15 b = f5 b := eL17F
    have hfr : (∀ b, b ≠ (ad 255) → f15 b = f b) := fun b z0_ => (eL17F b z0_).trans (hfr b z0_)
    refine lv_iload_n hx hb dX11_digit_36 rfl (lv_at hl 1 rfl) ?_
    exact ret_i (ty := .int) hx hb hr hlocks (rfl) hP hD hS (Nat.le_of_ble_eq_true rfl) (Nat.le_of_ble_eq_true rfl) (⟨rfl, ⟨zz8, zz9, zz10, zz18, (show (th 37 ≤ zz9 ∧ 0 ≤ zz9 ∧ 0 ≤ zz10 ∧ zz9 + zz10 = zz8 ∧ zz8 ≤ 500) from (by have oc0 : (0 : Int32).toInt = 0 := (by decide); omega)), TI.cast hT (by funext q; simp only [gset]; (repeat' split); all_goals first | rfl | omega | (subst_vars; rfl) | (exfalso; omega))⟩, hfr, (⟨by decide, by decide⟩ : In 0 0 4)⟩) dX11_digit_37
  refine lv_icmp_ne (tgt := 28) hx hb dX11_digit_9 (by decide) (fun c19 => ?_) (fun c19 => ?_)
  ·
    have oc1 : (1 : Int32).toInt = 1 := by decide
    have cc20 : v6_11.toInt ≠ (1 : Int32).toInt := i32_ne c19
    exact hJ28 _ _ _ hP hD hS (lv_sub hl [0, 1, 2] rfl)
  ·
    have oc1 : (1 : Int32).toInt = 1 := by decide
    have cc21 : v6_11.toInt = (1 : Int32).toInt := congrArg Int32.toInt c19
    have hb22 : In v6_11 1 1 := In.eq1 hv6_11 (⟨by decide, by decide⟩ : In 1 1 1) cc21 (by omega) (by omega)
    refine lv_aload_n hx hb dX11_digit_12 rfl (lv_at hl 0 rfl) ?_
    refine lv_iconst (v := 0) hx hb dX11_digit_13 (by decide) ?_
    refine call_i (run_V (rm := rm_X11_digitAt) hx hb hml hown hts (s_X11_digitAt l g ad (gset (gset (gset th 37 zz8) 40 zz9) 41 zz10) _ _ _ 0 hst hT (⟨by decide, by decide⟩ : In 0 0 499) (show zz9 + (0 : Int32).toInt < 500 from (by have oc0 : (0 : Int32).toInt = 0 := (by decide); obtain ⟨o0a, o0b⟩ := (hv2_11 : In _ _ _); obtain ⟨o1a, o1b⟩ := (hv3_11 : In _ _ _); obtain ⟨o2a, o2b⟩ := (hv4_11 : In _ _ _); obtain ⟨o3a, o3b⟩ := (hv5_11 : In _ _ _); obtain ⟨o4a, o4b⟩ := (hb22 : In _ _ _); obtain ⟨o5a, o5b⟩ := (hv8_11 : In _ _ _); obtain ⟨o6a, o6b⟩ := (hv9_11 : In _ _ _); obtain ⟨o7a, o7b⟩ := (hv13_11 : In _ _ _); obtain ⟨o8a, o8b⟩ := (hv14_11 : In _ _ _); obtain ⟨o9a, o9b⟩ := (hv15_11 : In _ _ _); obtain ⟨o10a, o10b⟩ := (hv17_11 : In _ _ _); obtain ⟨o11a, o11b⟩ := (hv20_11 : In _ _ _); obtain ⟨o12a, o12b⟩ := (hv23_11 : In _ _ _); obtain ⟨o13a, o13b⟩ := (hv36_11 : In _ _ _); obtain ⟨o14a, o14b⟩ := (hv47_11 : In _ _ _); obtain ⟨o15a, o15b⟩ := (hv48_11 : In _ _ _); obtain ⟨o16a, o16b⟩ := (hv53_11 : In _ _ _); obtain ⟨o17a, o17b⟩ := (hv55_11 : In _ _ _); omega))) cV_X11_digitAt wg_1577 ⟨Nat.le_of_ble_eq_true rfl, Nat.le_of_ble_eq_true rfl⟩ hG hE hA hP hD hS (hst.1 255 (by decide)) hf12 rfl rfl hl.1 (As := [.int 0]) (rest := []) rfl (Nat.le_of_ble_eq_true rfl) dX11_digit_14 ⟨Nat.le_of_ble_eq_true rfl, Nat.le_of_ble_eq_true rfl⟩) hA hD hS (fun r23 L24 f25 H locs hp26 hP hD hS => ?_)
    obtain ⟨eL27L, eL27T, eL27R, eL27X0⟩ := hp26
    have eL27L : L24 = L := eL27L
    have eL27T : f25 = f5 := eL27T
    rw [eL27L, eL27T] at hP hD
    have eL27R : In r23 (-176) 79 := eL27R
    obtain ⟨rw28, hf29, hc30⟩ := hT.2.2 1 (by decide)
    have hda31 : r23.toInt = (rw28 (zz9 + 0).toNat).toInt - 48 := (eL27X0 _ hf29)
    refine lv_i2l hx hb dX11_digit_17 rfl ?_
    refine lv_iload_n hx hb dX11_digit_18 rfl (lv_at hl 1 rfl) ?_
    refine lv_i2l (v := 0) hx hb dX11_digit_19 (by decide) ?_
    refine lv_iload_n hx hb dX11_digit_20 rfl (lv_at hl 2 rfl) ?_
    refine lv_i2l (v := 4) hx hb dX11_digit_21 (by decide) ?_
    refine call_i (run_S (rm := rm_X11_isIn) hx hb hml hown hts (s_X11_isIn l g ad (gset (gset (gset th 37 zz8) 40 zz9) 41 zz10) _ _ _ (r23.toInt64) 0 4 hst hT ) cS_X11_isIn wg_1581 ⟨Nat.le_of_ble_eq_true rfl, Nat.le_of_ble_eq_true rfl⟩ hG hE hA hP hD hS rfl hl.1 (As := [.long (r23.toInt64), .long 0, .long 4]) (rest := []) rfl (Nat.le_of_ble_eq_true rfl) dX11_digit_22 ⟨Nat.le_of_ble_eq_true rfl, Nat.le_of_ble_eq_true rfl⟩) hA hD hS (fun r32 L33 f34 H locs hp35 hP hD hS => ?_)
    obtain ⟨eL36L, eL36T, eL36R, eL36X0, eL36X1⟩ := hp35
    have eL36L : L33 = L := eL36L
    have eL36T : f34 = f5 := eL36T
    rw [eL36L, eL36T] at hP hD
    have eL36R : In r32 0 1 := eL36R
    have hii37 : r32.toInt = 0 ∨ (0 ≤ r23.toInt ∧ r23.toInt ≤ 4) := by have z := eL36X0; rw [i2l_t r23, (by decide : (0 : Int64).toInt = 0), (by decide : (4 : Int64).toInt = 4)] at z; exact z
    have hii37w : ¬ r32 = 0 → In r23 0 4 := fun c => by have c2 := i32_ne c; have e0 : (0 : Int32).toInt = 0 := (by decide); exact ⟨by omega, by omega⟩
    refine lv_if_ne (tgt := 38) hx hb dX11_digit_25 (by decide) (fun c38 => ?_) (fun c38 => ?_)
    ·
      have oc0 : (0 : Int32).toInt = 0 := by decide
      have cc39 : r32.toInt ≠ (0 : Int32).toInt := i32_ne c38
      have hb40 : In r32 1 1 := In.ne1 eL36R (⟨by decide, by decide⟩ : In 0 0 0) cc39 (by omega) (by omega)
      have hb41 : In r23 0 4 := In.both (hii37w c38) eL27R (by decide) (by decide)
      refine lv_aload_n hx hb dX11_digit_38 rfl (lv_at hl 0 rfl) ?_
      refine lv_iconst (v := 0) hx hb dX11_digit_39 (by decide) ?_
      refine call_i (run_V (rm := rm_X11_digitAt) hx hb hml hown hts (s_X11_digitAt l g ad (gset (gset (gset th 37 zz8) 40 zz9) 41 zz10) _ _ _ 0 hst hT (⟨by decide, by decide⟩ : In 0 0 499) (show zz9 + (0 : Int32).toInt < 500 from (by have oc0 : (0 : Int32).toInt = 0 := (by decide); obtain ⟨o0a, o0b⟩ := (hv2_11 : In _ _ _); obtain ⟨o1a, o1b⟩ := (hv3_11 : In _ _ _); obtain ⟨o2a, o2b⟩ := (hv4_11 : In _ _ _); obtain ⟨o3a, o3b⟩ := (hv5_11 : In _ _ _); obtain ⟨o4a, o4b⟩ := (hb22 : In _ _ _); obtain ⟨o5a, o5b⟩ := (hv8_11 : In _ _ _); obtain ⟨o6a, o6b⟩ := (hv9_11 : In _ _ _); obtain ⟨o7a, o7b⟩ := (hv13_11 : In _ _ _); obtain ⟨o8a, o8b⟩ := (hv14_11 : In _ _ _); obtain ⟨o9a, o9b⟩ := (hv15_11 : In _ _ _); obtain ⟨o10a, o10b⟩ := (hv17_11 : In _ _ _); obtain ⟨o11a, o11b⟩ := (hv20_11 : In _ _ _); obtain ⟨o12a, o12b⟩ := (hv23_11 : In _ _ _); obtain ⟨o13a, o13b⟩ := (hv36_11 : In _ _ _); obtain ⟨o14a, o14b⟩ := (hv47_11 : In _ _ _); obtain ⟨o15a, o15b⟩ := (hv48_11 : In _ _ _); obtain ⟨o16a, o16b⟩ := (hv53_11 : In _ _ _); obtain ⟨o17a, o17b⟩ := (hv55_11 : In _ _ _); omega))) cV_X11_digitAt wg_1577 ⟨Nat.le_of_ble_eq_true rfl, Nat.le_of_ble_eq_true rfl⟩ hG hE hA hP hD hS (hst.1 255 (by decide)) hf12 rfl rfl hl.1 (As := [.int 0]) (rest := []) rfl (Nat.le_of_ble_eq_true rfl) dX11_digit_40 ⟨Nat.le_of_ble_eq_true rfl, Nat.le_of_ble_eq_true rfl⟩) hA hD hS (fun r42 L43 f44 H locs hp45 hP hD hS => ?_)
      obtain ⟨eL46L, eL46T, eL46R, eL46X0⟩ := hp45
      have eL46L : L43 = L := eL46L
      have eL46T : f44 = f5 := eL46T
      rw [eL46L, eL46T] at hP hD
      have eL46R : In r42 (-176) 79 := eL46R
      have hda47 : r42.toInt = (rw28 (zz9 + 0).toNat).toInt - 48 := (eL46X0 _ hf29)
      exact ret_i (ty := .int) hx hb hr hlocks (rfl) hP hD hS (Nat.le_of_ble_eq_true rfl) (Nat.le_of_ble_eq_true rfl) (⟨rfl, ⟨zz8, zz9, zz10, (th 42), (show (th 37 ≤ zz9 ∧ 0 ≤ zz9 ∧ 0 ≤ zz10 ∧ zz9 + zz10 = zz8 ∧ zz8 ≤ 500) from (by obtain ⟨o0a, o0b⟩ := (eL46R : In _ _ _); obtain ⟨o1a, o1b⟩ := (hv2_11 : In _ _ _); obtain ⟨o2a, o2b⟩ := (hv3_11 : In _ _ _); obtain ⟨o3a, o3b⟩ := (hv4_11 : In _ _ _); obtain ⟨o4a, o4b⟩ := (hv5_11 : In _ _ _); obtain ⟨o5a, o5b⟩ := (hb22 : In _ _ _); obtain ⟨o6a, o6b⟩ := (hv8_11 : In _ _ _); obtain ⟨o7a, o7b⟩ := (hv9_11 : In _ _ _); obtain ⟨o8a, o8b⟩ := (hv13_11 : In _ _ _); obtain ⟨o9a, o9b⟩ := (hv14_11 : In _ _ _); obtain ⟨o10a, o10b⟩ := (hv15_11 : In _ _ _); obtain ⟨o11a, o11b⟩ := (hv17_11 : In _ _ _); obtain ⟨o12a, o12b⟩ := (hv20_11 : In _ _ _); obtain ⟨o13a, o13b⟩ := (hv23_11 : In _ _ _); obtain ⟨o14a, o14b⟩ := (hv36_11 : In _ _ _); obtain ⟨o15a, o15b⟩ := (hv47_11 : In _ _ _); obtain ⟨o16a, o16b⟩ := (hv48_11 : In _ _ _); obtain ⟨o17a, o17b⟩ := (hv53_11 : In _ _ _); obtain ⟨o18a, o18b⟩ := (hv55_11 : In _ _ _); omega)), TI.cast hT (by funext q; simp only [gset]; (repeat' split); all_goals first | rfl | omega | (subst_vars; rfl) | (exfalso; omega))⟩, hfr, (In.mk (by obtain ⟨o0a, o0b⟩ := (eL46R : In _ _ _); obtain ⟨o1a, o1b⟩ := (hv2_11 : In _ _ _); obtain ⟨o2a, o2b⟩ := (hv3_11 : In _ _ _); obtain ⟨o3a, o3b⟩ := (hv4_11 : In _ _ _); obtain ⟨o4a, o4b⟩ := (hv5_11 : In _ _ _); obtain ⟨o5a, o5b⟩ := (hb22 : In _ _ _); obtain ⟨o6a, o6b⟩ := (hv8_11 : In _ _ _); obtain ⟨o7a, o7b⟩ := (hv9_11 : In _ _ _); obtain ⟨o8a, o8b⟩ := (hv13_11 : In _ _ _); obtain ⟨o9a, o9b⟩ := (hv14_11 : In _ _ _); obtain ⟨o10a, o10b⟩ := (hv15_11 : In _ _ _); obtain ⟨o11a, o11b⟩ := (hv17_11 : In _ _ _); obtain ⟨o12a, o12b⟩ := (hv20_11 : In _ _ _); obtain ⟨o13a, o13b⟩ := (hv23_11 : In _ _ _); obtain ⟨o14a, o14b⟩ := (hv36_11 : In _ _ _); obtain ⟨o15a, o15b⟩ := (hv47_11 : In _ _ _); obtain ⟨o16a, o16b⟩ := (hv48_11 : In _ _ _); obtain ⟨o17a, o17b⟩ := (hv53_11 : In _ _ _); obtain ⟨o18a, o18b⟩ := (hv55_11 : In _ _ _); omega) (by obtain ⟨o0a, o0b⟩ := (eL46R : In _ _ _); obtain ⟨o1a, o1b⟩ := (hv2_11 : In _ _ _); obtain ⟨o2a, o2b⟩ := (hv3_11 : In _ _ _); obtain ⟨o3a, o3b⟩ := (hv4_11 : In _ _ _); obtain ⟨o4a, o4b⟩ := (hv5_11 : In _ _ _); obtain ⟨o5a, o5b⟩ := (hb22 : In _ _ _); obtain ⟨o6a, o6b⟩ := (hv8_11 : In _ _ _); obtain ⟨o7a, o7b⟩ := (hv9_11 : In _ _ _); obtain ⟨o8a, o8b⟩ := (hv13_11 : In _ _ _); obtain ⟨o9a, o9b⟩ := (hv14_11 : In _ _ _); obtain ⟨o10a, o10b⟩ := (hv15_11 : In _ _ _); obtain ⟨o11a, o11b⟩ := (hv17_11 : In _ _ _); obtain ⟨o12a, o12b⟩ := (hv20_11 : In _ _ _); obtain ⟨o13a, o13b⟩ := (hv23_11 : In _ _ _); obtain ⟨o14a, o14b⟩ := (hv36_11 : In _ _ _); obtain ⟨o15a, o15b⟩ := (hv47_11 : In _ _ _); obtain ⟨o16a, o16b⟩ := (hv48_11 : In _ _ _); obtain ⟨o17a, o17b⟩ := (hv53_11 : In _ _ _); obtain ⟨o18a, o18b⟩ := (hv55_11 : In _ _ _); omega))⟩) dX11_digit_43
    ·
      have oc0 : (0 : Int32).toInt = 0 := by decide
      have cc48 : r32.toInt = (0 : Int32).toInt := congrArg Int32.toInt c38
      have hb49 : In r32 0 0 := In.eq1 eL36R (⟨by decide, by decide⟩ : In 0 0 0) cc48 (by omega) (by omega)
      exact hJ28 _ _ _ hP hD hS (lv_sub hl [0, 1, 2] rfl)

abbrev rm_X11_digit_1_6 : Room := { frames := 3, cells := 0, slots := 0, locals := 61 }
abbrev po_X11_digit_1_6 (g : GG) (ad : Nat → Nat) (th : Nat → Int) (L : List Nat) (f : HP)  : Int32 → (List Nat × HP) → Prop := fun r u => u.1 = L ∧ (∃ za zr zl ze : Int, ((th 37 ≤ zr ∧ 0 ≤ zr ∧ 0 ≤ zl ∧ zr + zl = za ∧ za ≤ 500)) ∧ TI g ad (gset (gset (gset (gset th 37 za) 40 zr) 41 zl) 42 ze) u.2) ∧ (∀ b, b ≠ (ad 255) → u.2 b = f b) ∧ In r 1 6
set_option maxHeartbeats 4000000 in
set_option maxRecDepth 100000 in
theorem s_X11_digit_1_6 (l : Launch) (g : GG) (ad : Nat → Nat) (th : Nat → Int) (L : List Nat) (f : HP) (sz : Nat)  (hst : ST ad L) (hT : TI g ad th f)  : MtI l g yX11_digit cX11_digit 3 (some .int) rm_X11_digit_1_6 [.ref (ad 255), .int 1, .int 6] L f sz (po_X11_digit_1_6 g ad th L f ) := by
  refine MtI.of (by decide +kernel) (Nat.le_of_ble_eq_true rfl) ?_
  intro p e s m below meth c A hEn hP hD hS ls hl
  obtain ⟨hx, hb, hr, hml, hown, hlocks, hts, hG, hA, hE, hnm⟩ := hEn
  have hown : s.vm.findClass "RulerWordModel" = some m.cls := hown
  have hl : lv_has ls 3 [(0, .ref (ad 255)), (1, .int 1), (2, .int 6)] := hl
  have hfr : (∀ b, b ≠ (ad 255) → f b = f b) := fun b z0_ => rfl
  refine lv_aload_n hx hb dX11_digit_0 rfl (lv_at hl 0 rfl) ?_
  obtain ⟨v0_1, v2_1, v3_1, v4_1, v5_1, v6_1, v8_1, v9_1, v12_1, v13_1, v14_1, v15_1, v16_1, v17_1, v18_1, v19_1, v20_1, v21_1, v22_1, v23_1, v25_1, v36_1, v37_1, v38_1, v39_1, v40_1, v45_1, v46_1, v47_1, v48_1, v50_1, v51_1, v53_1, v55_1, hf2, hv0_1, hv2_1, hg2_1, hv3_1, hg3_1, hv4_1, hg4_1, hv5_1, hg5_1, hv6_1, hg6_1, hv8_1, hg8_1, hv9_1, hg9_1, hv12_1, hv13_1, hg13_1, hv14_1, hg14_1, hv15_1, hg15_1, hv17_1, hg17_1, hv20_1, hg20_1, hv23_1, hg23_1, hv25_1, hv36_1, hg36_1, hv47_1, hg47_1, hv48_1, hg48_1, hv53_1, hg53_1, hv55_1, hg55_1, hrel0_1⟩ := hT.2.2 0 (by decide)
  refine call_v (run_V (rm := rm_X11_digits) hx hb hml hown hts (s_X11_digits l g ad th _ _ _  hst hT ) cV_X11_digits wg_1570 ⟨Nat.le_of_ble_eq_true rfl, Nat.le_of_ble_eq_true rfl⟩ hG hE hA hP hD hS (hst.1 255 (by decide)) hf2 rfl rfl hl.1 (As := []) (rest := []) rfl (Nat.le_of_ble_eq_true rfl) dX11_digit_1 ⟨Nat.le_of_ble_eq_true rfl, Nat.le_of_ble_eq_true rfl⟩) hA hD hS (fun L4 f5 H locs hp6 hP hD hS => ?_)
  obtain ⟨eL7L, eL7T, eL7F⟩ := hp6
  have eL7L : L4 = L := eL7L
  rw [eL7L] at hP hD
  obtain ⟨zz8, zz9, zz10, hzz8, eL7T⟩ := eL7T
  have hT : TI g ad (gset (gset (gset th 37 zz8) 40 zz9) 41 zz10) f5 := eL7T
  have eL7F : ∀ b, b ≠ (ad 255) → f5 b = f b := eL7F
  have hfr : (∀ b, b ≠ (ad 255) → f5 b = f b) := fun b z0_ => (eL7F b z0_).trans (hfr b z0_)
  refine lv_aload_n hx hb dX11_digit_4 rfl (lv_at hl 0 rfl) ?_
  obtain ⟨v0_11, v2_11, v3_11, v4_11, v5_11, v6_11, v8_11, v9_11, v12_11, v13_11, v14_11, v15_11, v16_11, v17_11, v18_11, v19_11, v20_11, v21_11, v22_11, v23_11, v25_11, v36_11, v37_11, v38_11, v39_11, v40_11, v45_11, v46_11, v47_11, v48_11, v50_11, v51_11, v53_11, v55_11, hf12, hv0_11, hv2_11, hg2_11, hv3_11, hg3_11, hv4_11, hg4_11, hv5_11, hg5_11, hv6_11, hg6_11, hv8_11, hg8_11, hv9_11, hg9_11, hv12_11, hv13_11, hg13_11, hv14_11, hg14_11, hv15_11, hg15_11, hv17_11, hg17_11, hv20_11, hg20_11, hv23_11, hg23_11, hv25_11, hv36_11, hg36_11, hv47_11, hg47_11, hv48_11, hg48_11, hv53_11, hg53_11, hv55_11, hg55_11, hrel0_11⟩ := hT.2.2 0 (by decide)
  have hg2_11 : v2_11.toInt = th 13 := hg2_11
  have hg3_11 : v3_11.toInt = zz8 := hg3_11
  have hg4_11 : v4_11.toInt = th 42 := hg4_11
  have hg5_11 : v5_11.toInt = zz9 := hg5_11
  have hg6_11 : v6_11.toInt = zz10 := hg6_11
  have hg8_11 : v8_11.toInt = th 43 := hg8_11
  have hg9_11 : v9_11.toInt = th 35 := hg9_11
  have hg13_11 : v13_11.toInt = th 36 := hg13_11
  have hg14_11 : v14_11.toInt = th 10 := hg14_11
  have hg15_11 : v15_11.toInt = th 11 := hg15_11
  have hg17_11 : v17_11.toInt = th 12 := hg17_11
  have hg20_11 : v20_11.toInt = th 14 := hg20_11
  have hg23_11 : v23_11.toInt = th 15 := hg23_11
  have hg36_11 : v36_11.toInt = th 18 := hg36_11
  have hg47_11 : v47_11.toInt = th 16 := hg47_11
  have hg48_11 : v48_11.toInt = th 17 := hg48_11
  have hg53_11 : v53_11.toInt = th 38 := hg53_11
  have hg55_11 : v55_11.toInt = th 39 := hg55_11
  refine pl_get (v := .int v6_11) hx hb hts (fun w h => mT (inX11 w h)) hown hG.1 hP (hst.1 255 (by decide)) hf12 rfl 6 (by decide) (hts _ (mT wg_1342)) (fun _ h => h) rfl dX11_digit_5 ?_
  refine lv_iconst (v := 1) hx hb dX11_digit_8 (by decide) ?_
  have hJ28 : ∀ (H : Heap) (locs : List Loc) (ls : Array Slot), va_P g.1 vwCl (va_pl L f5) H → va_D A (va_pl L f5) → va_S A s.heap H locs → lv_has ls 3 [(0, .ref (ad 255)), (1, .int 1), (2, .int 6)] → W p l e rm_X11_digit_1_6 s m [.ref (ad 255), .int 1, .int 6].toArray below meth c H locs 0 0 (MQ below (va_Qi (po_X11_digit_1_6 g ad th L f ) (PstB g A) A) [.ref (ad 255), .int 1, .int 6].toArray s rm_X11_digit_1_6.cells rm_X11_digit_1_6.slots A) (F0 m 28 ls []) := by
    intro H locs ls hP hD hS hl
    refine lv_aload_n hx hb dX11_digit_28 rfl (lv_at hl 0 rfl) ?_
    refine lv_aload_n hx hb dX11_digit_29 rfl (lv_at hl 0 rfl) ?_
    refine pl_get (v := .int v5_11) hx hb hts (fun w h => mT (inX11 w h)) hown hG.1 hP (hst.1 255 (by decide)) hf12 rfl 5 (by decide) (hts _ (mT wg_1341)) (fun _ h => h) rfl dX11_digit_30 ?_
    refine call_v (run_V (rm := rm_X11_fails) hx hb hml hown hts (s_X11_fails l g ad (gset (gset (gset th 37 zz8) 40 zz9) 41 zz10) _ _ _ v5_11 hst hT hv5_11) cV_X11_fails wg_1545 ⟨Nat.le_of_ble_eq_true rfl, Nat.le_of_ble_eq_true rfl⟩ hG hE hA hP hD hS (hst.1 255 (by decide)) hf12 rfl rfl hl.1 (As := [.int v5_11]) (rest := []) rfl (Nat.le_of_ble_eq_true rfl) dX11_digit_33 ⟨Nat.le_of_ble_eq_true rfl, Nat.le_of_ble_eq_true rfl⟩) hA hD hS (fun L14 f15 H locs hp16 hP hD hS => ?_)
    obtain ⟨eL17L, eL17T, eL17F⟩ := hp16
    have eL17L : L14 = L := eL17L
    rw [eL17L] at hP hD
    obtain ⟨zz18, hzz18, eL17T⟩ := eL17T
    have hT : TI g ad (gset (gset (gset (gset th 37 zz8) 40 zz9) 41 zz10) 42 zz18) f15 := eL17T
    have eL17F : ∀ b, b ≠ (ad 255) → f15 b = f5 b := eL17F
    have hfr : (∀ b, b ≠ (ad 255) → f15 b = f b) := fun b z0_ => (eL17F b z0_).trans (hfr b z0_)
    refine lv_iload_n hx hb dX11_digit_36 rfl (lv_at hl 1 rfl) ?_
    exact ret_i (ty := .int) hx hb hr hlocks (rfl) hP hD hS (Nat.le_of_ble_eq_true rfl) (Nat.le_of_ble_eq_true rfl) (⟨rfl, ⟨zz8, zz9, zz10, zz18, (show (th 37 ≤ zz9 ∧ 0 ≤ zz9 ∧ 0 ≤ zz10 ∧ zz9 + zz10 = zz8 ∧ zz8 ≤ 500) from (by have oc1 : (1 : Int32).toInt = 1 := (by decide); omega)), TI.cast hT (by funext q; simp only [gset]; (repeat' split); all_goals first | rfl | omega | (subst_vars; rfl) | (exfalso; omega))⟩, hfr, (⟨by decide, by decide⟩ : In 1 1 6)⟩) dX11_digit_37
  refine lv_icmp_ne (tgt := 28) hx hb dX11_digit_9 (by decide) (fun c19 => ?_) (fun c19 => ?_)
  ·
    have oc1 : (1 : Int32).toInt = 1 := by decide
    have cc20 : v6_11.toInt ≠ (1 : Int32).toInt := i32_ne c19
    exact hJ28 _ _ _ hP hD hS (lv_sub hl [0, 1, 2] rfl)
  ·
    have oc1 : (1 : Int32).toInt = 1 := by decide
    have cc21 : v6_11.toInt = (1 : Int32).toInt := congrArg Int32.toInt c19
    have hb22 : In v6_11 1 1 := In.eq1 hv6_11 (⟨by decide, by decide⟩ : In 1 1 1) cc21 (by omega) (by omega)
    refine lv_aload_n hx hb dX11_digit_12 rfl (lv_at hl 0 rfl) ?_
    refine lv_iconst (v := 0) hx hb dX11_digit_13 (by decide) ?_
    refine call_i (run_V (rm := rm_X11_digitAt) hx hb hml hown hts (s_X11_digitAt l g ad (gset (gset (gset th 37 zz8) 40 zz9) 41 zz10) _ _ _ 0 hst hT (⟨by decide, by decide⟩ : In 0 0 499) (show zz9 + (0 : Int32).toInt < 500 from (by have oc0 : (0 : Int32).toInt = 0 := (by decide); obtain ⟨o0a, o0b⟩ := (hv2_11 : In _ _ _); obtain ⟨o1a, o1b⟩ := (hv3_11 : In _ _ _); obtain ⟨o2a, o2b⟩ := (hv4_11 : In _ _ _); obtain ⟨o3a, o3b⟩ := (hv5_11 : In _ _ _); obtain ⟨o4a, o4b⟩ := (hb22 : In _ _ _); obtain ⟨o5a, o5b⟩ := (hv8_11 : In _ _ _); obtain ⟨o6a, o6b⟩ := (hv9_11 : In _ _ _); obtain ⟨o7a, o7b⟩ := (hv13_11 : In _ _ _); obtain ⟨o8a, o8b⟩ := (hv14_11 : In _ _ _); obtain ⟨o9a, o9b⟩ := (hv15_11 : In _ _ _); obtain ⟨o10a, o10b⟩ := (hv17_11 : In _ _ _); obtain ⟨o11a, o11b⟩ := (hv20_11 : In _ _ _); obtain ⟨o12a, o12b⟩ := (hv23_11 : In _ _ _); obtain ⟨o13a, o13b⟩ := (hv36_11 : In _ _ _); obtain ⟨o14a, o14b⟩ := (hv47_11 : In _ _ _); obtain ⟨o15a, o15b⟩ := (hv48_11 : In _ _ _); obtain ⟨o16a, o16b⟩ := (hv53_11 : In _ _ _); obtain ⟨o17a, o17b⟩ := (hv55_11 : In _ _ _); omega))) cV_X11_digitAt wg_1577 ⟨Nat.le_of_ble_eq_true rfl, Nat.le_of_ble_eq_true rfl⟩ hG hE hA hP hD hS (hst.1 255 (by decide)) hf12 rfl rfl hl.1 (As := [.int 0]) (rest := []) rfl (Nat.le_of_ble_eq_true rfl) dX11_digit_14 ⟨Nat.le_of_ble_eq_true rfl, Nat.le_of_ble_eq_true rfl⟩) hA hD hS (fun r23 L24 f25 H locs hp26 hP hD hS => ?_)
    obtain ⟨eL27L, eL27T, eL27R, eL27X0⟩ := hp26
    have eL27L : L24 = L := eL27L
    have eL27T : f25 = f5 := eL27T
    rw [eL27L, eL27T] at hP hD
    have eL27R : In r23 (-176) 79 := eL27R
    obtain ⟨rw28, hf29, hc30⟩ := hT.2.2 1 (by decide)
    have hda31 : r23.toInt = (rw28 (zz9 + 0).toNat).toInt - 48 := (eL27X0 _ hf29)
    refine lv_i2l hx hb dX11_digit_17 rfl ?_
    refine lv_iload_n hx hb dX11_digit_18 rfl (lv_at hl 1 rfl) ?_
    refine lv_i2l (v := 1) hx hb dX11_digit_19 (by decide) ?_
    refine lv_iload_n hx hb dX11_digit_20 rfl (lv_at hl 2 rfl) ?_
    refine lv_i2l (v := 6) hx hb dX11_digit_21 (by decide) ?_
    refine call_i (run_S (rm := rm_X11_isIn) hx hb hml hown hts (s_X11_isIn l g ad (gset (gset (gset th 37 zz8) 40 zz9) 41 zz10) _ _ _ (r23.toInt64) 1 6 hst hT ) cS_X11_isIn wg_1581 ⟨Nat.le_of_ble_eq_true rfl, Nat.le_of_ble_eq_true rfl⟩ hG hE hA hP hD hS rfl hl.1 (As := [.long (r23.toInt64), .long 1, .long 6]) (rest := []) rfl (Nat.le_of_ble_eq_true rfl) dX11_digit_22 ⟨Nat.le_of_ble_eq_true rfl, Nat.le_of_ble_eq_true rfl⟩) hA hD hS (fun r32 L33 f34 H locs hp35 hP hD hS => ?_)
    obtain ⟨eL36L, eL36T, eL36R, eL36X0, eL36X1⟩ := hp35
    have eL36L : L33 = L := eL36L
    have eL36T : f34 = f5 := eL36T
    rw [eL36L, eL36T] at hP hD
    have eL36R : In r32 0 1 := eL36R
    have hii37 : r32.toInt = 0 ∨ (1 ≤ r23.toInt ∧ r23.toInt ≤ 6) := by have z := eL36X0; rw [i2l_t r23, (by decide : (1 : Int64).toInt = 1), (by decide : (6 : Int64).toInt = 6)] at z; exact z
    have hii37w : ¬ r32 = 0 → In r23 1 6 := fun c => by have c2 := i32_ne c; have e0 : (0 : Int32).toInt = 0 := (by decide); exact ⟨by omega, by omega⟩
    refine lv_if_ne (tgt := 38) hx hb dX11_digit_25 (by decide) (fun c38 => ?_) (fun c38 => ?_)
    ·
      have oc0 : (0 : Int32).toInt = 0 := by decide
      have cc39 : r32.toInt ≠ (0 : Int32).toInt := i32_ne c38
      have hb40 : In r32 1 1 := In.ne1 eL36R (⟨by decide, by decide⟩ : In 0 0 0) cc39 (by omega) (by omega)
      have hb41 : In r23 1 6 := In.both (hii37w c38) eL27R (by decide) (by decide)
      refine lv_aload_n hx hb dX11_digit_38 rfl (lv_at hl 0 rfl) ?_
      refine lv_iconst (v := 0) hx hb dX11_digit_39 (by decide) ?_
      refine call_i (run_V (rm := rm_X11_digitAt) hx hb hml hown hts (s_X11_digitAt l g ad (gset (gset (gset th 37 zz8) 40 zz9) 41 zz10) _ _ _ 0 hst hT (⟨by decide, by decide⟩ : In 0 0 499) (show zz9 + (0 : Int32).toInt < 500 from (by have oc0 : (0 : Int32).toInt = 0 := (by decide); obtain ⟨o0a, o0b⟩ := (hv2_11 : In _ _ _); obtain ⟨o1a, o1b⟩ := (hv3_11 : In _ _ _); obtain ⟨o2a, o2b⟩ := (hv4_11 : In _ _ _); obtain ⟨o3a, o3b⟩ := (hv5_11 : In _ _ _); obtain ⟨o4a, o4b⟩ := (hb22 : In _ _ _); obtain ⟨o5a, o5b⟩ := (hv8_11 : In _ _ _); obtain ⟨o6a, o6b⟩ := (hv9_11 : In _ _ _); obtain ⟨o7a, o7b⟩ := (hv13_11 : In _ _ _); obtain ⟨o8a, o8b⟩ := (hv14_11 : In _ _ _); obtain ⟨o9a, o9b⟩ := (hv15_11 : In _ _ _); obtain ⟨o10a, o10b⟩ := (hv17_11 : In _ _ _); obtain ⟨o11a, o11b⟩ := (hv20_11 : In _ _ _); obtain ⟨o12a, o12b⟩ := (hv23_11 : In _ _ _); obtain ⟨o13a, o13b⟩ := (hv36_11 : In _ _ _); obtain ⟨o14a, o14b⟩ := (hv47_11 : In _ _ _); obtain ⟨o15a, o15b⟩ := (hv48_11 : In _ _ _); obtain ⟨o16a, o16b⟩ := (hv53_11 : In _ _ _); obtain ⟨o17a, o17b⟩ := (hv55_11 : In _ _ _); omega))) cV_X11_digitAt wg_1577 ⟨Nat.le_of_ble_eq_true rfl, Nat.le_of_ble_eq_true rfl⟩ hG hE hA hP hD hS (hst.1 255 (by decide)) hf12 rfl rfl hl.1 (As := [.int 0]) (rest := []) rfl (Nat.le_of_ble_eq_true rfl) dX11_digit_40 ⟨Nat.le_of_ble_eq_true rfl, Nat.le_of_ble_eq_true rfl⟩) hA hD hS (fun r42 L43 f44 H locs hp45 hP hD hS => ?_)
      obtain ⟨eL46L, eL46T, eL46R, eL46X0⟩ := hp45
      have eL46L : L43 = L := eL46L
      have eL46T : f44 = f5 := eL46T
      rw [eL46L, eL46T] at hP hD
      have eL46R : In r42 (-176) 79 := eL46R
      have hda47 : r42.toInt = (rw28 (zz9 + 0).toNat).toInt - 48 := (eL46X0 _ hf29)
      exact ret_i (ty := .int) hx hb hr hlocks (rfl) hP hD hS (Nat.le_of_ble_eq_true rfl) (Nat.le_of_ble_eq_true rfl) (⟨rfl, ⟨zz8, zz9, zz10, (th 42), (show (th 37 ≤ zz9 ∧ 0 ≤ zz9 ∧ 0 ≤ zz10 ∧ zz9 + zz10 = zz8 ∧ zz8 ≤ 500) from (by obtain ⟨o0a, o0b⟩ := (eL46R : In _ _ _); obtain ⟨o1a, o1b⟩ := (hv2_11 : In _ _ _); obtain ⟨o2a, o2b⟩ := (hv3_11 : In _ _ _); obtain ⟨o3a, o3b⟩ := (hv4_11 : In _ _ _); obtain ⟨o4a, o4b⟩ := (hv5_11 : In _ _ _); obtain ⟨o5a, o5b⟩ := (hb22 : In _ _ _); obtain ⟨o6a, o6b⟩ := (hv8_11 : In _ _ _); obtain ⟨o7a, o7b⟩ := (hv9_11 : In _ _ _); obtain ⟨o8a, o8b⟩ := (hv13_11 : In _ _ _); obtain ⟨o9a, o9b⟩ := (hv14_11 : In _ _ _); obtain ⟨o10a, o10b⟩ := (hv15_11 : In _ _ _); obtain ⟨o11a, o11b⟩ := (hv17_11 : In _ _ _); obtain ⟨o12a, o12b⟩ := (hv20_11 : In _ _ _); obtain ⟨o13a, o13b⟩ := (hv23_11 : In _ _ _); obtain ⟨o14a, o14b⟩ := (hv36_11 : In _ _ _); obtain ⟨o15a, o15b⟩ := (hv47_11 : In _ _ _); obtain ⟨o16a, o16b⟩ := (hv48_11 : In _ _ _); obtain ⟨o17a, o17b⟩ := (hv53_11 : In _ _ _); obtain ⟨o18a, o18b⟩ := (hv55_11 : In _ _ _); omega)), TI.cast hT (by funext q; simp only [gset]; (repeat' split); all_goals first | rfl | omega | (subst_vars; rfl) | (exfalso; omega))⟩, hfr, (In.mk (by obtain ⟨o0a, o0b⟩ := (eL46R : In _ _ _); obtain ⟨o1a, o1b⟩ := (hv2_11 : In _ _ _); obtain ⟨o2a, o2b⟩ := (hv3_11 : In _ _ _); obtain ⟨o3a, o3b⟩ := (hv4_11 : In _ _ _); obtain ⟨o4a, o4b⟩ := (hv5_11 : In _ _ _); obtain ⟨o5a, o5b⟩ := (hb22 : In _ _ _); obtain ⟨o6a, o6b⟩ := (hv8_11 : In _ _ _); obtain ⟨o7a, o7b⟩ := (hv9_11 : In _ _ _); obtain ⟨o8a, o8b⟩ := (hv13_11 : In _ _ _); obtain ⟨o9a, o9b⟩ := (hv14_11 : In _ _ _); obtain ⟨o10a, o10b⟩ := (hv15_11 : In _ _ _); obtain ⟨o11a, o11b⟩ := (hv17_11 : In _ _ _); obtain ⟨o12a, o12b⟩ := (hv20_11 : In _ _ _); obtain ⟨o13a, o13b⟩ := (hv23_11 : In _ _ _); obtain ⟨o14a, o14b⟩ := (hv36_11 : In _ _ _); obtain ⟨o15a, o15b⟩ := (hv47_11 : In _ _ _); obtain ⟨o16a, o16b⟩ := (hv48_11 : In _ _ _); obtain ⟨o17a, o17b⟩ := (hv53_11 : In _ _ _); obtain ⟨o18a, o18b⟩ := (hv55_11 : In _ _ _); omega) (by obtain ⟨o0a, o0b⟩ := (eL46R : In _ _ _); obtain ⟨o1a, o1b⟩ := (hv2_11 : In _ _ _); obtain ⟨o2a, o2b⟩ := (hv3_11 : In _ _ _); obtain ⟨o3a, o3b⟩ := (hv4_11 : In _ _ _); obtain ⟨o4a, o4b⟩ := (hv5_11 : In _ _ _); obtain ⟨o5a, o5b⟩ := (hb22 : In _ _ _); obtain ⟨o6a, o6b⟩ := (hv8_11 : In _ _ _); obtain ⟨o7a, o7b⟩ := (hv9_11 : In _ _ _); obtain ⟨o8a, o8b⟩ := (hv13_11 : In _ _ _); obtain ⟨o9a, o9b⟩ := (hv14_11 : In _ _ _); obtain ⟨o10a, o10b⟩ := (hv15_11 : In _ _ _); obtain ⟨o11a, o11b⟩ := (hv17_11 : In _ _ _); obtain ⟨o12a, o12b⟩ := (hv20_11 : In _ _ _); obtain ⟨o13a, o13b⟩ := (hv23_11 : In _ _ _); obtain ⟨o14a, o14b⟩ := (hv36_11 : In _ _ _); obtain ⟨o15a, o15b⟩ := (hv47_11 : In _ _ _); obtain ⟨o16a, o16b⟩ := (hv48_11 : In _ _ _); obtain ⟨o17a, o17b⟩ := (hv53_11 : In _ _ _); obtain ⟨o18a, o18b⟩ := (hv55_11 : In _ _ _); omega))⟩) dX11_digit_43
    ·
      have oc0 : (0 : Int32).toInt = 0 := by decide
      have cc48 : r32.toInt = (0 : Int32).toInt := congrArg Int32.toInt c38
      have hb49 : In r32 0 0 := In.eq1 eL36R (⟨by decide, by decide⟩ : In 0 0 0) cc48 (by omega) (by omega)
      exact hJ28 _ _ _ hP hD hS (lv_sub hl [0, 1, 2] rfl)

abbrev rm_X11_digit_0_5 : Room := { frames := 3, cells := 0, slots := 0, locals := 61 }
abbrev po_X11_digit_0_5 (g : GG) (ad : Nat → Nat) (th : Nat → Int) (L : List Nat) (f : HP)  : Int32 → (List Nat × HP) → Prop := fun r u => u.1 = L ∧ (∃ za zr zl ze : Int, ((th 37 ≤ zr ∧ 0 ≤ zr ∧ 0 ≤ zl ∧ zr + zl = za ∧ za ≤ 500)) ∧ TI g ad (gset (gset (gset (gset th 37 za) 40 zr) 41 zl) 42 ze) u.2) ∧ (∀ b, b ≠ (ad 255) → u.2 b = f b) ∧ In r 0 5
set_option maxHeartbeats 4000000 in
set_option maxRecDepth 100000 in
theorem s_X11_digit_0_5 (l : Launch) (g : GG) (ad : Nat → Nat) (th : Nat → Int) (L : List Nat) (f : HP) (sz : Nat)  (hst : ST ad L) (hT : TI g ad th f)  : MtI l g yX11_digit cX11_digit 3 (some .int) rm_X11_digit_0_5 [.ref (ad 255), .int 0, .int 5] L f sz (po_X11_digit_0_5 g ad th L f ) := by
  refine MtI.of (by decide +kernel) (Nat.le_of_ble_eq_true rfl) ?_
  intro p e s m below meth c A hEn hP hD hS ls hl
  obtain ⟨hx, hb, hr, hml, hown, hlocks, hts, hG, hA, hE, hnm⟩ := hEn
  have hown : s.vm.findClass "RulerWordModel" = some m.cls := hown
  have hl : lv_has ls 3 [(0, .ref (ad 255)), (1, .int 0), (2, .int 5)] := hl
  have hfr : (∀ b, b ≠ (ad 255) → f b = f b) := fun b z0_ => rfl
  refine lv_aload_n hx hb dX11_digit_0 rfl (lv_at hl 0 rfl) ?_
  obtain ⟨v0_1, v2_1, v3_1, v4_1, v5_1, v6_1, v8_1, v9_1, v12_1, v13_1, v14_1, v15_1, v16_1, v17_1, v18_1, v19_1, v20_1, v21_1, v22_1, v23_1, v25_1, v36_1, v37_1, v38_1, v39_1, v40_1, v45_1, v46_1, v47_1, v48_1, v50_1, v51_1, v53_1, v55_1, hf2, hv0_1, hv2_1, hg2_1, hv3_1, hg3_1, hv4_1, hg4_1, hv5_1, hg5_1, hv6_1, hg6_1, hv8_1, hg8_1, hv9_1, hg9_1, hv12_1, hv13_1, hg13_1, hv14_1, hg14_1, hv15_1, hg15_1, hv17_1, hg17_1, hv20_1, hg20_1, hv23_1, hg23_1, hv25_1, hv36_1, hg36_1, hv47_1, hg47_1, hv48_1, hg48_1, hv53_1, hg53_1, hv55_1, hg55_1, hrel0_1⟩ := hT.2.2 0 (by decide)
  refine call_v (run_V (rm := rm_X11_digits) hx hb hml hown hts (s_X11_digits l g ad th _ _ _  hst hT ) cV_X11_digits wg_1570 ⟨Nat.le_of_ble_eq_true rfl, Nat.le_of_ble_eq_true rfl⟩ hG hE hA hP hD hS (hst.1 255 (by decide)) hf2 rfl rfl hl.1 (As := []) (rest := []) rfl (Nat.le_of_ble_eq_true rfl) dX11_digit_1 ⟨Nat.le_of_ble_eq_true rfl, Nat.le_of_ble_eq_true rfl⟩) hA hD hS (fun L4 f5 H locs hp6 hP hD hS => ?_)
  obtain ⟨eL7L, eL7T, eL7F⟩ := hp6
  have eL7L : L4 = L := eL7L
  rw [eL7L] at hP hD
  obtain ⟨zz8, zz9, zz10, hzz8, eL7T⟩ := eL7T
  have hT : TI g ad (gset (gset (gset th 37 zz8) 40 zz9) 41 zz10) f5 := eL7T
  have eL7F : ∀ b, b ≠ (ad 255) → f5 b = f b := eL7F
  have hfr : (∀ b, b ≠ (ad 255) → f5 b = f b) := fun b z0_ => (eL7F b z0_).trans (hfr b z0_)
  refine lv_aload_n hx hb dX11_digit_4 rfl (lv_at hl 0 rfl) ?_
  obtain ⟨v0_11, v2_11, v3_11, v4_11, v5_11, v6_11, v8_11, v9_11, v12_11, v13_11, v14_11, v15_11, v16_11, v17_11, v18_11, v19_11, v20_11, v21_11, v22_11, v23_11, v25_11, v36_11, v37_11, v38_11, v39_11, v40_11, v45_11, v46_11, v47_11, v48_11, v50_11, v51_11, v53_11, v55_11, hf12, hv0_11, hv2_11, hg2_11, hv3_11, hg3_11, hv4_11, hg4_11, hv5_11, hg5_11, hv6_11, hg6_11, hv8_11, hg8_11, hv9_11, hg9_11, hv12_11, hv13_11, hg13_11, hv14_11, hg14_11, hv15_11, hg15_11, hv17_11, hg17_11, hv20_11, hg20_11, hv23_11, hg23_11, hv25_11, hv36_11, hg36_11, hv47_11, hg47_11, hv48_11, hg48_11, hv53_11, hg53_11, hv55_11, hg55_11, hrel0_11⟩ := hT.2.2 0 (by decide)
  have hg2_11 : v2_11.toInt = th 13 := hg2_11
  have hg3_11 : v3_11.toInt = zz8 := hg3_11
  have hg4_11 : v4_11.toInt = th 42 := hg4_11
  have hg5_11 : v5_11.toInt = zz9 := hg5_11
  have hg6_11 : v6_11.toInt = zz10 := hg6_11
  have hg8_11 : v8_11.toInt = th 43 := hg8_11
  have hg9_11 : v9_11.toInt = th 35 := hg9_11
  have hg13_11 : v13_11.toInt = th 36 := hg13_11
  have hg14_11 : v14_11.toInt = th 10 := hg14_11
  have hg15_11 : v15_11.toInt = th 11 := hg15_11
  have hg17_11 : v17_11.toInt = th 12 := hg17_11
  have hg20_11 : v20_11.toInt = th 14 := hg20_11
  have hg23_11 : v23_11.toInt = th 15 := hg23_11
  have hg36_11 : v36_11.toInt = th 18 := hg36_11
  have hg47_11 : v47_11.toInt = th 16 := hg47_11
  have hg48_11 : v48_11.toInt = th 17 := hg48_11
  have hg53_11 : v53_11.toInt = th 38 := hg53_11
  have hg55_11 : v55_11.toInt = th 39 := hg55_11
  refine pl_get (v := .int v6_11) hx hb hts (fun w h => mT (inX11 w h)) hown hG.1 hP (hst.1 255 (by decide)) hf12 rfl 6 (by decide) (hts _ (mT wg_1342)) (fun _ h => h) rfl dX11_digit_5 ?_
  refine lv_iconst (v := 1) hx hb dX11_digit_8 (by decide) ?_
  have hJ28 : ∀ (H : Heap) (locs : List Loc) (ls : Array Slot), va_P g.1 vwCl (va_pl L f5) H → va_D A (va_pl L f5) → va_S A s.heap H locs → lv_has ls 3 [(0, .ref (ad 255)), (1, .int 0), (2, .int 5)] → W p l e rm_X11_digit_0_5 s m [.ref (ad 255), .int 0, .int 5].toArray below meth c H locs 0 0 (MQ below (va_Qi (po_X11_digit_0_5 g ad th L f ) (PstB g A) A) [.ref (ad 255), .int 0, .int 5].toArray s rm_X11_digit_0_5.cells rm_X11_digit_0_5.slots A) (F0 m 28 ls []) := by
    intro H locs ls hP hD hS hl
    refine lv_aload_n hx hb dX11_digit_28 rfl (lv_at hl 0 rfl) ?_
    refine lv_aload_n hx hb dX11_digit_29 rfl (lv_at hl 0 rfl) ?_
    refine pl_get (v := .int v5_11) hx hb hts (fun w h => mT (inX11 w h)) hown hG.1 hP (hst.1 255 (by decide)) hf12 rfl 5 (by decide) (hts _ (mT wg_1341)) (fun _ h => h) rfl dX11_digit_30 ?_
    refine call_v (run_V (rm := rm_X11_fails) hx hb hml hown hts (s_X11_fails l g ad (gset (gset (gset th 37 zz8) 40 zz9) 41 zz10) _ _ _ v5_11 hst hT hv5_11) cV_X11_fails wg_1545 ⟨Nat.le_of_ble_eq_true rfl, Nat.le_of_ble_eq_true rfl⟩ hG hE hA hP hD hS (hst.1 255 (by decide)) hf12 rfl rfl hl.1 (As := [.int v5_11]) (rest := []) rfl (Nat.le_of_ble_eq_true rfl) dX11_digit_33 ⟨Nat.le_of_ble_eq_true rfl, Nat.le_of_ble_eq_true rfl⟩) hA hD hS (fun L14 f15 H locs hp16 hP hD hS => ?_)
    obtain ⟨eL17L, eL17T, eL17F⟩ := hp16
    have eL17L : L14 = L := eL17L
    rw [eL17L] at hP hD
    obtain ⟨zz18, hzz18, eL17T⟩ := eL17T
    have hT : TI g ad (gset (gset (gset (gset th 37 zz8) 40 zz9) 41 zz10) 42 zz18) f15 := eL17T
    have eL17F : ∀ b, b ≠ (ad 255) → f15 b = f5 b := eL17F
    have hfr : (∀ b, b ≠ (ad 255) → f15 b = f b) := fun b z0_ => (eL17F b z0_).trans (hfr b z0_)
    refine lv_iload_n hx hb dX11_digit_36 rfl (lv_at hl 1 rfl) ?_
    exact ret_i (ty := .int) hx hb hr hlocks (rfl) hP hD hS (Nat.le_of_ble_eq_true rfl) (Nat.le_of_ble_eq_true rfl) (⟨rfl, ⟨zz8, zz9, zz10, zz18, (show (th 37 ≤ zz9 ∧ 0 ≤ zz9 ∧ 0 ≤ zz10 ∧ zz9 + zz10 = zz8 ∧ zz8 ≤ 500) from (by have oc0 : (0 : Int32).toInt = 0 := (by decide); omega)), TI.cast hT (by funext q; simp only [gset]; (repeat' split); all_goals first | rfl | omega | (subst_vars; rfl) | (exfalso; omega))⟩, hfr, (⟨by decide, by decide⟩ : In 0 0 5)⟩) dX11_digit_37
  refine lv_icmp_ne (tgt := 28) hx hb dX11_digit_9 (by decide) (fun c19 => ?_) (fun c19 => ?_)
  ·
    have oc1 : (1 : Int32).toInt = 1 := by decide
    have cc20 : v6_11.toInt ≠ (1 : Int32).toInt := i32_ne c19
    exact hJ28 _ _ _ hP hD hS (lv_sub hl [0, 1, 2] rfl)
  ·
    have oc1 : (1 : Int32).toInt = 1 := by decide
    have cc21 : v6_11.toInt = (1 : Int32).toInt := congrArg Int32.toInt c19
    have hb22 : In v6_11 1 1 := In.eq1 hv6_11 (⟨by decide, by decide⟩ : In 1 1 1) cc21 (by omega) (by omega)
    refine lv_aload_n hx hb dX11_digit_12 rfl (lv_at hl 0 rfl) ?_
    refine lv_iconst (v := 0) hx hb dX11_digit_13 (by decide) ?_
    refine call_i (run_V (rm := rm_X11_digitAt) hx hb hml hown hts (s_X11_digitAt l g ad (gset (gset (gset th 37 zz8) 40 zz9) 41 zz10) _ _ _ 0 hst hT (⟨by decide, by decide⟩ : In 0 0 499) (show zz9 + (0 : Int32).toInt < 500 from (by have oc0 : (0 : Int32).toInt = 0 := (by decide); obtain ⟨o0a, o0b⟩ := (hv2_11 : In _ _ _); obtain ⟨o1a, o1b⟩ := (hv3_11 : In _ _ _); obtain ⟨o2a, o2b⟩ := (hv4_11 : In _ _ _); obtain ⟨o3a, o3b⟩ := (hv5_11 : In _ _ _); obtain ⟨o4a, o4b⟩ := (hb22 : In _ _ _); obtain ⟨o5a, o5b⟩ := (hv8_11 : In _ _ _); obtain ⟨o6a, o6b⟩ := (hv9_11 : In _ _ _); obtain ⟨o7a, o7b⟩ := (hv13_11 : In _ _ _); obtain ⟨o8a, o8b⟩ := (hv14_11 : In _ _ _); obtain ⟨o9a, o9b⟩ := (hv15_11 : In _ _ _); obtain ⟨o10a, o10b⟩ := (hv17_11 : In _ _ _); obtain ⟨o11a, o11b⟩ := (hv20_11 : In _ _ _); obtain ⟨o12a, o12b⟩ := (hv23_11 : In _ _ _); obtain ⟨o13a, o13b⟩ := (hv36_11 : In _ _ _); obtain ⟨o14a, o14b⟩ := (hv47_11 : In _ _ _); obtain ⟨o15a, o15b⟩ := (hv48_11 : In _ _ _); obtain ⟨o16a, o16b⟩ := (hv53_11 : In _ _ _); obtain ⟨o17a, o17b⟩ := (hv55_11 : In _ _ _); omega))) cV_X11_digitAt wg_1577 ⟨Nat.le_of_ble_eq_true rfl, Nat.le_of_ble_eq_true rfl⟩ hG hE hA hP hD hS (hst.1 255 (by decide)) hf12 rfl rfl hl.1 (As := [.int 0]) (rest := []) rfl (Nat.le_of_ble_eq_true rfl) dX11_digit_14 ⟨Nat.le_of_ble_eq_true rfl, Nat.le_of_ble_eq_true rfl⟩) hA hD hS (fun r23 L24 f25 H locs hp26 hP hD hS => ?_)
    obtain ⟨eL27L, eL27T, eL27R, eL27X0⟩ := hp26
    have eL27L : L24 = L := eL27L
    have eL27T : f25 = f5 := eL27T
    rw [eL27L, eL27T] at hP hD
    have eL27R : In r23 (-176) 79 := eL27R
    obtain ⟨rw28, hf29, hc30⟩ := hT.2.2 1 (by decide)
    have hda31 : r23.toInt = (rw28 (zz9 + 0).toNat).toInt - 48 := (eL27X0 _ hf29)
    refine lv_i2l hx hb dX11_digit_17 rfl ?_
    refine lv_iload_n hx hb dX11_digit_18 rfl (lv_at hl 1 rfl) ?_
    refine lv_i2l (v := 0) hx hb dX11_digit_19 (by decide) ?_
    refine lv_iload_n hx hb dX11_digit_20 rfl (lv_at hl 2 rfl) ?_
    refine lv_i2l (v := 5) hx hb dX11_digit_21 (by decide) ?_
    refine call_i (run_S (rm := rm_X11_isIn) hx hb hml hown hts (s_X11_isIn l g ad (gset (gset (gset th 37 zz8) 40 zz9) 41 zz10) _ _ _ (r23.toInt64) 0 5 hst hT ) cS_X11_isIn wg_1581 ⟨Nat.le_of_ble_eq_true rfl, Nat.le_of_ble_eq_true rfl⟩ hG hE hA hP hD hS rfl hl.1 (As := [.long (r23.toInt64), .long 0, .long 5]) (rest := []) rfl (Nat.le_of_ble_eq_true rfl) dX11_digit_22 ⟨Nat.le_of_ble_eq_true rfl, Nat.le_of_ble_eq_true rfl⟩) hA hD hS (fun r32 L33 f34 H locs hp35 hP hD hS => ?_)
    obtain ⟨eL36L, eL36T, eL36R, eL36X0, eL36X1⟩ := hp35
    have eL36L : L33 = L := eL36L
    have eL36T : f34 = f5 := eL36T
    rw [eL36L, eL36T] at hP hD
    have eL36R : In r32 0 1 := eL36R
    have hii37 : r32.toInt = 0 ∨ (0 ≤ r23.toInt ∧ r23.toInt ≤ 5) := by have z := eL36X0; rw [i2l_t r23, (by decide : (0 : Int64).toInt = 0), (by decide : (5 : Int64).toInt = 5)] at z; exact z
    have hii37w : ¬ r32 = 0 → In r23 0 5 := fun c => by have c2 := i32_ne c; have e0 : (0 : Int32).toInt = 0 := (by decide); exact ⟨by omega, by omega⟩
    refine lv_if_ne (tgt := 38) hx hb dX11_digit_25 (by decide) (fun c38 => ?_) (fun c38 => ?_)
    ·
      have oc0 : (0 : Int32).toInt = 0 := by decide
      have cc39 : r32.toInt ≠ (0 : Int32).toInt := i32_ne c38
      have hb40 : In r32 1 1 := In.ne1 eL36R (⟨by decide, by decide⟩ : In 0 0 0) cc39 (by omega) (by omega)
      have hb41 : In r23 0 5 := In.both (hii37w c38) eL27R (by decide) (by decide)
      refine lv_aload_n hx hb dX11_digit_38 rfl (lv_at hl 0 rfl) ?_
      refine lv_iconst (v := 0) hx hb dX11_digit_39 (by decide) ?_
      refine call_i (run_V (rm := rm_X11_digitAt) hx hb hml hown hts (s_X11_digitAt l g ad (gset (gset (gset th 37 zz8) 40 zz9) 41 zz10) _ _ _ 0 hst hT (⟨by decide, by decide⟩ : In 0 0 499) (show zz9 + (0 : Int32).toInt < 500 from (by have oc0 : (0 : Int32).toInt = 0 := (by decide); obtain ⟨o0a, o0b⟩ := (hv2_11 : In _ _ _); obtain ⟨o1a, o1b⟩ := (hv3_11 : In _ _ _); obtain ⟨o2a, o2b⟩ := (hv4_11 : In _ _ _); obtain ⟨o3a, o3b⟩ := (hv5_11 : In _ _ _); obtain ⟨o4a, o4b⟩ := (hb22 : In _ _ _); obtain ⟨o5a, o5b⟩ := (hv8_11 : In _ _ _); obtain ⟨o6a, o6b⟩ := (hv9_11 : In _ _ _); obtain ⟨o7a, o7b⟩ := (hv13_11 : In _ _ _); obtain ⟨o8a, o8b⟩ := (hv14_11 : In _ _ _); obtain ⟨o9a, o9b⟩ := (hv15_11 : In _ _ _); obtain ⟨o10a, o10b⟩ := (hv17_11 : In _ _ _); obtain ⟨o11a, o11b⟩ := (hv20_11 : In _ _ _); obtain ⟨o12a, o12b⟩ := (hv23_11 : In _ _ _); obtain ⟨o13a, o13b⟩ := (hv36_11 : In _ _ _); obtain ⟨o14a, o14b⟩ := (hv47_11 : In _ _ _); obtain ⟨o15a, o15b⟩ := (hv48_11 : In _ _ _); obtain ⟨o16a, o16b⟩ := (hv53_11 : In _ _ _); obtain ⟨o17a, o17b⟩ := (hv55_11 : In _ _ _); omega))) cV_X11_digitAt wg_1577 ⟨Nat.le_of_ble_eq_true rfl, Nat.le_of_ble_eq_true rfl⟩ hG hE hA hP hD hS (hst.1 255 (by decide)) hf12 rfl rfl hl.1 (As := [.int 0]) (rest := []) rfl (Nat.le_of_ble_eq_true rfl) dX11_digit_40 ⟨Nat.le_of_ble_eq_true rfl, Nat.le_of_ble_eq_true rfl⟩) hA hD hS (fun r42 L43 f44 H locs hp45 hP hD hS => ?_)
      obtain ⟨eL46L, eL46T, eL46R, eL46X0⟩ := hp45
      have eL46L : L43 = L := eL46L
      have eL46T : f44 = f5 := eL46T
      rw [eL46L, eL46T] at hP hD
      have eL46R : In r42 (-176) 79 := eL46R
      have hda47 : r42.toInt = (rw28 (zz9 + 0).toNat).toInt - 48 := (eL46X0 _ hf29)
      exact ret_i (ty := .int) hx hb hr hlocks (rfl) hP hD hS (Nat.le_of_ble_eq_true rfl) (Nat.le_of_ble_eq_true rfl) (⟨rfl, ⟨zz8, zz9, zz10, (th 42), (show (th 37 ≤ zz9 ∧ 0 ≤ zz9 ∧ 0 ≤ zz10 ∧ zz9 + zz10 = zz8 ∧ zz8 ≤ 500) from (by obtain ⟨o0a, o0b⟩ := (eL46R : In _ _ _); obtain ⟨o1a, o1b⟩ := (hv2_11 : In _ _ _); obtain ⟨o2a, o2b⟩ := (hv3_11 : In _ _ _); obtain ⟨o3a, o3b⟩ := (hv4_11 : In _ _ _); obtain ⟨o4a, o4b⟩ := (hv5_11 : In _ _ _); obtain ⟨o5a, o5b⟩ := (hb22 : In _ _ _); obtain ⟨o6a, o6b⟩ := (hv8_11 : In _ _ _); obtain ⟨o7a, o7b⟩ := (hv9_11 : In _ _ _); obtain ⟨o8a, o8b⟩ := (hv13_11 : In _ _ _); obtain ⟨o9a, o9b⟩ := (hv14_11 : In _ _ _); obtain ⟨o10a, o10b⟩ := (hv15_11 : In _ _ _); obtain ⟨o11a, o11b⟩ := (hv17_11 : In _ _ _); obtain ⟨o12a, o12b⟩ := (hv20_11 : In _ _ _); obtain ⟨o13a, o13b⟩ := (hv23_11 : In _ _ _); obtain ⟨o14a, o14b⟩ := (hv36_11 : In _ _ _); obtain ⟨o15a, o15b⟩ := (hv47_11 : In _ _ _); obtain ⟨o16a, o16b⟩ := (hv48_11 : In _ _ _); obtain ⟨o17a, o17b⟩ := (hv53_11 : In _ _ _); obtain ⟨o18a, o18b⟩ := (hv55_11 : In _ _ _); omega)), TI.cast hT (by funext q; simp only [gset]; (repeat' split); all_goals first | rfl | omega | (subst_vars; rfl) | (exfalso; omega))⟩, hfr, (In.mk (by obtain ⟨o0a, o0b⟩ := (eL46R : In _ _ _); obtain ⟨o1a, o1b⟩ := (hv2_11 : In _ _ _); obtain ⟨o2a, o2b⟩ := (hv3_11 : In _ _ _); obtain ⟨o3a, o3b⟩ := (hv4_11 : In _ _ _); obtain ⟨o4a, o4b⟩ := (hv5_11 : In _ _ _); obtain ⟨o5a, o5b⟩ := (hb22 : In _ _ _); obtain ⟨o6a, o6b⟩ := (hv8_11 : In _ _ _); obtain ⟨o7a, o7b⟩ := (hv9_11 : In _ _ _); obtain ⟨o8a, o8b⟩ := (hv13_11 : In _ _ _); obtain ⟨o9a, o9b⟩ := (hv14_11 : In _ _ _); obtain ⟨o10a, o10b⟩ := (hv15_11 : In _ _ _); obtain ⟨o11a, o11b⟩ := (hv17_11 : In _ _ _); obtain ⟨o12a, o12b⟩ := (hv20_11 : In _ _ _); obtain ⟨o13a, o13b⟩ := (hv23_11 : In _ _ _); obtain ⟨o14a, o14b⟩ := (hv36_11 : In _ _ _); obtain ⟨o15a, o15b⟩ := (hv47_11 : In _ _ _); obtain ⟨o16a, o16b⟩ := (hv48_11 : In _ _ _); obtain ⟨o17a, o17b⟩ := (hv53_11 : In _ _ _); obtain ⟨o18a, o18b⟩ := (hv55_11 : In _ _ _); omega) (by obtain ⟨o0a, o0b⟩ := (eL46R : In _ _ _); obtain ⟨o1a, o1b⟩ := (hv2_11 : In _ _ _); obtain ⟨o2a, o2b⟩ := (hv3_11 : In _ _ _); obtain ⟨o3a, o3b⟩ := (hv4_11 : In _ _ _); obtain ⟨o4a, o4b⟩ := (hv5_11 : In _ _ _); obtain ⟨o5a, o5b⟩ := (hb22 : In _ _ _); obtain ⟨o6a, o6b⟩ := (hv8_11 : In _ _ _); obtain ⟨o7a, o7b⟩ := (hv9_11 : In _ _ _); obtain ⟨o8a, o8b⟩ := (hv13_11 : In _ _ _); obtain ⟨o9a, o9b⟩ := (hv14_11 : In _ _ _); obtain ⟨o10a, o10b⟩ := (hv15_11 : In _ _ _); obtain ⟨o11a, o11b⟩ := (hv17_11 : In _ _ _); obtain ⟨o12a, o12b⟩ := (hv20_11 : In _ _ _); obtain ⟨o13a, o13b⟩ := (hv23_11 : In _ _ _); obtain ⟨o14a, o14b⟩ := (hv36_11 : In _ _ _); obtain ⟨o15a, o15b⟩ := (hv47_11 : In _ _ _); obtain ⟨o16a, o16b⟩ := (hv48_11 : In _ _ _); obtain ⟨o17a, o17b⟩ := (hv53_11 : In _ _ _); obtain ⟨o18a, o18b⟩ := (hv55_11 : In _ _ _); omega))⟩) dX11_digit_43
    ·
      have oc0 : (0 : Int32).toInt = 0 := by decide
      have cc48 : r32.toInt = (0 : Int32).toInt := congrArg Int32.toInt c38
      have hb49 : In r32 0 0 := In.eq1 eL36R (⟨by decide, by decide⟩ : In 0 0 0) cc48 (by omega) (by omega)
      exact hJ28 _ _ _ hP hD hS (lv_sub hl [0, 1, 2] rfl)

abbrev rm_X11_digit_0_2 : Room := { frames := 3, cells := 0, slots := 0, locals := 61 }
abbrev po_X11_digit_0_2 (g : GG) (ad : Nat → Nat) (th : Nat → Int) (L : List Nat) (f : HP)  : Int32 → (List Nat × HP) → Prop := fun r u => u.1 = L ∧ (∃ za zr zl ze : Int, ((th 37 ≤ zr ∧ 0 ≤ zr ∧ 0 ≤ zl ∧ zr + zl = za ∧ za ≤ 500)) ∧ TI g ad (gset (gset (gset (gset th 37 za) 40 zr) 41 zl) 42 ze) u.2) ∧ (∀ b, b ≠ (ad 255) → u.2 b = f b) ∧ In r 0 2
set_option maxHeartbeats 4000000 in
set_option maxRecDepth 100000 in
theorem s_X11_digit_0_2 (l : Launch) (g : GG) (ad : Nat → Nat) (th : Nat → Int) (L : List Nat) (f : HP) (sz : Nat)  (hst : ST ad L) (hT : TI g ad th f)  : MtI l g yX11_digit cX11_digit 3 (some .int) rm_X11_digit_0_2 [.ref (ad 255), .int 0, .int 2] L f sz (po_X11_digit_0_2 g ad th L f ) := by
  refine MtI.of (by decide +kernel) (Nat.le_of_ble_eq_true rfl) ?_
  intro p e s m below meth c A hEn hP hD hS ls hl
  obtain ⟨hx, hb, hr, hml, hown, hlocks, hts, hG, hA, hE, hnm⟩ := hEn
  have hown : s.vm.findClass "RulerWordModel" = some m.cls := hown
  have hl : lv_has ls 3 [(0, .ref (ad 255)), (1, .int 0), (2, .int 2)] := hl
  have hfr : (∀ b, b ≠ (ad 255) → f b = f b) := fun b z0_ => rfl
  refine lv_aload_n hx hb dX11_digit_0 rfl (lv_at hl 0 rfl) ?_
  obtain ⟨v0_1, v2_1, v3_1, v4_1, v5_1, v6_1, v8_1, v9_1, v12_1, v13_1, v14_1, v15_1, v16_1, v17_1, v18_1, v19_1, v20_1, v21_1, v22_1, v23_1, v25_1, v36_1, v37_1, v38_1, v39_1, v40_1, v45_1, v46_1, v47_1, v48_1, v50_1, v51_1, v53_1, v55_1, hf2, hv0_1, hv2_1, hg2_1, hv3_1, hg3_1, hv4_1, hg4_1, hv5_1, hg5_1, hv6_1, hg6_1, hv8_1, hg8_1, hv9_1, hg9_1, hv12_1, hv13_1, hg13_1, hv14_1, hg14_1, hv15_1, hg15_1, hv17_1, hg17_1, hv20_1, hg20_1, hv23_1, hg23_1, hv25_1, hv36_1, hg36_1, hv47_1, hg47_1, hv48_1, hg48_1, hv53_1, hg53_1, hv55_1, hg55_1, hrel0_1⟩ := hT.2.2 0 (by decide)
  refine call_v (run_V (rm := rm_X11_digits) hx hb hml hown hts (s_X11_digits l g ad th _ _ _  hst hT ) cV_X11_digits wg_1570 ⟨Nat.le_of_ble_eq_true rfl, Nat.le_of_ble_eq_true rfl⟩ hG hE hA hP hD hS (hst.1 255 (by decide)) hf2 rfl rfl hl.1 (As := []) (rest := []) rfl (Nat.le_of_ble_eq_true rfl) dX11_digit_1 ⟨Nat.le_of_ble_eq_true rfl, Nat.le_of_ble_eq_true rfl⟩) hA hD hS (fun L4 f5 H locs hp6 hP hD hS => ?_)
  obtain ⟨eL7L, eL7T, eL7F⟩ := hp6
  have eL7L : L4 = L := eL7L
  rw [eL7L] at hP hD
  obtain ⟨zz8, zz9, zz10, hzz8, eL7T⟩ := eL7T
  have hT : TI g ad (gset (gset (gset th 37 zz8) 40 zz9) 41 zz10) f5 := eL7T
  have eL7F : ∀ b, b ≠ (ad 255) → f5 b = f b := eL7F
  have hfr : (∀ b, b ≠ (ad 255) → f5 b = f b) := fun b z0_ => (eL7F b z0_).trans (hfr b z0_)
  refine lv_aload_n hx hb dX11_digit_4 rfl (lv_at hl 0 rfl) ?_
  obtain ⟨v0_11, v2_11, v3_11, v4_11, v5_11, v6_11, v8_11, v9_11, v12_11, v13_11, v14_11, v15_11, v16_11, v17_11, v18_11, v19_11, v20_11, v21_11, v22_11, v23_11, v25_11, v36_11, v37_11, v38_11, v39_11, v40_11, v45_11, v46_11, v47_11, v48_11, v50_11, v51_11, v53_11, v55_11, hf12, hv0_11, hv2_11, hg2_11, hv3_11, hg3_11, hv4_11, hg4_11, hv5_11, hg5_11, hv6_11, hg6_11, hv8_11, hg8_11, hv9_11, hg9_11, hv12_11, hv13_11, hg13_11, hv14_11, hg14_11, hv15_11, hg15_11, hv17_11, hg17_11, hv20_11, hg20_11, hv23_11, hg23_11, hv25_11, hv36_11, hg36_11, hv47_11, hg47_11, hv48_11, hg48_11, hv53_11, hg53_11, hv55_11, hg55_11, hrel0_11⟩ := hT.2.2 0 (by decide)
  have hg2_11 : v2_11.toInt = th 13 := hg2_11
  have hg3_11 : v3_11.toInt = zz8 := hg3_11
  have hg4_11 : v4_11.toInt = th 42 := hg4_11
  have hg5_11 : v5_11.toInt = zz9 := hg5_11
  have hg6_11 : v6_11.toInt = zz10 := hg6_11
  have hg8_11 : v8_11.toInt = th 43 := hg8_11
  have hg9_11 : v9_11.toInt = th 35 := hg9_11
  have hg13_11 : v13_11.toInt = th 36 := hg13_11
  have hg14_11 : v14_11.toInt = th 10 := hg14_11
  have hg15_11 : v15_11.toInt = th 11 := hg15_11
  have hg17_11 : v17_11.toInt = th 12 := hg17_11
  have hg20_11 : v20_11.toInt = th 14 := hg20_11
  have hg23_11 : v23_11.toInt = th 15 := hg23_11
  have hg36_11 : v36_11.toInt = th 18 := hg36_11
  have hg47_11 : v47_11.toInt = th 16 := hg47_11
  have hg48_11 : v48_11.toInt = th 17 := hg48_11
  have hg53_11 : v53_11.toInt = th 38 := hg53_11
  have hg55_11 : v55_11.toInt = th 39 := hg55_11
  refine pl_get (v := .int v6_11) hx hb hts (fun w h => mT (inX11 w h)) hown hG.1 hP (hst.1 255 (by decide)) hf12 rfl 6 (by decide) (hts _ (mT wg_1342)) (fun _ h => h) rfl dX11_digit_5 ?_
  refine lv_iconst (v := 1) hx hb dX11_digit_8 (by decide) ?_
  have hJ28 : ∀ (H : Heap) (locs : List Loc) (ls : Array Slot), va_P g.1 vwCl (va_pl L f5) H → va_D A (va_pl L f5) → va_S A s.heap H locs → lv_has ls 3 [(0, .ref (ad 255)), (1, .int 0), (2, .int 2)] → W p l e rm_X11_digit_0_2 s m [.ref (ad 255), .int 0, .int 2].toArray below meth c H locs 0 0 (MQ below (va_Qi (po_X11_digit_0_2 g ad th L f ) (PstB g A) A) [.ref (ad 255), .int 0, .int 2].toArray s rm_X11_digit_0_2.cells rm_X11_digit_0_2.slots A) (F0 m 28 ls []) := by
    intro H locs ls hP hD hS hl
    refine lv_aload_n hx hb dX11_digit_28 rfl (lv_at hl 0 rfl) ?_
    refine lv_aload_n hx hb dX11_digit_29 rfl (lv_at hl 0 rfl) ?_
    refine pl_get (v := .int v5_11) hx hb hts (fun w h => mT (inX11 w h)) hown hG.1 hP (hst.1 255 (by decide)) hf12 rfl 5 (by decide) (hts _ (mT wg_1341)) (fun _ h => h) rfl dX11_digit_30 ?_
    refine call_v (run_V (rm := rm_X11_fails) hx hb hml hown hts (s_X11_fails l g ad (gset (gset (gset th 37 zz8) 40 zz9) 41 zz10) _ _ _ v5_11 hst hT hv5_11) cV_X11_fails wg_1545 ⟨Nat.le_of_ble_eq_true rfl, Nat.le_of_ble_eq_true rfl⟩ hG hE hA hP hD hS (hst.1 255 (by decide)) hf12 rfl rfl hl.1 (As := [.int v5_11]) (rest := []) rfl (Nat.le_of_ble_eq_true rfl) dX11_digit_33 ⟨Nat.le_of_ble_eq_true rfl, Nat.le_of_ble_eq_true rfl⟩) hA hD hS (fun L14 f15 H locs hp16 hP hD hS => ?_)
    obtain ⟨eL17L, eL17T, eL17F⟩ := hp16
    have eL17L : L14 = L := eL17L
    rw [eL17L] at hP hD
    obtain ⟨zz18, hzz18, eL17T⟩ := eL17T
    have hT : TI g ad (gset (gset (gset (gset th 37 zz8) 40 zz9) 41 zz10) 42 zz18) f15 := eL17T
    have eL17F : ∀ b, b ≠ (ad 255) → f15 b = f5 b := eL17F
    have hfr : (∀ b, b ≠ (ad 255) → f15 b = f b) := fun b z0_ => (eL17F b z0_).trans (hfr b z0_)
    refine lv_iload_n hx hb dX11_digit_36 rfl (lv_at hl 1 rfl) ?_
    exact ret_i (ty := .int) hx hb hr hlocks (rfl) hP hD hS (Nat.le_of_ble_eq_true rfl) (Nat.le_of_ble_eq_true rfl) (⟨rfl, ⟨zz8, zz9, zz10, zz18, (show (th 37 ≤ zz9 ∧ 0 ≤ zz9 ∧ 0 ≤ zz10 ∧ zz9 + zz10 = zz8 ∧ zz8 ≤ 500) from (by have oc0 : (0 : Int32).toInt = 0 := (by decide); omega)), TI.cast hT (by funext q; simp only [gset]; (repeat' split); all_goals first | rfl | omega | (subst_vars; rfl) | (exfalso; omega))⟩, hfr, (⟨by decide, by decide⟩ : In 0 0 2)⟩) dX11_digit_37
  refine lv_icmp_ne (tgt := 28) hx hb dX11_digit_9 (by decide) (fun c19 => ?_) (fun c19 => ?_)
  ·
    have oc1 : (1 : Int32).toInt = 1 := by decide
    have cc20 : v6_11.toInt ≠ (1 : Int32).toInt := i32_ne c19
    exact hJ28 _ _ _ hP hD hS (lv_sub hl [0, 1, 2] rfl)
  ·
    have oc1 : (1 : Int32).toInt = 1 := by decide
    have cc21 : v6_11.toInt = (1 : Int32).toInt := congrArg Int32.toInt c19
    have hb22 : In v6_11 1 1 := In.eq1 hv6_11 (⟨by decide, by decide⟩ : In 1 1 1) cc21 (by omega) (by omega)
    refine lv_aload_n hx hb dX11_digit_12 rfl (lv_at hl 0 rfl) ?_
    refine lv_iconst (v := 0) hx hb dX11_digit_13 (by decide) ?_
    refine call_i (run_V (rm := rm_X11_digitAt) hx hb hml hown hts (s_X11_digitAt l g ad (gset (gset (gset th 37 zz8) 40 zz9) 41 zz10) _ _ _ 0 hst hT (⟨by decide, by decide⟩ : In 0 0 499) (show zz9 + (0 : Int32).toInt < 500 from (by have oc0 : (0 : Int32).toInt = 0 := (by decide); obtain ⟨o0a, o0b⟩ := (hv2_11 : In _ _ _); obtain ⟨o1a, o1b⟩ := (hv3_11 : In _ _ _); obtain ⟨o2a, o2b⟩ := (hv4_11 : In _ _ _); obtain ⟨o3a, o3b⟩ := (hv5_11 : In _ _ _); obtain ⟨o4a, o4b⟩ := (hb22 : In _ _ _); obtain ⟨o5a, o5b⟩ := (hv8_11 : In _ _ _); obtain ⟨o6a, o6b⟩ := (hv9_11 : In _ _ _); obtain ⟨o7a, o7b⟩ := (hv13_11 : In _ _ _); obtain ⟨o8a, o8b⟩ := (hv14_11 : In _ _ _); obtain ⟨o9a, o9b⟩ := (hv15_11 : In _ _ _); obtain ⟨o10a, o10b⟩ := (hv17_11 : In _ _ _); obtain ⟨o11a, o11b⟩ := (hv20_11 : In _ _ _); obtain ⟨o12a, o12b⟩ := (hv23_11 : In _ _ _); obtain ⟨o13a, o13b⟩ := (hv36_11 : In _ _ _); obtain ⟨o14a, o14b⟩ := (hv47_11 : In _ _ _); obtain ⟨o15a, o15b⟩ := (hv48_11 : In _ _ _); obtain ⟨o16a, o16b⟩ := (hv53_11 : In _ _ _); obtain ⟨o17a, o17b⟩ := (hv55_11 : In _ _ _); omega))) cV_X11_digitAt wg_1577 ⟨Nat.le_of_ble_eq_true rfl, Nat.le_of_ble_eq_true rfl⟩ hG hE hA hP hD hS (hst.1 255 (by decide)) hf12 rfl rfl hl.1 (As := [.int 0]) (rest := []) rfl (Nat.le_of_ble_eq_true rfl) dX11_digit_14 ⟨Nat.le_of_ble_eq_true rfl, Nat.le_of_ble_eq_true rfl⟩) hA hD hS (fun r23 L24 f25 H locs hp26 hP hD hS => ?_)
    obtain ⟨eL27L, eL27T, eL27R, eL27X0⟩ := hp26
    have eL27L : L24 = L := eL27L
    have eL27T : f25 = f5 := eL27T
    rw [eL27L, eL27T] at hP hD
    have eL27R : In r23 (-176) 79 := eL27R
    obtain ⟨rw28, hf29, hc30⟩ := hT.2.2 1 (by decide)
    have hda31 : r23.toInt = (rw28 (zz9 + 0).toNat).toInt - 48 := (eL27X0 _ hf29)
    refine lv_i2l hx hb dX11_digit_17 rfl ?_
    refine lv_iload_n hx hb dX11_digit_18 rfl (lv_at hl 1 rfl) ?_
    refine lv_i2l (v := 0) hx hb dX11_digit_19 (by decide) ?_
    refine lv_iload_n hx hb dX11_digit_20 rfl (lv_at hl 2 rfl) ?_
    refine lv_i2l (v := 2) hx hb dX11_digit_21 (by decide) ?_
    refine call_i (run_S (rm := rm_X11_isIn) hx hb hml hown hts (s_X11_isIn l g ad (gset (gset (gset th 37 zz8) 40 zz9) 41 zz10) _ _ _ (r23.toInt64) 0 2 hst hT ) cS_X11_isIn wg_1581 ⟨Nat.le_of_ble_eq_true rfl, Nat.le_of_ble_eq_true rfl⟩ hG hE hA hP hD hS rfl hl.1 (As := [.long (r23.toInt64), .long 0, .long 2]) (rest := []) rfl (Nat.le_of_ble_eq_true rfl) dX11_digit_22 ⟨Nat.le_of_ble_eq_true rfl, Nat.le_of_ble_eq_true rfl⟩) hA hD hS (fun r32 L33 f34 H locs hp35 hP hD hS => ?_)
    obtain ⟨eL36L, eL36T, eL36R, eL36X0, eL36X1⟩ := hp35
    have eL36L : L33 = L := eL36L
    have eL36T : f34 = f5 := eL36T
    rw [eL36L, eL36T] at hP hD
    have eL36R : In r32 0 1 := eL36R
    have hii37 : r32.toInt = 0 ∨ (0 ≤ r23.toInt ∧ r23.toInt ≤ 2) := by have z := eL36X0; rw [i2l_t r23, (by decide : (0 : Int64).toInt = 0), (by decide : (2 : Int64).toInt = 2)] at z; exact z
    have hii37w : ¬ r32 = 0 → In r23 0 2 := fun c => by have c2 := i32_ne c; have e0 : (0 : Int32).toInt = 0 := (by decide); exact ⟨by omega, by omega⟩
    refine lv_if_ne (tgt := 38) hx hb dX11_digit_25 (by decide) (fun c38 => ?_) (fun c38 => ?_)
    ·
      have oc0 : (0 : Int32).toInt = 0 := by decide
      have cc39 : r32.toInt ≠ (0 : Int32).toInt := i32_ne c38
      have hb40 : In r32 1 1 := In.ne1 eL36R (⟨by decide, by decide⟩ : In 0 0 0) cc39 (by omega) (by omega)
      have hb41 : In r23 0 2 := In.both (hii37w c38) eL27R (by decide) (by decide)
      refine lv_aload_n hx hb dX11_digit_38 rfl (lv_at hl 0 rfl) ?_
      refine lv_iconst (v := 0) hx hb dX11_digit_39 (by decide) ?_
      refine call_i (run_V (rm := rm_X11_digitAt) hx hb hml hown hts (s_X11_digitAt l g ad (gset (gset (gset th 37 zz8) 40 zz9) 41 zz10) _ _ _ 0 hst hT (⟨by decide, by decide⟩ : In 0 0 499) (show zz9 + (0 : Int32).toInt < 500 from (by have oc0 : (0 : Int32).toInt = 0 := (by decide); obtain ⟨o0a, o0b⟩ := (hv2_11 : In _ _ _); obtain ⟨o1a, o1b⟩ := (hv3_11 : In _ _ _); obtain ⟨o2a, o2b⟩ := (hv4_11 : In _ _ _); obtain ⟨o3a, o3b⟩ := (hv5_11 : In _ _ _); obtain ⟨o4a, o4b⟩ := (hb22 : In _ _ _); obtain ⟨o5a, o5b⟩ := (hv8_11 : In _ _ _); obtain ⟨o6a, o6b⟩ := (hv9_11 : In _ _ _); obtain ⟨o7a, o7b⟩ := (hv13_11 : In _ _ _); obtain ⟨o8a, o8b⟩ := (hv14_11 : In _ _ _); obtain ⟨o9a, o9b⟩ := (hv15_11 : In _ _ _); obtain ⟨o10a, o10b⟩ := (hv17_11 : In _ _ _); obtain ⟨o11a, o11b⟩ := (hv20_11 : In _ _ _); obtain ⟨o12a, o12b⟩ := (hv23_11 : In _ _ _); obtain ⟨o13a, o13b⟩ := (hv36_11 : In _ _ _); obtain ⟨o14a, o14b⟩ := (hv47_11 : In _ _ _); obtain ⟨o15a, o15b⟩ := (hv48_11 : In _ _ _); obtain ⟨o16a, o16b⟩ := (hv53_11 : In _ _ _); obtain ⟨o17a, o17b⟩ := (hv55_11 : In _ _ _); omega))) cV_X11_digitAt wg_1577 ⟨Nat.le_of_ble_eq_true rfl, Nat.le_of_ble_eq_true rfl⟩ hG hE hA hP hD hS (hst.1 255 (by decide)) hf12 rfl rfl hl.1 (As := [.int 0]) (rest := []) rfl (Nat.le_of_ble_eq_true rfl) dX11_digit_40 ⟨Nat.le_of_ble_eq_true rfl, Nat.le_of_ble_eq_true rfl⟩) hA hD hS (fun r42 L43 f44 H locs hp45 hP hD hS => ?_)
      obtain ⟨eL46L, eL46T, eL46R, eL46X0⟩ := hp45
      have eL46L : L43 = L := eL46L
      have eL46T : f44 = f5 := eL46T
      rw [eL46L, eL46T] at hP hD
      have eL46R : In r42 (-176) 79 := eL46R
      have hda47 : r42.toInt = (rw28 (zz9 + 0).toNat).toInt - 48 := (eL46X0 _ hf29)
      exact ret_i (ty := .int) hx hb hr hlocks (rfl) hP hD hS (Nat.le_of_ble_eq_true rfl) (Nat.le_of_ble_eq_true rfl) (⟨rfl, ⟨zz8, zz9, zz10, (th 42), (show (th 37 ≤ zz9 ∧ 0 ≤ zz9 ∧ 0 ≤ zz10 ∧ zz9 + zz10 = zz8 ∧ zz8 ≤ 500) from (by obtain ⟨o0a, o0b⟩ := (eL46R : In _ _ _); obtain ⟨o1a, o1b⟩ := (hv2_11 : In _ _ _); obtain ⟨o2a, o2b⟩ := (hv3_11 : In _ _ _); obtain ⟨o3a, o3b⟩ := (hv4_11 : In _ _ _); obtain ⟨o4a, o4b⟩ := (hv5_11 : In _ _ _); obtain ⟨o5a, o5b⟩ := (hb22 : In _ _ _); obtain ⟨o6a, o6b⟩ := (hv8_11 : In _ _ _); obtain ⟨o7a, o7b⟩ := (hv9_11 : In _ _ _); obtain ⟨o8a, o8b⟩ := (hv13_11 : In _ _ _); obtain ⟨o9a, o9b⟩ := (hv14_11 : In _ _ _); obtain ⟨o10a, o10b⟩ := (hv15_11 : In _ _ _); obtain ⟨o11a, o11b⟩ := (hv17_11 : In _ _ _); obtain ⟨o12a, o12b⟩ := (hv20_11 : In _ _ _); obtain ⟨o13a, o13b⟩ := (hv23_11 : In _ _ _); obtain ⟨o14a, o14b⟩ := (hv36_11 : In _ _ _); obtain ⟨o15a, o15b⟩ := (hv47_11 : In _ _ _); obtain ⟨o16a, o16b⟩ := (hv48_11 : In _ _ _); obtain ⟨o17a, o17b⟩ := (hv53_11 : In _ _ _); obtain ⟨o18a, o18b⟩ := (hv55_11 : In _ _ _); omega)), TI.cast hT (by funext q; simp only [gset]; (repeat' split); all_goals first | rfl | omega | (subst_vars; rfl) | (exfalso; omega))⟩, hfr, (In.mk (by obtain ⟨o0a, o0b⟩ := (eL46R : In _ _ _); obtain ⟨o1a, o1b⟩ := (hv2_11 : In _ _ _); obtain ⟨o2a, o2b⟩ := (hv3_11 : In _ _ _); obtain ⟨o3a, o3b⟩ := (hv4_11 : In _ _ _); obtain ⟨o4a, o4b⟩ := (hv5_11 : In _ _ _); obtain ⟨o5a, o5b⟩ := (hb22 : In _ _ _); obtain ⟨o6a, o6b⟩ := (hv8_11 : In _ _ _); obtain ⟨o7a, o7b⟩ := (hv9_11 : In _ _ _); obtain ⟨o8a, o8b⟩ := (hv13_11 : In _ _ _); obtain ⟨o9a, o9b⟩ := (hv14_11 : In _ _ _); obtain ⟨o10a, o10b⟩ := (hv15_11 : In _ _ _); obtain ⟨o11a, o11b⟩ := (hv17_11 : In _ _ _); obtain ⟨o12a, o12b⟩ := (hv20_11 : In _ _ _); obtain ⟨o13a, o13b⟩ := (hv23_11 : In _ _ _); obtain ⟨o14a, o14b⟩ := (hv36_11 : In _ _ _); obtain ⟨o15a, o15b⟩ := (hv47_11 : In _ _ _); obtain ⟨o16a, o16b⟩ := (hv48_11 : In _ _ _); obtain ⟨o17a, o17b⟩ := (hv53_11 : In _ _ _); obtain ⟨o18a, o18b⟩ := (hv55_11 : In _ _ _); omega) (by obtain ⟨o0a, o0b⟩ := (eL46R : In _ _ _); obtain ⟨o1a, o1b⟩ := (hv2_11 : In _ _ _); obtain ⟨o2a, o2b⟩ := (hv3_11 : In _ _ _); obtain ⟨o3a, o3b⟩ := (hv4_11 : In _ _ _); obtain ⟨o4a, o4b⟩ := (hv5_11 : In _ _ _); obtain ⟨o5a, o5b⟩ := (hb22 : In _ _ _); obtain ⟨o6a, o6b⟩ := (hv8_11 : In _ _ _); obtain ⟨o7a, o7b⟩ := (hv9_11 : In _ _ _); obtain ⟨o8a, o8b⟩ := (hv13_11 : In _ _ _); obtain ⟨o9a, o9b⟩ := (hv14_11 : In _ _ _); obtain ⟨o10a, o10b⟩ := (hv15_11 : In _ _ _); obtain ⟨o11a, o11b⟩ := (hv17_11 : In _ _ _); obtain ⟨o12a, o12b⟩ := (hv20_11 : In _ _ _); obtain ⟨o13a, o13b⟩ := (hv23_11 : In _ _ _); obtain ⟨o14a, o14b⟩ := (hv36_11 : In _ _ _); obtain ⟨o15a, o15b⟩ := (hv47_11 : In _ _ _); obtain ⟨o16a, o16b⟩ := (hv48_11 : In _ _ _); obtain ⟨o17a, o17b⟩ := (hv53_11 : In _ _ _); obtain ⟨o18a, o18b⟩ := (hv55_11 : In _ _ _); omega))⟩) dX11_digit_43
    ·
      have oc0 : (0 : Int32).toInt = 0 := by decide
      have cc48 : r32.toInt = (0 : Int32).toInt := congrArg Int32.toInt c38
      have hb49 : In r32 0 0 := In.eq1 eL36R (⟨by decide, by decide⟩ : In 0 0 0) cc48 (by omega) (by omega)
      exact hJ28 _ _ _ hP hD hS (lv_sub hl [0, 1, 2] rfl)

abbrev rm_X11_digit_0_8 : Room := { frames := 3, cells := 0, slots := 0, locals := 61 }
abbrev po_X11_digit_0_8 (g : GG) (ad : Nat → Nat) (th : Nat → Int) (L : List Nat) (f : HP)  : Int32 → (List Nat × HP) → Prop := fun r u => u.1 = L ∧ (∃ za zr zl ze : Int, ((th 37 ≤ zr ∧ 0 ≤ zr ∧ 0 ≤ zl ∧ zr + zl = za ∧ za ≤ 500)) ∧ TI g ad (gset (gset (gset (gset th 37 za) 40 zr) 41 zl) 42 ze) u.2) ∧ (∀ b, b ≠ (ad 255) → u.2 b = f b) ∧ In r 0 8
set_option maxHeartbeats 4000000 in
set_option maxRecDepth 100000 in
theorem s_X11_digit_0_8 (l : Launch) (g : GG) (ad : Nat → Nat) (th : Nat → Int) (L : List Nat) (f : HP) (sz : Nat)  (hst : ST ad L) (hT : TI g ad th f)  : MtI l g yX11_digit cX11_digit 3 (some .int) rm_X11_digit_0_8 [.ref (ad 255), .int 0, .int 8] L f sz (po_X11_digit_0_8 g ad th L f ) := by
  refine MtI.of (by decide +kernel) (Nat.le_of_ble_eq_true rfl) ?_
  intro p e s m below meth c A hEn hP hD hS ls hl
  obtain ⟨hx, hb, hr, hml, hown, hlocks, hts, hG, hA, hE, hnm⟩ := hEn
  have hown : s.vm.findClass "RulerWordModel" = some m.cls := hown
  have hl : lv_has ls 3 [(0, .ref (ad 255)), (1, .int 0), (2, .int 8)] := hl
  have hfr : (∀ b, b ≠ (ad 255) → f b = f b) := fun b z0_ => rfl
  refine lv_aload_n hx hb dX11_digit_0 rfl (lv_at hl 0 rfl) ?_
  obtain ⟨v0_1, v2_1, v3_1, v4_1, v5_1, v6_1, v8_1, v9_1, v12_1, v13_1, v14_1, v15_1, v16_1, v17_1, v18_1, v19_1, v20_1, v21_1, v22_1, v23_1, v25_1, v36_1, v37_1, v38_1, v39_1, v40_1, v45_1, v46_1, v47_1, v48_1, v50_1, v51_1, v53_1, v55_1, hf2, hv0_1, hv2_1, hg2_1, hv3_1, hg3_1, hv4_1, hg4_1, hv5_1, hg5_1, hv6_1, hg6_1, hv8_1, hg8_1, hv9_1, hg9_1, hv12_1, hv13_1, hg13_1, hv14_1, hg14_1, hv15_1, hg15_1, hv17_1, hg17_1, hv20_1, hg20_1, hv23_1, hg23_1, hv25_1, hv36_1, hg36_1, hv47_1, hg47_1, hv48_1, hg48_1, hv53_1, hg53_1, hv55_1, hg55_1, hrel0_1⟩ := hT.2.2 0 (by decide)
  refine call_v (run_V (rm := rm_X11_digits) hx hb hml hown hts (s_X11_digits l g ad th _ _ _  hst hT ) cV_X11_digits wg_1570 ⟨Nat.le_of_ble_eq_true rfl, Nat.le_of_ble_eq_true rfl⟩ hG hE hA hP hD hS (hst.1 255 (by decide)) hf2 rfl rfl hl.1 (As := []) (rest := []) rfl (Nat.le_of_ble_eq_true rfl) dX11_digit_1 ⟨Nat.le_of_ble_eq_true rfl, Nat.le_of_ble_eq_true rfl⟩) hA hD hS (fun L4 f5 H locs hp6 hP hD hS => ?_)
  obtain ⟨eL7L, eL7T, eL7F⟩ := hp6
  have eL7L : L4 = L := eL7L
  rw [eL7L] at hP hD
  obtain ⟨zz8, zz9, zz10, hzz8, eL7T⟩ := eL7T
  have hT : TI g ad (gset (gset (gset th 37 zz8) 40 zz9) 41 zz10) f5 := eL7T
  have eL7F : ∀ b, b ≠ (ad 255) → f5 b = f b := eL7F
  have hfr : (∀ b, b ≠ (ad 255) → f5 b = f b) := fun b z0_ => (eL7F b z0_).trans (hfr b z0_)
  refine lv_aload_n hx hb dX11_digit_4 rfl (lv_at hl 0 rfl) ?_
  obtain ⟨v0_11, v2_11, v3_11, v4_11, v5_11, v6_11, v8_11, v9_11, v12_11, v13_11, v14_11, v15_11, v16_11, v17_11, v18_11, v19_11, v20_11, v21_11, v22_11, v23_11, v25_11, v36_11, v37_11, v38_11, v39_11, v40_11, v45_11, v46_11, v47_11, v48_11, v50_11, v51_11, v53_11, v55_11, hf12, hv0_11, hv2_11, hg2_11, hv3_11, hg3_11, hv4_11, hg4_11, hv5_11, hg5_11, hv6_11, hg6_11, hv8_11, hg8_11, hv9_11, hg9_11, hv12_11, hv13_11, hg13_11, hv14_11, hg14_11, hv15_11, hg15_11, hv17_11, hg17_11, hv20_11, hg20_11, hv23_11, hg23_11, hv25_11, hv36_11, hg36_11, hv47_11, hg47_11, hv48_11, hg48_11, hv53_11, hg53_11, hv55_11, hg55_11, hrel0_11⟩ := hT.2.2 0 (by decide)
  have hg2_11 : v2_11.toInt = th 13 := hg2_11
  have hg3_11 : v3_11.toInt = zz8 := hg3_11
  have hg4_11 : v4_11.toInt = th 42 := hg4_11
  have hg5_11 : v5_11.toInt = zz9 := hg5_11
  have hg6_11 : v6_11.toInt = zz10 := hg6_11
  have hg8_11 : v8_11.toInt = th 43 := hg8_11
  have hg9_11 : v9_11.toInt = th 35 := hg9_11
  have hg13_11 : v13_11.toInt = th 36 := hg13_11
  have hg14_11 : v14_11.toInt = th 10 := hg14_11
  have hg15_11 : v15_11.toInt = th 11 := hg15_11
  have hg17_11 : v17_11.toInt = th 12 := hg17_11
  have hg20_11 : v20_11.toInt = th 14 := hg20_11
  have hg23_11 : v23_11.toInt = th 15 := hg23_11
  have hg36_11 : v36_11.toInt = th 18 := hg36_11
  have hg47_11 : v47_11.toInt = th 16 := hg47_11
  have hg48_11 : v48_11.toInt = th 17 := hg48_11
  have hg53_11 : v53_11.toInt = th 38 := hg53_11
  have hg55_11 : v55_11.toInt = th 39 := hg55_11
  refine pl_get (v := .int v6_11) hx hb hts (fun w h => mT (inX11 w h)) hown hG.1 hP (hst.1 255 (by decide)) hf12 rfl 6 (by decide) (hts _ (mT wg_1342)) (fun _ h => h) rfl dX11_digit_5 ?_
  refine lv_iconst (v := 1) hx hb dX11_digit_8 (by decide) ?_
  have hJ28 : ∀ (H : Heap) (locs : List Loc) (ls : Array Slot), va_P g.1 vwCl (va_pl L f5) H → va_D A (va_pl L f5) → va_S A s.heap H locs → lv_has ls 3 [(0, .ref (ad 255)), (1, .int 0), (2, .int 8)] → W p l e rm_X11_digit_0_8 s m [.ref (ad 255), .int 0, .int 8].toArray below meth c H locs 0 0 (MQ below (va_Qi (po_X11_digit_0_8 g ad th L f ) (PstB g A) A) [.ref (ad 255), .int 0, .int 8].toArray s rm_X11_digit_0_8.cells rm_X11_digit_0_8.slots A) (F0 m 28 ls []) := by
    intro H locs ls hP hD hS hl
    refine lv_aload_n hx hb dX11_digit_28 rfl (lv_at hl 0 rfl) ?_
    refine lv_aload_n hx hb dX11_digit_29 rfl (lv_at hl 0 rfl) ?_
    refine pl_get (v := .int v5_11) hx hb hts (fun w h => mT (inX11 w h)) hown hG.1 hP (hst.1 255 (by decide)) hf12 rfl 5 (by decide) (hts _ (mT wg_1341)) (fun _ h => h) rfl dX11_digit_30 ?_
    refine call_v (run_V (rm := rm_X11_fails) hx hb hml hown hts (s_X11_fails l g ad (gset (gset (gset th 37 zz8) 40 zz9) 41 zz10) _ _ _ v5_11 hst hT hv5_11) cV_X11_fails wg_1545 ⟨Nat.le_of_ble_eq_true rfl, Nat.le_of_ble_eq_true rfl⟩ hG hE hA hP hD hS (hst.1 255 (by decide)) hf12 rfl rfl hl.1 (As := [.int v5_11]) (rest := []) rfl (Nat.le_of_ble_eq_true rfl) dX11_digit_33 ⟨Nat.le_of_ble_eq_true rfl, Nat.le_of_ble_eq_true rfl⟩) hA hD hS (fun L14 f15 H locs hp16 hP hD hS => ?_)
    obtain ⟨eL17L, eL17T, eL17F⟩ := hp16
    have eL17L : L14 = L := eL17L
    rw [eL17L] at hP hD
    obtain ⟨zz18, hzz18, eL17T⟩ := eL17T
    have hT : TI g ad (gset (gset (gset (gset th 37 zz8) 40 zz9) 41 zz10) 42 zz18) f15 := eL17T
    have eL17F : ∀ b, b ≠ (ad 255) → f15 b = f5 b := eL17F
    have hfr : (∀ b, b ≠ (ad 255) → f15 b = f b) := fun b z0_ => (eL17F b z0_).trans (hfr b z0_)
    refine lv_iload_n hx hb dX11_digit_36 rfl (lv_at hl 1 rfl) ?_
    exact ret_i (ty := .int) hx hb hr hlocks (rfl) hP hD hS (Nat.le_of_ble_eq_true rfl) (Nat.le_of_ble_eq_true rfl) (⟨rfl, ⟨zz8, zz9, zz10, zz18, (show (th 37 ≤ zz9 ∧ 0 ≤ zz9 ∧ 0 ≤ zz10 ∧ zz9 + zz10 = zz8 ∧ zz8 ≤ 500) from (by have oc0 : (0 : Int32).toInt = 0 := (by decide); omega)), TI.cast hT (by funext q; simp only [gset]; (repeat' split); all_goals first | rfl | omega | (subst_vars; rfl) | (exfalso; omega))⟩, hfr, (⟨by decide, by decide⟩ : In 0 0 8)⟩) dX11_digit_37
  refine lv_icmp_ne (tgt := 28) hx hb dX11_digit_9 (by decide) (fun c19 => ?_) (fun c19 => ?_)
  ·
    have oc1 : (1 : Int32).toInt = 1 := by decide
    have cc20 : v6_11.toInt ≠ (1 : Int32).toInt := i32_ne c19
    exact hJ28 _ _ _ hP hD hS (lv_sub hl [0, 1, 2] rfl)
  ·
    have oc1 : (1 : Int32).toInt = 1 := by decide
    have cc21 : v6_11.toInt = (1 : Int32).toInt := congrArg Int32.toInt c19
    have hb22 : In v6_11 1 1 := In.eq1 hv6_11 (⟨by decide, by decide⟩ : In 1 1 1) cc21 (by omega) (by omega)
    refine lv_aload_n hx hb dX11_digit_12 rfl (lv_at hl 0 rfl) ?_
    refine lv_iconst (v := 0) hx hb dX11_digit_13 (by decide) ?_
    refine call_i (run_V (rm := rm_X11_digitAt) hx hb hml hown hts (s_X11_digitAt l g ad (gset (gset (gset th 37 zz8) 40 zz9) 41 zz10) _ _ _ 0 hst hT (⟨by decide, by decide⟩ : In 0 0 499) (show zz9 + (0 : Int32).toInt < 500 from (by have oc0 : (0 : Int32).toInt = 0 := (by decide); obtain ⟨o0a, o0b⟩ := (hv2_11 : In _ _ _); obtain ⟨o1a, o1b⟩ := (hv3_11 : In _ _ _); obtain ⟨o2a, o2b⟩ := (hv4_11 : In _ _ _); obtain ⟨o3a, o3b⟩ := (hv5_11 : In _ _ _); obtain ⟨o4a, o4b⟩ := (hb22 : In _ _ _); obtain ⟨o5a, o5b⟩ := (hv8_11 : In _ _ _); obtain ⟨o6a, o6b⟩ := (hv9_11 : In _ _ _); obtain ⟨o7a, o7b⟩ := (hv13_11 : In _ _ _); obtain ⟨o8a, o8b⟩ := (hv14_11 : In _ _ _); obtain ⟨o9a, o9b⟩ := (hv15_11 : In _ _ _); obtain ⟨o10a, o10b⟩ := (hv17_11 : In _ _ _); obtain ⟨o11a, o11b⟩ := (hv20_11 : In _ _ _); obtain ⟨o12a, o12b⟩ := (hv23_11 : In _ _ _); obtain ⟨o13a, o13b⟩ := (hv36_11 : In _ _ _); obtain ⟨o14a, o14b⟩ := (hv47_11 : In _ _ _); obtain ⟨o15a, o15b⟩ := (hv48_11 : In _ _ _); obtain ⟨o16a, o16b⟩ := (hv53_11 : In _ _ _); obtain ⟨o17a, o17b⟩ := (hv55_11 : In _ _ _); omega))) cV_X11_digitAt wg_1577 ⟨Nat.le_of_ble_eq_true rfl, Nat.le_of_ble_eq_true rfl⟩ hG hE hA hP hD hS (hst.1 255 (by decide)) hf12 rfl rfl hl.1 (As := [.int 0]) (rest := []) rfl (Nat.le_of_ble_eq_true rfl) dX11_digit_14 ⟨Nat.le_of_ble_eq_true rfl, Nat.le_of_ble_eq_true rfl⟩) hA hD hS (fun r23 L24 f25 H locs hp26 hP hD hS => ?_)
    obtain ⟨eL27L, eL27T, eL27R, eL27X0⟩ := hp26
    have eL27L : L24 = L := eL27L
    have eL27T : f25 = f5 := eL27T
    rw [eL27L, eL27T] at hP hD
    have eL27R : In r23 (-176) 79 := eL27R
    obtain ⟨rw28, hf29, hc30⟩ := hT.2.2 1 (by decide)
    have hda31 : r23.toInt = (rw28 (zz9 + 0).toNat).toInt - 48 := (eL27X0 _ hf29)
    refine lv_i2l hx hb dX11_digit_17 rfl ?_
    refine lv_iload_n hx hb dX11_digit_18 rfl (lv_at hl 1 rfl) ?_
    refine lv_i2l (v := 0) hx hb dX11_digit_19 (by decide) ?_
    refine lv_iload_n hx hb dX11_digit_20 rfl (lv_at hl 2 rfl) ?_
    refine lv_i2l (v := 8) hx hb dX11_digit_21 (by decide) ?_
    refine call_i (run_S (rm := rm_X11_isIn) hx hb hml hown hts (s_X11_isIn l g ad (gset (gset (gset th 37 zz8) 40 zz9) 41 zz10) _ _ _ (r23.toInt64) 0 8 hst hT ) cS_X11_isIn wg_1581 ⟨Nat.le_of_ble_eq_true rfl, Nat.le_of_ble_eq_true rfl⟩ hG hE hA hP hD hS rfl hl.1 (As := [.long (r23.toInt64), .long 0, .long 8]) (rest := []) rfl (Nat.le_of_ble_eq_true rfl) dX11_digit_22 ⟨Nat.le_of_ble_eq_true rfl, Nat.le_of_ble_eq_true rfl⟩) hA hD hS (fun r32 L33 f34 H locs hp35 hP hD hS => ?_)
    obtain ⟨eL36L, eL36T, eL36R, eL36X0, eL36X1⟩ := hp35
    have eL36L : L33 = L := eL36L
    have eL36T : f34 = f5 := eL36T
    rw [eL36L, eL36T] at hP hD
    have eL36R : In r32 0 1 := eL36R
    have hii37 : r32.toInt = 0 ∨ (0 ≤ r23.toInt ∧ r23.toInt ≤ 8) := by have z := eL36X0; rw [i2l_t r23, (by decide : (0 : Int64).toInt = 0), (by decide : (8 : Int64).toInt = 8)] at z; exact z
    have hii37w : ¬ r32 = 0 → In r23 0 8 := fun c => by have c2 := i32_ne c; have e0 : (0 : Int32).toInt = 0 := (by decide); exact ⟨by omega, by omega⟩
    refine lv_if_ne (tgt := 38) hx hb dX11_digit_25 (by decide) (fun c38 => ?_) (fun c38 => ?_)
    ·
      have oc0 : (0 : Int32).toInt = 0 := by decide
      have cc39 : r32.toInt ≠ (0 : Int32).toInt := i32_ne c38
      have hb40 : In r32 1 1 := In.ne1 eL36R (⟨by decide, by decide⟩ : In 0 0 0) cc39 (by omega) (by omega)
      have hb41 : In r23 0 8 := In.both (hii37w c38) eL27R (by decide) (by decide)
      refine lv_aload_n hx hb dX11_digit_38 rfl (lv_at hl 0 rfl) ?_
      refine lv_iconst (v := 0) hx hb dX11_digit_39 (by decide) ?_
      refine call_i (run_V (rm := rm_X11_digitAt) hx hb hml hown hts (s_X11_digitAt l g ad (gset (gset (gset th 37 zz8) 40 zz9) 41 zz10) _ _ _ 0 hst hT (⟨by decide, by decide⟩ : In 0 0 499) (show zz9 + (0 : Int32).toInt < 500 from (by have oc0 : (0 : Int32).toInt = 0 := (by decide); obtain ⟨o0a, o0b⟩ := (hv2_11 : In _ _ _); obtain ⟨o1a, o1b⟩ := (hv3_11 : In _ _ _); obtain ⟨o2a, o2b⟩ := (hv4_11 : In _ _ _); obtain ⟨o3a, o3b⟩ := (hv5_11 : In _ _ _); obtain ⟨o4a, o4b⟩ := (hb22 : In _ _ _); obtain ⟨o5a, o5b⟩ := (hv8_11 : In _ _ _); obtain ⟨o6a, o6b⟩ := (hv9_11 : In _ _ _); obtain ⟨o7a, o7b⟩ := (hv13_11 : In _ _ _); obtain ⟨o8a, o8b⟩ := (hv14_11 : In _ _ _); obtain ⟨o9a, o9b⟩ := (hv15_11 : In _ _ _); obtain ⟨o10a, o10b⟩ := (hv17_11 : In _ _ _); obtain ⟨o11a, o11b⟩ := (hv20_11 : In _ _ _); obtain ⟨o12a, o12b⟩ := (hv23_11 : In _ _ _); obtain ⟨o13a, o13b⟩ := (hv36_11 : In _ _ _); obtain ⟨o14a, o14b⟩ := (hv47_11 : In _ _ _); obtain ⟨o15a, o15b⟩ := (hv48_11 : In _ _ _); obtain ⟨o16a, o16b⟩ := (hv53_11 : In _ _ _); obtain ⟨o17a, o17b⟩ := (hv55_11 : In _ _ _); omega))) cV_X11_digitAt wg_1577 ⟨Nat.le_of_ble_eq_true rfl, Nat.le_of_ble_eq_true rfl⟩ hG hE hA hP hD hS (hst.1 255 (by decide)) hf12 rfl rfl hl.1 (As := [.int 0]) (rest := []) rfl (Nat.le_of_ble_eq_true rfl) dX11_digit_40 ⟨Nat.le_of_ble_eq_true rfl, Nat.le_of_ble_eq_true rfl⟩) hA hD hS (fun r42 L43 f44 H locs hp45 hP hD hS => ?_)
      obtain ⟨eL46L, eL46T, eL46R, eL46X0⟩ := hp45
      have eL46L : L43 = L := eL46L
      have eL46T : f44 = f5 := eL46T
      rw [eL46L, eL46T] at hP hD
      have eL46R : In r42 (-176) 79 := eL46R
      have hda47 : r42.toInt = (rw28 (zz9 + 0).toNat).toInt - 48 := (eL46X0 _ hf29)
      exact ret_i (ty := .int) hx hb hr hlocks (rfl) hP hD hS (Nat.le_of_ble_eq_true rfl) (Nat.le_of_ble_eq_true rfl) (⟨rfl, ⟨zz8, zz9, zz10, (th 42), (show (th 37 ≤ zz9 ∧ 0 ≤ zz9 ∧ 0 ≤ zz10 ∧ zz9 + zz10 = zz8 ∧ zz8 ≤ 500) from (by obtain ⟨o0a, o0b⟩ := (eL46R : In _ _ _); obtain ⟨o1a, o1b⟩ := (hv2_11 : In _ _ _); obtain ⟨o2a, o2b⟩ := (hv3_11 : In _ _ _); obtain ⟨o3a, o3b⟩ := (hv4_11 : In _ _ _); obtain ⟨o4a, o4b⟩ := (hv5_11 : In _ _ _); obtain ⟨o5a, o5b⟩ := (hb22 : In _ _ _); obtain ⟨o6a, o6b⟩ := (hv8_11 : In _ _ _); obtain ⟨o7a, o7b⟩ := (hv9_11 : In _ _ _); obtain ⟨o8a, o8b⟩ := (hv13_11 : In _ _ _); obtain ⟨o9a, o9b⟩ := (hv14_11 : In _ _ _); obtain ⟨o10a, o10b⟩ := (hv15_11 : In _ _ _); obtain ⟨o11a, o11b⟩ := (hv17_11 : In _ _ _); obtain ⟨o12a, o12b⟩ := (hv20_11 : In _ _ _); obtain ⟨o13a, o13b⟩ := (hv23_11 : In _ _ _); obtain ⟨o14a, o14b⟩ := (hv36_11 : In _ _ _); obtain ⟨o15a, o15b⟩ := (hv47_11 : In _ _ _); obtain ⟨o16a, o16b⟩ := (hv48_11 : In _ _ _); obtain ⟨o17a, o17b⟩ := (hv53_11 : In _ _ _); obtain ⟨o18a, o18b⟩ := (hv55_11 : In _ _ _); omega)), TI.cast hT (by funext q; simp only [gset]; (repeat' split); all_goals first | rfl | omega | (subst_vars; rfl) | (exfalso; omega))⟩, hfr, (In.mk (by obtain ⟨o0a, o0b⟩ := (eL46R : In _ _ _); obtain ⟨o1a, o1b⟩ := (hv2_11 : In _ _ _); obtain ⟨o2a, o2b⟩ := (hv3_11 : In _ _ _); obtain ⟨o3a, o3b⟩ := (hv4_11 : In _ _ _); obtain ⟨o4a, o4b⟩ := (hv5_11 : In _ _ _); obtain ⟨o5a, o5b⟩ := (hb22 : In _ _ _); obtain ⟨o6a, o6b⟩ := (hv8_11 : In _ _ _); obtain ⟨o7a, o7b⟩ := (hv9_11 : In _ _ _); obtain ⟨o8a, o8b⟩ := (hv13_11 : In _ _ _); obtain ⟨o9a, o9b⟩ := (hv14_11 : In _ _ _); obtain ⟨o10a, o10b⟩ := (hv15_11 : In _ _ _); obtain ⟨o11a, o11b⟩ := (hv17_11 : In _ _ _); obtain ⟨o12a, o12b⟩ := (hv20_11 : In _ _ _); obtain ⟨o13a, o13b⟩ := (hv23_11 : In _ _ _); obtain ⟨o14a, o14b⟩ := (hv36_11 : In _ _ _); obtain ⟨o15a, o15b⟩ := (hv47_11 : In _ _ _); obtain ⟨o16a, o16b⟩ := (hv48_11 : In _ _ _); obtain ⟨o17a, o17b⟩ := (hv53_11 : In _ _ _); obtain ⟨o18a, o18b⟩ := (hv55_11 : In _ _ _); omega) (by obtain ⟨o0a, o0b⟩ := (eL46R : In _ _ _); obtain ⟨o1a, o1b⟩ := (hv2_11 : In _ _ _); obtain ⟨o2a, o2b⟩ := (hv3_11 : In _ _ _); obtain ⟨o3a, o3b⟩ := (hv4_11 : In _ _ _); obtain ⟨o4a, o4b⟩ := (hv5_11 : In _ _ _); obtain ⟨o5a, o5b⟩ := (hb22 : In _ _ _); obtain ⟨o6a, o6b⟩ := (hv8_11 : In _ _ _); obtain ⟨o7a, o7b⟩ := (hv9_11 : In _ _ _); obtain ⟨o8a, o8b⟩ := (hv13_11 : In _ _ _); obtain ⟨o9a, o9b⟩ := (hv14_11 : In _ _ _); obtain ⟨o10a, o10b⟩ := (hv15_11 : In _ _ _); obtain ⟨o11a, o11b⟩ := (hv17_11 : In _ _ _); obtain ⟨o12a, o12b⟩ := (hv20_11 : In _ _ _); obtain ⟨o13a, o13b⟩ := (hv23_11 : In _ _ _); obtain ⟨o14a, o14b⟩ := (hv36_11 : In _ _ _); obtain ⟨o15a, o15b⟩ := (hv47_11 : In _ _ _); obtain ⟨o16a, o16b⟩ := (hv48_11 : In _ _ _); obtain ⟨o17a, o17b⟩ := (hv53_11 : In _ _ _); obtain ⟨o18a, o18b⟩ := (hv55_11 : In _ _ _); omega))⟩) dX11_digit_43
    ·
      have oc0 : (0 : Int32).toInt = 0 := by decide
      have cc48 : r32.toInt = (0 : Int32).toInt := congrArg Int32.toInt c38
      have hb49 : In r32 0 0 := In.eq1 eL36R (⟨by decide, by decide⟩ : In 0 0 0) cc48 (by omega) (by omega)
      exact hJ28 _ _ _ hP hD hS (lv_sub hl [0, 1, 2] rfl)

abbrev rm_X11_pieceHere : Room := { frames := 5, cells := 0, slots := 0, locals := 108 }
abbrev po_X11_pieceHere (g : GG) (ad : Nat → Nat) (th : Nat → Int) (L : List Nat) (f : HP)  : Int32 → (List Nat × HP) → Prop := fun r u => u.1 = L ∧ (∃ za : Int, (th 37 ≤ za ∧ za ≤ 500) ∧ TI g ad (gset th 37 za) u.2) ∧ (∀ b, b ≠ (ad 255) → u.2 b = f b) ∧ In r (-1) 5
set_option maxHeartbeats 4000000 in
set_option maxRecDepth 100000 in
theorem s_X11_pieceHere (l : Launch) (g : GG) (ad : Nat → Nat) (th : Nat → Int) (L : List Nat) (f : HP) (sz : Nat)  (hst : ST ad L) (hT : TI g ad th f)  : MtI l g yX11_pieceHere cX11_pieceHere 1 (some .int) rm_X11_pieceHere [.ref (ad 255)] L f sz (po_X11_pieceHere g ad th L f ) := by
  refine MtI.of (by decide +kernel) (Nat.le_of_ble_eq_true rfl) ?_
  intro p e s m below meth c A hEn hP hD hS ls hl
  obtain ⟨hx, hb, hr, hml, hown, hlocks, hts, hG, hA, hE, hnm⟩ := hEn
  have hown : s.vm.findClass "RulerWordModel" = some m.cls := hown
  have hl : lv_has ls 1 [(0, .ref (ad 255))] := hl
  have hfr : (∀ b, b ≠ (ad 255) → f b = f b) := fun b z0_ => rfl
  refine lv_aload_n hx hb dX11_pieceHere_0 rfl (lv_at hl 0 rfl) ?_
  refine va_ldcS hx hb hown (hG.2.2.1 ("RulerWordModel", 139, "size", 2) (by decide +kernel)) dX11_pieceHere_1 ?_
  obtain ⟨v0_1, v2_1, v3_1, v4_1, v5_1, v6_1, v8_1, v9_1, v12_1, v13_1, v14_1, v15_1, v16_1, v17_1, v18_1, v19_1, v20_1, v21_1, v22_1, v23_1, v25_1, v36_1, v37_1, v38_1, v39_1, v40_1, v45_1, v46_1, v47_1, v48_1, v50_1, v51_1, v53_1, v55_1, hf2, hv0_1, hv2_1, hg2_1, hv3_1, hg3_1, hv4_1, hg4_1, hv5_1, hg5_1, hv6_1, hg6_1, hv8_1, hg8_1, hv9_1, hg9_1, hv12_1, hv13_1, hg13_1, hv14_1, hg14_1, hv15_1, hg15_1, hv17_1, hg17_1, hv20_1, hg20_1, hv23_1, hg23_1, hv25_1, hv36_1, hg36_1, hv47_1, hg47_1, hv48_1, hg48_1, hv53_1, hg53_1, hv55_1, hg55_1, hrel0_1⟩ := hT.2.2 0 (by decide)
  refine call_i (run_V (rm := rm_X11_takes) hx hb hml hown hts (s_X11_takes l g ad th _ _ _ 2 hst hT (by decide)) cV_X11_takes wg_1538 ⟨Nat.le_of_ble_eq_true rfl, Nat.le_of_ble_eq_true rfl⟩ hG hE hA hP hD hS (hst.1 255 (by decide)) hf2 rfl rfl hl.1 (As := [.ref (g.2.2.1 2)]) (rest := []) rfl (Nat.le_of_ble_eq_true rfl) dX11_pieceHere_3 ⟨Nat.le_of_ble_eq_true rfl, Nat.le_of_ble_eq_true rfl⟩) hA hD hS (fun r3 L4 f5 H locs hp6 hP hD hS => ?_)
  obtain ⟨eL7L, eL7T, eL7F, eL7R⟩ := hp6
  have eL7L : L4 = L := eL7L
  rw [eL7L] at hP hD
  obtain ⟨zz8, hzz8, eL7T⟩ := eL7T
  have hT : TI g ad (gset th 37 zz8) f5 := eL7T
  have eL7F : ∀ b, b ≠ (ad 255) → f5 b = f b := eL7F
  have hfr : (∀ b, b ≠ (ad 255) → f5 b = f b) := fun b z0_ => (eL7F b z0_).trans (hfr b z0_)
  have eL7R : In r3 0 1 := eL7R
  refine lv_if_eq (tgt := 11) hx hb dX11_pieceHere_6 (by decide) (fun c9 => ?_) (fun c9 => ?_)
  ·
    have oc0 : (0 : Int32).toInt = 0 := by decide
    have cc10 : r3.toInt = (0 : Int32).toInt := congrArg Int32.toInt c9
    have hb11 : In r3 0 0 := In.eq1 eL7R (⟨by decide, by decide⟩ : In 0 0 0) cc10 (by omega) (by omega)
    refine lv_aload_n hx hb dX11_pieceHere_11 rfl (lv_at hl 0 rfl) ?_
    refine va_ldcS hx hb hown (hG.2.2.1 ("RulerWordModel", 145, "bound", 3) (by decide +kernel)) dX11_pieceHere_12 ?_
    obtain ⟨v0_12, v2_12, v3_12, v4_12, v5_12, v6_12, v8_12, v9_12, v12_12, v13_12, v14_12, v15_12, v16_12, v17_12, v18_12, v19_12, v20_12, v21_12, v22_12, v23_12, v25_12, v36_12, v37_12, v38_12, v39_12, v40_12, v45_12, v46_12, v47_12, v48_12, v50_12, v51_12, v53_12, v55_12, hf13, hv0_12, hv2_12, hg2_12, hv3_12, hg3_12, hv4_12, hg4_12, hv5_12, hg5_12, hv6_12, hg6_12, hv8_12, hg8_12, hv9_12, hg9_12, hv12_12, hv13_12, hg13_12, hv14_12, hg14_12, hv15_12, hg15_12, hv17_12, hg17_12, hv20_12, hg20_12, hv23_12, hg23_12, hv25_12, hv36_12, hg36_12, hv47_12, hg47_12, hv48_12, hg48_12, hv53_12, hg53_12, hv55_12, hg55_12, hrel0_12⟩ := hT.2.2 0 (by decide)
    have hg2_12 : v2_12.toInt = th 13 := hg2_12
    have hg3_12 : v3_12.toInt = zz8 := hg3_12
    have hg4_12 : v4_12.toInt = th 42 := hg4_12
    have hg5_12 : v5_12.toInt = th 40 := hg5_12
    have hg6_12 : v6_12.toInt = th 41 := hg6_12
    have hg8_12 : v8_12.toInt = th 43 := hg8_12
    have hg9_12 : v9_12.toInt = th 35 := hg9_12
    have hg13_12 : v13_12.toInt = th 36 := hg13_12
    have hg14_12 : v14_12.toInt = th 10 := hg14_12
    have hg15_12 : v15_12.toInt = th 11 := hg15_12
    have hg17_12 : v17_12.toInt = th 12 := hg17_12
    have hg20_12 : v20_12.toInt = th 14 := hg20_12
    have hg23_12 : v23_12.toInt = th 15 := hg23_12
    have hg36_12 : v36_12.toInt = th 18 := hg36_12
    have hg47_12 : v47_12.toInt = th 16 := hg47_12
    have hg48_12 : v48_12.toInt = th 17 := hg48_12
    have hg53_12 : v53_12.toInt = th 38 := hg53_12
    have hg55_12 : v55_12.toInt = th 39 := hg55_12
    refine call_i (run_V (rm := rm_X11_takes) hx hb hml hown hts (s_X11_takes l g ad (gset th 37 zz8) _ _ _ 3 hst hT (by decide)) cV_X11_takes wg_1538 ⟨Nat.le_of_ble_eq_true rfl, Nat.le_of_ble_eq_true rfl⟩ hG hE hA hP hD hS (hst.1 255 (by decide)) hf13 rfl rfl hl.1 (As := [.ref (g.2.2.1 3)]) (rest := []) rfl (Nat.le_of_ble_eq_true rfl) dX11_pieceHere_14 ⟨Nat.le_of_ble_eq_true rfl, Nat.le_of_ble_eq_true rfl⟩) hA hD hS (fun r14 L15 f16 H locs hp17 hP hD hS => ?_)
    obtain ⟨eL18L, eL18T, eL18F, eL18R⟩ := hp17
    have eL18L : L15 = L := eL18L
    rw [eL18L] at hP hD
    obtain ⟨zz19, hzz19, eL18T⟩ := eL18T
    have hT : TI g ad (gset (gset th 37 zz8) 37 zz19) f16 := eL18T
    have hT : TI g ad (gset th 37 zz19) f16 := TI.cast hT (by funext q; simp only [gset]; (repeat' split); all_goals first | rfl | omega | (subst_vars; rfl) | (exfalso; omega))
    have eL18F : ∀ b, b ≠ (ad 255) → f16 b = f5 b := eL18F
    have hfr : (∀ b, b ≠ (ad 255) → f16 b = f b) := fun b z0_ => (eL18F b z0_).trans (hfr b z0_)
    have eL18R : In r14 0 1 := eL18R
    refine lv_if_eq (tgt := 22) hx hb dX11_pieceHere_17 (by decide) (fun c20 => ?_) (fun c20 => ?_)
    ·
      have oc0 : (0 : Int32).toInt = 0 := by decide
      have cc21 : r14.toInt = (0 : Int32).toInt := congrArg Int32.toInt c20
      have hb22 : In r14 0 0 := In.eq1 eL18R (⟨by decide, by decide⟩ : In 0 0 0) cc21 (by omega) (by omega)
      refine lv_aload_n hx hb dX11_pieceHere_22 rfl (lv_at hl 0 rfl) ?_
      refine va_ldcS hx hb hown (hG.2.2.1 ("RulerWordModel", 147, "phases", 4) (by decide +kernel)) dX11_pieceHere_23 ?_
      obtain ⟨v0_23, v2_23, v3_23, v4_23, v5_23, v6_23, v8_23, v9_23, v12_23, v13_23, v14_23, v15_23, v16_23, v17_23, v18_23, v19_23, v20_23, v21_23, v22_23, v23_23, v25_23, v36_23, v37_23, v38_23, v39_23, v40_23, v45_23, v46_23, v47_23, v48_23, v50_23, v51_23, v53_23, v55_23, hf24, hv0_23, hv2_23, hg2_23, hv3_23, hg3_23, hv4_23, hg4_23, hv5_23, hg5_23, hv6_23, hg6_23, hv8_23, hg8_23, hv9_23, hg9_23, hv12_23, hv13_23, hg13_23, hv14_23, hg14_23, hv15_23, hg15_23, hv17_23, hg17_23, hv20_23, hg20_23, hv23_23, hg23_23, hv25_23, hv36_23, hg36_23, hv47_23, hg47_23, hv48_23, hg48_23, hv53_23, hg53_23, hv55_23, hg55_23, hrel0_23⟩ := hT.2.2 0 (by decide)
      have hg2_23 : v2_23.toInt = th 13 := hg2_23
      have hg3_23 : v3_23.toInt = zz19 := hg3_23
      have hg4_23 : v4_23.toInt = th 42 := hg4_23
      have hg5_23 : v5_23.toInt = th 40 := hg5_23
      have hg6_23 : v6_23.toInt = th 41 := hg6_23
      have hg8_23 : v8_23.toInt = th 43 := hg8_23
      have hg9_23 : v9_23.toInt = th 35 := hg9_23
      have hg13_23 : v13_23.toInt = th 36 := hg13_23
      have hg14_23 : v14_23.toInt = th 10 := hg14_23
      have hg15_23 : v15_23.toInt = th 11 := hg15_23
      have hg17_23 : v17_23.toInt = th 12 := hg17_23
      have hg20_23 : v20_23.toInt = th 14 := hg20_23
      have hg23_23 : v23_23.toInt = th 15 := hg23_23
      have hg36_23 : v36_23.toInt = th 18 := hg36_23
      have hg47_23 : v47_23.toInt = th 16 := hg47_23
      have hg48_23 : v48_23.toInt = th 17 := hg48_23
      have hg53_23 : v53_23.toInt = th 38 := hg53_23
      have hg55_23 : v55_23.toInt = th 39 := hg55_23
      refine call_i (run_V (rm := rm_X11_takes) hx hb hml hown hts (s_X11_takes l g ad (gset th 37 zz19) _ _ _ 4 hst hT (by decide)) cV_X11_takes wg_1538 ⟨Nat.le_of_ble_eq_true rfl, Nat.le_of_ble_eq_true rfl⟩ hG hE hA hP hD hS (hst.1 255 (by decide)) hf24 rfl rfl hl.1 (As := [.ref (g.2.2.1 4)]) (rest := []) rfl (Nat.le_of_ble_eq_true rfl) dX11_pieceHere_25 ⟨Nat.le_of_ble_eq_true rfl, Nat.le_of_ble_eq_true rfl⟩) hA hD hS (fun r25 L26 f27 H locs hp28 hP hD hS => ?_)
      obtain ⟨eL29L, eL29T, eL29F, eL29R⟩ := hp28
      have eL29L : L26 = L := eL29L
      rw [eL29L] at hP hD
      obtain ⟨zz30, hzz30, eL29T⟩ := eL29T
      have hT : TI g ad (gset (gset th 37 zz19) 37 zz30) f27 := eL29T
      have hT : TI g ad (gset th 37 zz30) f27 := TI.cast hT (by funext q; simp only [gset]; (repeat' split); all_goals first | rfl | omega | (subst_vars; rfl) | (exfalso; omega))
      have eL29F : ∀ b, b ≠ (ad 255) → f27 b = f16 b := eL29F
      have hfr : (∀ b, b ≠ (ad 255) → f27 b = f b) := fun b z0_ => (eL29F b z0_).trans (hfr b z0_)
      have eL29R : In r25 0 1 := eL29R
      refine lv_if_eq (tgt := 33) hx hb dX11_pieceHere_28 (by decide) (fun c31 => ?_) (fun c31 => ?_)
      ·
        have oc0 : (0 : Int32).toInt = 0 := by decide
        have cc32 : r25.toInt = (0 : Int32).toInt := congrArg Int32.toInt c31
        have hb33 : In r25 0 0 := In.eq1 eL29R (⟨by decide, by decide⟩ : In 0 0 0) cc32 (by omega) (by omega)
        refine lv_aload_n hx hb dX11_pieceHere_33 rfl (lv_at hl 0 rfl) ?_
        refine va_ldcS hx hb hown (hG.2.2.1 ("RulerWordModel", 149, "starts", 5) (by decide +kernel)) dX11_pieceHere_34 ?_
        obtain ⟨v0_34, v2_34, v3_34, v4_34, v5_34, v6_34, v8_34, v9_34, v12_34, v13_34, v14_34, v15_34, v16_34, v17_34, v18_34, v19_34, v20_34, v21_34, v22_34, v23_34, v25_34, v36_34, v37_34, v38_34, v39_34, v40_34, v45_34, v46_34, v47_34, v48_34, v50_34, v51_34, v53_34, v55_34, hf35, hv0_34, hv2_34, hg2_34, hv3_34, hg3_34, hv4_34, hg4_34, hv5_34, hg5_34, hv6_34, hg6_34, hv8_34, hg8_34, hv9_34, hg9_34, hv12_34, hv13_34, hg13_34, hv14_34, hg14_34, hv15_34, hg15_34, hv17_34, hg17_34, hv20_34, hg20_34, hv23_34, hg23_34, hv25_34, hv36_34, hg36_34, hv47_34, hg47_34, hv48_34, hg48_34, hv53_34, hg53_34, hv55_34, hg55_34, hrel0_34⟩ := hT.2.2 0 (by decide)
        have hg2_34 : v2_34.toInt = th 13 := hg2_34
        have hg3_34 : v3_34.toInt = zz30 := hg3_34
        have hg4_34 : v4_34.toInt = th 42 := hg4_34
        have hg5_34 : v5_34.toInt = th 40 := hg5_34
        have hg6_34 : v6_34.toInt = th 41 := hg6_34
        have hg8_34 : v8_34.toInt = th 43 := hg8_34
        have hg9_34 : v9_34.toInt = th 35 := hg9_34
        have hg13_34 : v13_34.toInt = th 36 := hg13_34
        have hg14_34 : v14_34.toInt = th 10 := hg14_34
        have hg15_34 : v15_34.toInt = th 11 := hg15_34
        have hg17_34 : v17_34.toInt = th 12 := hg17_34
        have hg20_34 : v20_34.toInt = th 14 := hg20_34
        have hg23_34 : v23_34.toInt = th 15 := hg23_34
        have hg36_34 : v36_34.toInt = th 18 := hg36_34
        have hg47_34 : v47_34.toInt = th 16 := hg47_34
        have hg48_34 : v48_34.toInt = th 17 := hg48_34
        have hg53_34 : v53_34.toInt = th 38 := hg53_34
        have hg55_34 : v55_34.toInt = th 39 := hg55_34
        refine call_i (run_V (rm := rm_X11_takes) hx hb hml hown hts (s_X11_takes l g ad (gset th 37 zz30) _ _ _ 5 hst hT (by decide)) cV_X11_takes wg_1538 ⟨Nat.le_of_ble_eq_true rfl, Nat.le_of_ble_eq_true rfl⟩ hG hE hA hP hD hS (hst.1 255 (by decide)) hf35 rfl rfl hl.1 (As := [.ref (g.2.2.1 5)]) (rest := []) rfl (Nat.le_of_ble_eq_true rfl) dX11_pieceHere_36 ⟨Nat.le_of_ble_eq_true rfl, Nat.le_of_ble_eq_true rfl⟩) hA hD hS (fun r36 L37 f38 H locs hp39 hP hD hS => ?_)
        obtain ⟨eL40L, eL40T, eL40F, eL40R⟩ := hp39
        have eL40L : L37 = L := eL40L
        rw [eL40L] at hP hD
        obtain ⟨zz41, hzz41, eL40T⟩ := eL40T
        have hT : TI g ad (gset (gset th 37 zz30) 37 zz41) f38 := eL40T
        have hT : TI g ad (gset th 37 zz41) f38 := TI.cast hT (by funext q; simp only [gset]; (repeat' split); all_goals first | rfl | omega | (subst_vars; rfl) | (exfalso; omega))
        have eL40F : ∀ b, b ≠ (ad 255) → f38 b = f27 b := eL40F
        have hfr : (∀ b, b ≠ (ad 255) → f38 b = f b) := fun b z0_ => (eL40F b z0_).trans (hfr b z0_)
        have eL40R : In r36 0 1 := eL40R
        refine lv_if_eq (tgt := 44) hx hb dX11_pieceHere_39 (by decide) (fun c42 => ?_) (fun c42 => ?_)
        ·
          have oc0 : (0 : Int32).toInt = 0 := by decide
          have cc43 : r36.toInt = (0 : Int32).toInt := congrArg Int32.toInt c42
          have hb44 : In r36 0 0 := In.eq1 eL40R (⟨by decide, by decide⟩ : In 0 0 0) cc43 (by omega) (by omega)
          refine lv_aload_n hx hb dX11_pieceHere_44 rfl (lv_at hl 0 rfl) ?_
          refine va_ldcS hx hb hown (hG.2.2.1 ("RulerWordModel", 151, "false", 6) (by decide +kernel)) dX11_pieceHere_45 ?_
          obtain ⟨v0_45, v2_45, v3_45, v4_45, v5_45, v6_45, v8_45, v9_45, v12_45, v13_45, v14_45, v15_45, v16_45, v17_45, v18_45, v19_45, v20_45, v21_45, v22_45, v23_45, v25_45, v36_45, v37_45, v38_45, v39_45, v40_45, v45_45, v46_45, v47_45, v48_45, v50_45, v51_45, v53_45, v55_45, hf46, hv0_45, hv2_45, hg2_45, hv3_45, hg3_45, hv4_45, hg4_45, hv5_45, hg5_45, hv6_45, hg6_45, hv8_45, hg8_45, hv9_45, hg9_45, hv12_45, hv13_45, hg13_45, hv14_45, hg14_45, hv15_45, hg15_45, hv17_45, hg17_45, hv20_45, hg20_45, hv23_45, hg23_45, hv25_45, hv36_45, hg36_45, hv47_45, hg47_45, hv48_45, hg48_45, hv53_45, hg53_45, hv55_45, hg55_45, hrel0_45⟩ := hT.2.2 0 (by decide)
          have hg2_45 : v2_45.toInt = th 13 := hg2_45
          have hg3_45 : v3_45.toInt = zz41 := hg3_45
          have hg4_45 : v4_45.toInt = th 42 := hg4_45
          have hg5_45 : v5_45.toInt = th 40 := hg5_45
          have hg6_45 : v6_45.toInt = th 41 := hg6_45
          have hg8_45 : v8_45.toInt = th 43 := hg8_45
          have hg9_45 : v9_45.toInt = th 35 := hg9_45
          have hg13_45 : v13_45.toInt = th 36 := hg13_45
          have hg14_45 : v14_45.toInt = th 10 := hg14_45
          have hg15_45 : v15_45.toInt = th 11 := hg15_45
          have hg17_45 : v17_45.toInt = th 12 := hg17_45
          have hg20_45 : v20_45.toInt = th 14 := hg20_45
          have hg23_45 : v23_45.toInt = th 15 := hg23_45
          have hg36_45 : v36_45.toInt = th 18 := hg36_45
          have hg47_45 : v47_45.toInt = th 16 := hg47_45
          have hg48_45 : v48_45.toInt = th 17 := hg48_45
          have hg53_45 : v53_45.toInt = th 38 := hg53_45
          have hg55_45 : v55_45.toInt = th 39 := hg55_45
          refine call_i (run_V (rm := rm_X11_takes) hx hb hml hown hts (s_X11_takes l g ad (gset th 37 zz41) _ _ _ 6 hst hT (by decide)) cV_X11_takes wg_1538 ⟨Nat.le_of_ble_eq_true rfl, Nat.le_of_ble_eq_true rfl⟩ hG hE hA hP hD hS (hst.1 255 (by decide)) hf46 rfl rfl hl.1 (As := [.ref (g.2.2.1 6)]) (rest := []) rfl (Nat.le_of_ble_eq_true rfl) dX11_pieceHere_47 ⟨Nat.le_of_ble_eq_true rfl, Nat.le_of_ble_eq_true rfl⟩) hA hD hS (fun r47 L48 f49 H locs hp50 hP hD hS => ?_)
          obtain ⟨eL51L, eL51T, eL51F, eL51R⟩ := hp50
          have eL51L : L48 = L := eL51L
          rw [eL51L] at hP hD
          obtain ⟨zz52, hzz52, eL51T⟩ := eL51T
          have hT : TI g ad (gset (gset th 37 zz41) 37 zz52) f49 := eL51T
          have hT : TI g ad (gset th 37 zz52) f49 := TI.cast hT (by funext q; simp only [gset]; (repeat' split); all_goals first | rfl | omega | (subst_vars; rfl) | (exfalso; omega))
          have eL51F : ∀ b, b ≠ (ad 255) → f49 b = f38 b := eL51F
          have hfr : (∀ b, b ≠ (ad 255) → f49 b = f b) := fun b z0_ => (eL51F b z0_).trans (hfr b z0_)
          have eL51R : In r47 0 1 := eL51R
          refine lv_if_eq (tgt := 55) hx hb dX11_pieceHere_50 (by decide) (fun c53 => ?_) (fun c53 => ?_)
          ·
            have oc0 : (0 : Int32).toInt = 0 := by decide
            have cc54 : r47.toInt = (0 : Int32).toInt := congrArg Int32.toInt c53
            have hb55 : In r47 0 0 := In.eq1 eL51R (⟨by decide, by decide⟩ : In 0 0 0) cc54 (by omega) (by omega)
            refine lv_aload_n hx hb dX11_pieceHere_55 rfl (lv_at hl 0 rfl) ?_
            refine va_ldcS hx hb hown (hG.2.2.1 ("RulerWordModel", 153, "skip", 7) (by decide +kernel)) dX11_pieceHere_56 ?_
            obtain ⟨v0_56, v2_56, v3_56, v4_56, v5_56, v6_56, v8_56, v9_56, v12_56, v13_56, v14_56, v15_56, v16_56, v17_56, v18_56, v19_56, v20_56, v21_56, v22_56, v23_56, v25_56, v36_56, v37_56, v38_56, v39_56, v40_56, v45_56, v46_56, v47_56, v48_56, v50_56, v51_56, v53_56, v55_56, hf57, hv0_56, hv2_56, hg2_56, hv3_56, hg3_56, hv4_56, hg4_56, hv5_56, hg5_56, hv6_56, hg6_56, hv8_56, hg8_56, hv9_56, hg9_56, hv12_56, hv13_56, hg13_56, hv14_56, hg14_56, hv15_56, hg15_56, hv17_56, hg17_56, hv20_56, hg20_56, hv23_56, hg23_56, hv25_56, hv36_56, hg36_56, hv47_56, hg47_56, hv48_56, hg48_56, hv53_56, hg53_56, hv55_56, hg55_56, hrel0_56⟩ := hT.2.2 0 (by decide)
            have hg2_56 : v2_56.toInt = th 13 := hg2_56
            have hg3_56 : v3_56.toInt = zz52 := hg3_56
            have hg4_56 : v4_56.toInt = th 42 := hg4_56
            have hg5_56 : v5_56.toInt = th 40 := hg5_56
            have hg6_56 : v6_56.toInt = th 41 := hg6_56
            have hg8_56 : v8_56.toInt = th 43 := hg8_56
            have hg9_56 : v9_56.toInt = th 35 := hg9_56
            have hg13_56 : v13_56.toInt = th 36 := hg13_56
            have hg14_56 : v14_56.toInt = th 10 := hg14_56
            have hg15_56 : v15_56.toInt = th 11 := hg15_56
            have hg17_56 : v17_56.toInt = th 12 := hg17_56
            have hg20_56 : v20_56.toInt = th 14 := hg20_56
            have hg23_56 : v23_56.toInt = th 15 := hg23_56
            have hg36_56 : v36_56.toInt = th 18 := hg36_56
            have hg47_56 : v47_56.toInt = th 16 := hg47_56
            have hg48_56 : v48_56.toInt = th 17 := hg48_56
            have hg53_56 : v53_56.toInt = th 38 := hg53_56
            have hg55_56 : v55_56.toInt = th 39 := hg55_56
            refine call_i (run_V (rm := rm_X11_takes) hx hb hml hown hts (s_X11_takes l g ad (gset th 37 zz52) _ _ _ 7 hst hT (by decide)) cV_X11_takes wg_1538 ⟨Nat.le_of_ble_eq_true rfl, Nat.le_of_ble_eq_true rfl⟩ hG hE hA hP hD hS (hst.1 255 (by decide)) hf57 rfl rfl hl.1 (As := [.ref (g.2.2.1 7)]) (rest := []) rfl (Nat.le_of_ble_eq_true rfl) dX11_pieceHere_58 ⟨Nat.le_of_ble_eq_true rfl, Nat.le_of_ble_eq_true rfl⟩) hA hD hS (fun r58 L59 f60 H locs hp61 hP hD hS => ?_)
            obtain ⟨eL62L, eL62T, eL62F, eL62R⟩ := hp61
            have eL62L : L59 = L := eL62L
            rw [eL62L] at hP hD
            obtain ⟨zz63, hzz63, eL62T⟩ := eL62T
            have hT : TI g ad (gset (gset th 37 zz52) 37 zz63) f60 := eL62T
            have hT : TI g ad (gset th 37 zz63) f60 := TI.cast hT (by funext q; simp only [gset]; (repeat' split); all_goals first | rfl | omega | (subst_vars; rfl) | (exfalso; omega))
            have eL62F : ∀ b, b ≠ (ad 255) → f60 b = f49 b := eL62F
            have hfr : (∀ b, b ≠ (ad 255) → f60 b = f b) := fun b z0_ => (eL62F b z0_).trans (hfr b z0_)
            have eL62R : In r58 0 1 := eL62R
            refine lv_if_eq (tgt := 68) hx hb dX11_pieceHere_61 (by decide) (fun c64 => ?_) (fun c64 => ?_)
            ·
              have oc0 : (0 : Int32).toInt = 0 := by decide
              have cc65 : r58.toInt = (0 : Int32).toInt := congrArg Int32.toInt c64
              have hb66 : In r58 0 0 := In.eq1 eL62R (⟨by decide, by decide⟩ : In 0 0 0) cc65 (by omega) (by omega)
              refine lv_iconst (v := (-1)) hx hb dX11_pieceHere_68 (by decide) ?_
              exact ret_i (ty := .int) hx hb hr hlocks (rfl) hP hD hS (Nat.le_of_ble_eq_true rfl) (Nat.le_of_ble_eq_true rfl) (⟨rfl, ⟨zz63, (show th 37 ≤ zz63 ∧ zz63 ≤ 500 from (by have ocm1 : ((-1) : Int32).toInt = (-1) := (by decide); omega)), TI.cast hT (by funext q; simp only [gset]; (repeat' split); all_goals first | rfl | omega | (subst_vars; rfl) | (exfalso; omega))⟩, hfr, (⟨by decide, by decide⟩ : In (-1) (-1) 5)⟩) dX11_pieceHere_69
            ·
              have oc0 : (0 : Int32).toInt = 0 := by decide
              have cc67 : r58.toInt ≠ (0 : Int32).toInt := i32_ne c64
              have hb68 : In r58 1 1 := In.ne1 eL62R (⟨by decide, by decide⟩ : In 0 0 0) cc67 (by omega) (by omega)
              refine lv_iconst (v := 5) hx hb dX11_pieceHere_64 (by decide) ?_
              refine lv_goto (tgt := 69) hx hb dX11_pieceHere_65 (by decide) ?_
              exact ret_i (ty := .int) hx hb hr hlocks (rfl) hP hD hS (Nat.le_of_ble_eq_true rfl) (Nat.le_of_ble_eq_true rfl) (⟨rfl, ⟨zz63, (show th 37 ≤ zz63 ∧ zz63 ≤ 500 from (by have oc5 : (5 : Int32).toInt = 5 := (by decide); omega)), TI.cast hT (by funext q; simp only [gset]; (repeat' split); all_goals first | rfl | omega | (subst_vars; rfl) | (exfalso; omega))⟩, hfr, (⟨by decide, by decide⟩ : In 5 (-1) 5)⟩) dX11_pieceHere_69
          ·
            have oc0 : (0 : Int32).toInt = 0 := by decide
            have cc69 : r47.toInt ≠ (0 : Int32).toInt := i32_ne c53
            have hb70 : In r47 1 1 := In.ne1 eL51R (⟨by decide, by decide⟩ : In 0 0 0) cc69 (by omega) (by omega)
            refine lv_iconst (v := 4) hx hb dX11_pieceHere_53 (by decide) ?_
            exact ret_i (ty := .int) hx hb hr hlocks (rfl) hP hD hS (Nat.le_of_ble_eq_true rfl) (Nat.le_of_ble_eq_true rfl) (⟨rfl, ⟨zz52, (show th 37 ≤ zz52 ∧ zz52 ≤ 500 from (by have oc4 : (4 : Int32).toInt = 4 := (by decide); omega)), TI.cast hT (by funext q; simp only [gset]; (repeat' split); all_goals first | rfl | omega | (subst_vars; rfl) | (exfalso; omega))⟩, hfr, (⟨by decide, by decide⟩ : In 4 (-1) 5)⟩) dX11_pieceHere_54
        ·
          have oc0 : (0 : Int32).toInt = 0 := by decide
          have cc71 : r36.toInt ≠ (0 : Int32).toInt := i32_ne c42
          have hb72 : In r36 1 1 := In.ne1 eL40R (⟨by decide, by decide⟩ : In 0 0 0) cc71 (by omega) (by omega)
          refine lv_iconst (v := 3) hx hb dX11_pieceHere_42 (by decide) ?_
          exact ret_i (ty := .int) hx hb hr hlocks (rfl) hP hD hS (Nat.le_of_ble_eq_true rfl) (Nat.le_of_ble_eq_true rfl) (⟨rfl, ⟨zz41, (show th 37 ≤ zz41 ∧ zz41 ≤ 500 from (by have oc3 : (3 : Int32).toInt = 3 := (by decide); omega)), TI.cast hT (by funext q; simp only [gset]; (repeat' split); all_goals first | rfl | omega | (subst_vars; rfl) | (exfalso; omega))⟩, hfr, (⟨by decide, by decide⟩ : In 3 (-1) 5)⟩) dX11_pieceHere_43
      ·
        have oc0 : (0 : Int32).toInt = 0 := by decide
        have cc73 : r25.toInt ≠ (0 : Int32).toInt := i32_ne c31
        have hb74 : In r25 1 1 := In.ne1 eL29R (⟨by decide, by decide⟩ : In 0 0 0) cc73 (by omega) (by omega)
        refine lv_iconst (v := 2) hx hb dX11_pieceHere_31 (by decide) ?_
        exact ret_i (ty := .int) hx hb hr hlocks (rfl) hP hD hS (Nat.le_of_ble_eq_true rfl) (Nat.le_of_ble_eq_true rfl) (⟨rfl, ⟨zz30, (show th 37 ≤ zz30 ∧ zz30 ≤ 500 from (by have oc2 : (2 : Int32).toInt = 2 := (by decide); omega)), TI.cast hT (by funext q; simp only [gset]; (repeat' split); all_goals first | rfl | omega | (subst_vars; rfl) | (exfalso; omega))⟩, hfr, (⟨by decide, by decide⟩ : In 2 (-1) 5)⟩) dX11_pieceHere_32
    ·
      have oc0 : (0 : Int32).toInt = 0 := by decide
      have cc75 : r14.toInt ≠ (0 : Int32).toInt := i32_ne c20
      have hb76 : In r14 1 1 := In.ne1 eL18R (⟨by decide, by decide⟩ : In 0 0 0) cc75 (by omega) (by omega)
      refine lv_iconst (v := 1) hx hb dX11_pieceHere_20 (by decide) ?_
      exact ret_i (ty := .int) hx hb hr hlocks (rfl) hP hD hS (Nat.le_of_ble_eq_true rfl) (Nat.le_of_ble_eq_true rfl) (⟨rfl, ⟨zz19, (show th 37 ≤ zz19 ∧ zz19 ≤ 500 from (by have oc1 : (1 : Int32).toInt = 1 := (by decide); omega)), TI.cast hT (by funext q; simp only [gset]; (repeat' split); all_goals first | rfl | omega | (subst_vars; rfl) | (exfalso; omega))⟩, hfr, (⟨by decide, by decide⟩ : In 1 (-1) 5)⟩) dX11_pieceHere_21
  ·
    have oc0 : (0 : Int32).toInt = 0 := by decide
    have cc77 : r3.toInt ≠ (0 : Int32).toInt := i32_ne c9
    have hb78 : In r3 1 1 := In.ne1 eL7R (⟨by decide, by decide⟩ : In 0 0 0) cc77 (by omega) (by omega)
    refine lv_iconst (v := 0) hx hb dX11_pieceHere_9 (by decide) ?_
    exact ret_i (ty := .int) hx hb hr hlocks (rfl) hP hD hS (Nat.le_of_ble_eq_true rfl) (Nat.le_of_ble_eq_true rfl) (⟨rfl, ⟨zz8, (show th 37 ≤ zz8 ∧ zz8 ≤ 500 from (by have oc0 : (0 : Int32).toInt = 0 := (by decide); omega)), TI.cast hT (by funext q; simp only [gset]; (repeat' split); all_goals first | rfl | omega | (subst_vars; rfl) | (exfalso; omega))⟩, hfr, (⟨by decide, by decide⟩ : In 0 (-1) 5)⟩) dX11_pieceHere_10

abbrev rm_X11_starts : Room := { frames := 3, cells := 0, slots := 0, locals := 61 }
abbrev po_X11_starts (g : GG) (ad : Nat → Nat) (th : Nat → Int) (L : List Nat) (f : HP)  : (List Nat × HP) → Prop := fun u => u.1 = L ∧ (∃ za zr zl ze : Int, (th 37 ≤ za ∧ za ≤ 500) ∧ TI g ad (gset (gset (gset (gset th 37 za) 40 zr) 41 zl) 42 ze) u.2) ∧ (∀ b, b ≠ (ad 255) → b ≠ (ad 257) → u.2 b = f b)
set_option maxHeartbeats 4000000 in
set_option maxRecDepth 100000 in
theorem s_X11_starts (l : Launch) (g : GG) (ad : Nat → Nat) (th : Nat → Int) (L : List Nat) (f : HP) (sz : Nat)  (hst : ST ad L) (hT : TI g ad th f)  : MtV l g yX11_starts cX11_starts 3 rm_X11_starts [.ref (ad 255)] L f sz (po_X11_starts g ad th L f ) := by
  refine MtV.of (by decide +kernel) (Nat.le_of_ble_eq_true rfl) ?_
  intro p e s m below meth c A hEn hP hD hS ls hl
  obtain ⟨hx, hb, hr, hml, hown, hlocks, hts, hG, hA, hE, hnm⟩ := hEn
  have hown : s.vm.findClass "RulerWordModel" = some m.cls := hown
  have hl : lv_has ls 3 [(0, .ref (ad 255))] := hl
  have hfr : (∀ b, b ≠ (ad 255) → b ≠ (ad 257) → f b = f b) := fun b z0_ z1_ => rfl
  refine lv_aload_n hx hb dX11_starts_0 rfl (lv_at hl 0 rfl) ?_
  obtain ⟨v0_1, v2_1, v3_1, v4_1, v5_1, v6_1, v8_1, v9_1, v12_1, v13_1, v14_1, v15_1, v16_1, v17_1, v18_1, v19_1, v20_1, v21_1, v22_1, v23_1, v25_1, v36_1, v37_1, v38_1, v39_1, v40_1, v45_1, v46_1, v47_1, v48_1, v50_1, v51_1, v53_1, v55_1, hf2, hv0_1, hv2_1, hg2_1, hv3_1, hg3_1, hv4_1, hg4_1, hv5_1, hg5_1, hv6_1, hg6_1, hv8_1, hg8_1, hv9_1, hg9_1, hv12_1, hv13_1, hg13_1, hv14_1, hg14_1, hv15_1, hg15_1, hv17_1, hg17_1, hv20_1, hg20_1, hv23_1, hg23_1, hv25_1, hv36_1, hg36_1, hv47_1, hg47_1, hv48_1, hg48_1, hv53_1, hg53_1, hv55_1, hg55_1, hrel0_1⟩ := hT.2.2 0 (by decide)
  refine call_v (run_V (rm := rm_X11_digits) hx hb hml hown hts (s_X11_digits l g ad th _ _ _  hst hT ) cV_X11_digits wg_1570 ⟨Nat.le_of_ble_eq_true rfl, Nat.le_of_ble_eq_true rfl⟩ hG hE hA hP hD hS (hst.1 255 (by decide)) hf2 rfl rfl hl.1 (As := []) (rest := []) rfl (Nat.le_of_ble_eq_true rfl) dX11_starts_1 ⟨Nat.le_of_ble_eq_true rfl, Nat.le_of_ble_eq_true rfl⟩) hA hD hS (fun L4 f5 H locs hp6 hP hD hS => ?_)
  obtain ⟨eL7L, eL7T, eL7F⟩ := hp6
  have eL7L : L4 = L := eL7L
  rw [eL7L] at hP hD
  obtain ⟨zz8, zz9, zz10, hzz8, eL7T⟩ := eL7T
  have hT : TI g ad (gset (gset (gset th 37 zz8) 40 zz9) 41 zz10) f5 := eL7T
  have eL7F : ∀ b, b ≠ (ad 255) → f5 b = f b := eL7F
  have hfr : (∀ b, b ≠ (ad 255) → b ≠ (ad 257) → f5 b = f b) := fun b z0_ z1_ => (eL7F b z0_).trans (hfr b z0_ z1_)
  refine lv_aload_n hx hb dX11_starts_4 rfl (lv_at hl 0 rfl) ?_
  obtain ⟨v0_11, v2_11, v3_11, v4_11, v5_11, v6_11, v8_11, v9_11, v12_11, v13_11, v14_11, v15_11, v16_11, v17_11, v18_11, v19_11, v20_11, v21_11, v22_11, v23_11, v25_11, v36_11, v37_11, v38_11, v39_11, v40_11, v45_11, v46_11, v47_11, v48_11, v50_11, v51_11, v53_11, v55_11, hf12, hv0_11, hv2_11, hg2_11, hv3_11, hg3_11, hv4_11, hg4_11, hv5_11, hg5_11, hv6_11, hg6_11, hv8_11, hg8_11, hv9_11, hg9_11, hv12_11, hv13_11, hg13_11, hv14_11, hg14_11, hv15_11, hg15_11, hv17_11, hg17_11, hv20_11, hg20_11, hv23_11, hg23_11, hv25_11, hv36_11, hg36_11, hv47_11, hg47_11, hv48_11, hg48_11, hv53_11, hg53_11, hv55_11, hg55_11, hrel0_11⟩ := hT.2.2 0 (by decide)
  have hg2_11 : v2_11.toInt = th 13 := hg2_11
  have hg3_11 : v3_11.toInt = zz8 := hg3_11
  have hg4_11 : v4_11.toInt = th 42 := hg4_11
  have hg5_11 : v5_11.toInt = zz9 := hg5_11
  have hg6_11 : v6_11.toInt = zz10 := hg6_11
  have hg8_11 : v8_11.toInt = th 43 := hg8_11
  have hg9_11 : v9_11.toInt = th 35 := hg9_11
  have hg13_11 : v13_11.toInt = th 36 := hg13_11
  have hg14_11 : v14_11.toInt = th 10 := hg14_11
  have hg15_11 : v15_11.toInt = th 11 := hg15_11
  have hg17_11 : v17_11.toInt = th 12 := hg17_11
  have hg20_11 : v20_11.toInt = th 14 := hg20_11
  have hg23_11 : v23_11.toInt = th 15 := hg23_11
  have hg36_11 : v36_11.toInt = th 18 := hg36_11
  have hg47_11 : v47_11.toInt = th 16 := hg47_11
  have hg48_11 : v48_11.toInt = th 17 := hg48_11
  have hg53_11 : v53_11.toInt = th 38 := hg53_11
  have hg55_11 : v55_11.toInt = th 39 := hg55_11
  refine pl_get (v := .int v6_11) hx hb hts (fun w h => mT (inX11 w h)) hown hG.1 hP (hst.1 255 (by decide)) hf12 rfl 6 (by decide) (hts _ (mT wg_1342)) (fun _ h => h) rfl dX11_starts_5 ?_
  refine lv_aload_n hx hb dX11_starts_8 rfl (lv_at hl 0 rfl) ?_
  refine pl_get (v := .ref (ad 257)) hx hb hts (fun w h => mT (inX11 w h)) hown hG.1 hP (hst.1 255 (by decide)) hf12 rfl 7 (by decide) (hts _ (mT wg_1343)) (fun _ h => h) rfl dX11_starts_9 ?_
  refine lv_iconst (v := 0) hx hb dX11_starts_12 (by decide) ?_
  obtain ⟨rw13, hf14, hpn15, hpg16, hpn17, hpn18, hpn19, hpg20⟩ := hT.2.2 2 (by decide)
  have hin21 : vp_in 0 6 := In.inb (⟨by decide, by decide⟩ : In 0 0 0) (by decide) (by decide)
  refine pl_iald hx hb hG.1 hP (hst.1 257 (by decide)) 0 hf14 rfl hin21 dX11_starts_13 ?_
  refine lv_topi (fun x22 ex22 => ?_)
  have hb23 : In x22 0 9 := by rw [ex22]; exact pinI (k := 0) (by decide) hpn15
  have hgl24 : x22.toInt = th 30 := by rw [ex22]; exact pinE (k := 0) (by decide) hpg16
  have hJ22 : ∀ (y22_s0 : Int32) (H : Heap) (locs : List Loc) (ls : Array Slot), In y22_s0 0 1 → va_P g.1 vwCl (va_pl L f5) H → va_D A (va_pl L f5) → va_S A s.heap H locs → lv_has ls 3 [(0, .ref (ad 255))] → W p l e rm_X11_starts s m [.ref (ad 255)].toArray below meth c H locs 0 0 (MQ below (va_Qv (po_X11_starts g ad th L f ) (PstB g A) A) [.ref (ad 255)].toArray s rm_X11_starts.cells rm_X11_starts.slots A) (F0 m 22 ls [.int y22_s0]) := by
    intro y22_s0 H locs ls hy22_s0 hP hD hS hl
    refine lv_istore_n (lv' := [(1, .int y22_s0), (0, .ref (ad 255))]) hx hb dX11_starts_22 rfl hl (by decide) rfl (fun ls hl => ?_)
    refine lv_iconst (v := 0) hx hb dX11_starts_23 (by decide) ?_
    refine lv_istore_n (lv' := [(2, .int 0), (1, .int y22_s0), (0, .ref (ad 255))]) hx hb dX11_starts_24 rfl hl (by decide) rfl (fun ls hl => ?_)
    have hJ25 : ∀ (k25 : Nat) (y25_l1 : Int32) (y25_l2 : Int32) (f_25 : HP) (H : Heap) (locs : List Loc) (ls : Array Slot), In y25_l1 0 1 → In y25_l2 0 2147483647 → va_P g.1 vwCl (va_pl L f_25) H → va_D A (va_pl L f_25) → va_S A s.heap H locs → TI g ad (gset (gset (gset th 37 zz8) 40 zz9) 41 zz10) f_25 → (∀ b, b ≠ (ad 255) → b ≠ (ad 257) → f_25 b = f b) → f_25 (ad 255) = .inr (10, [.int v0_11, .ref (ad 256), .int v2_11, .int v3_11, .int v4_11, .int v5_11, .int v6_11, .ref (ad 257), .int v8_11, .int v9_11, .ref (ad 258), .ref (ad 259), .int v12_11, .int v13_11, .int v14_11, .int v15_11, .int v16_11, .int v17_11, .int v18_11, .int v19_11, .int v20_11, .long v21_11, .long v22_11, .int v23_11, .ref (ad 260), .int v25_11, .ref (ad 261), .ref (ad 262), .ref (ad 263), .ref (ad 264), .ref (ad 265), .ref (ad 266), .ref (ad 267), .ref (ad 268), .ref (ad 269), .ref (ad 270), .int v36_11, .int v37_11, .int v38_11, .int v39_11, .int v40_11, .ref (ad 271), .ref (ad 272), .ref (ad 273), .ref (ad 274), .long v45_11, .long v46_11, .int v47_11, .int v48_11, .ref (ad 275), .int v50_11, .int v51_11, .ref (ad 276), .int v53_11, .ref (ad 277), .int v55_11]) → (y25_l2.toInt ≤ v6_11.toInt ∧ 0 ≤ y25_l2.toInt) → lv_has ls 3 [(0, .ref (ad 255)), (1, .int y25_l1), (2, .int y25_l2)] → 2147483647 - y25_l2.toInt < ((k25 : Nat) : Int) → W p l e rm_X11_starts s m [.ref (ad 255)].toArray below meth c H locs 0 0 (MQ below (va_Qv (po_X11_starts g ad th L f ) (PstB g A) A) [.ref (ad 255)].toArray s rm_X11_starts.cells rm_X11_starts.slots A) (F0 m 25 ls []) := by
      intro k25
      induction k25 with
      | zero =>
        intro y25_l1 y25_l2 f_25 H locs ls hy25_l1 hy25_l2 hP hD hS hT hfr hf25 hinv25_0 hl hmz25
        exact ms0 hy25_l2 hmz25
      | succ k25 ih25 =>
        intro y25_l1 y25_l2 f_25 H locs ls hy25_l1 hy25_l2 hP hD hS hT hfr hf25 hinv25_0 hl hmz25
        refine lv_iload_n hx hb dX11_starts_25 rfl (lv_at hl 2 rfl) ?_
        refine lv_aload_n hx hb dX11_starts_26 rfl (lv_at hl 0 rfl) ?_
        refine pl_get (v := .int v6_11) hx hb hts (fun w h => mT (inX11 w h)) hown hG.1 hP (hst.1 255 (by decide)) hf25 rfl 6 (by decide) (hts _ (mT wg_1342)) (fun _ h => h) rfl dX11_starts_27 ?_
        have hJ82 : ∀ (H : Heap) (locs : List Loc) (ls : Array Slot), va_P g.1 vwCl (va_pl L f_25) H → va_D A (va_pl L f_25) → va_S A s.heap H locs → lv_has ls 3 [(0, .ref (ad 255)), (1, .int y25_l1), (2, .int y25_l2)] → W p l e rm_X11_starts s m [.ref (ad 255)].toArray below meth c H locs 0 0 (MQ below (va_Qv (po_X11_starts g ad th L f ) (PstB g A) A) [.ref (ad 255)].toArray s rm_X11_starts.cells rm_X11_starts.slots A) (F0 m 82 ls []) := by
          intro H locs ls hP hD hS hl
          refine lv_iload_n hx hb dX11_starts_82 rfl (lv_at hl 1 rfl) ?_
          refine lv_if_ne (tgt := 94) hx hb dX11_starts_83 (by decide) (fun c26 => ?_) (fun c26 => ?_)
          ·
            have oc0 : (0 : Int32).toInt = 0 := by decide
            have cc27 : y25_l1.toInt ≠ (0 : Int32).toInt := i32_ne c26
            have hb28 : In y25_l1 1 1 := In.ne1 hy25_l1 (⟨by decide, by decide⟩ : In 0 0 0) cc27 (by omega) (by omega)
            exact ret_v hx hb hr hlocks hP hD hS (Nat.le_of_ble_eq_true rfl) (Nat.le_of_ble_eq_true rfl) (⟨rfl, ⟨zz8, zz9, zz10, (th 42), (show th 37 ≤ zz8 ∧ zz8 ≤ 500 from (by obtain ⟨o0a, o0b⟩ := (hb28 : In _ _ _); obtain ⟨o1a, o1b⟩ := (hy25_l2 : In _ _ _); obtain ⟨o2a, o2b⟩ := (hv2_11 : In _ _ _); obtain ⟨o3a, o3b⟩ := (hv3_11 : In _ _ _); obtain ⟨o4a, o4b⟩ := (hv4_11 : In _ _ _); obtain ⟨o5a, o5b⟩ := (hv5_11 : In _ _ _); obtain ⟨o6a, o6b⟩ := (hv6_11 : In _ _ _); obtain ⟨o7a, o7b⟩ := (hv8_11 : In _ _ _); obtain ⟨o8a, o8b⟩ := (hv9_11 : In _ _ _); obtain ⟨o9a, o9b⟩ := (hv13_11 : In _ _ _); obtain ⟨o10a, o10b⟩ := (hv14_11 : In _ _ _); obtain ⟨o11a, o11b⟩ := (hv15_11 : In _ _ _); obtain ⟨o12a, o12b⟩ := (hv17_11 : In _ _ _); obtain ⟨o13a, o13b⟩ := (hv20_11 : In _ _ _); obtain ⟨o14a, o14b⟩ := (hv23_11 : In _ _ _); obtain ⟨o15a, o15b⟩ := (hv36_11 : In _ _ _); obtain ⟨o16a, o16b⟩ := (hv47_11 : In _ _ _); obtain ⟨o17a, o17b⟩ := (hv48_11 : In _ _ _); obtain ⟨o18a, o18b⟩ := (hv53_11 : In _ _ _); obtain ⟨o19a, o19b⟩ := (hv55_11 : In _ _ _); omega)), TI.cast hT (by funext q; simp only [gset]; (repeat' split); all_goals first | rfl | omega | (subst_vars; rfl) | (exfalso; omega))⟩, hfr⟩) dX11_starts_94
          ·
            have oc0 : (0 : Int32).toInt = 0 := by decide
            have cc29 : y25_l1.toInt = (0 : Int32).toInt := congrArg Int32.toInt c26
            have hb30 : In y25_l1 0 0 := In.eq1 hy25_l1 (⟨by decide, by decide⟩ : In 0 0 0) cc29 (by omega) (by omega)
            refine lv_aload_n hx hb dX11_starts_86 rfl (lv_at hl 0 rfl) ?_
            refine lv_aload_n hx hb dX11_starts_87 rfl (lv_at hl 0 rfl) ?_
            refine pl_get (v := .int v5_11) hx hb hts (fun w h => mT (inX11 w h)) hown hG.1 hP (hst.1 255 (by decide)) hf25 rfl 5 (by decide) (hts _ (mT wg_1341)) (fun _ h => h) rfl dX11_starts_88 ?_
            refine call_v (run_V (rm := rm_X11_fails) hx hb hml hown hts (s_X11_fails l g ad (gset (gset (gset th 37 zz8) 40 zz9) 41 zz10) _ _ _ v5_11 hst hT hv5_11) cV_X11_fails wg_1545 ⟨Nat.le_of_ble_eq_true rfl, Nat.le_of_ble_eq_true rfl⟩ hG hE hA hP hD hS (hst.1 255 (by decide)) hf25 rfl rfl hl.1 (As := [.int v5_11]) (rest := []) rfl (Nat.le_of_ble_eq_true rfl) dX11_starts_91 ⟨Nat.le_of_ble_eq_true rfl, Nat.le_of_ble_eq_true rfl⟩) hA hD hS (fun L32 f33 H locs hp34 hP hD hS => ?_)
            obtain ⟨eL35L, eL35T, eL35F⟩ := hp34
            have eL35L : L32 = L := eL35L
            rw [eL35L] at hP hD
            obtain ⟨zz36, hzz36, eL35T⟩ := eL35T
            have hT : TI g ad (gset (gset (gset (gset th 37 zz8) 40 zz9) 41 zz10) 42 zz36) f33 := eL35T
            have eL35F : ∀ b, b ≠ (ad 255) → f33 b = f_25 b := eL35F
            have hfr : (∀ b, b ≠ (ad 255) → b ≠ (ad 257) → f33 b = f b) := fun b z0_ z1_ => (eL35F b z0_).trans (hfr b z0_ z1_)
            exact ret_v hx hb hr hlocks hP hD hS (Nat.le_of_ble_eq_true rfl) (Nat.le_of_ble_eq_true rfl) (⟨rfl, ⟨zz8, zz9, zz10, zz36, (show th 37 ≤ zz8 ∧ zz8 ≤ 500 from (by obtain ⟨o0a, o0b⟩ := (hb30 : In _ _ _); obtain ⟨o1a, o1b⟩ := (hy25_l2 : In _ _ _); obtain ⟨o2a, o2b⟩ := (hv6_11 : In _ _ _); omega)), TI.cast hT (by funext q; simp only [gset]; (repeat' split); all_goals first | rfl | omega | (subst_vars; rfl) | (exfalso; omega))⟩, hfr⟩) dX11_starts_94
        refine lv_icmp_ge (tgt := 82) hx hb dX11_starts_30 (by decide) (fun c37 => ?_) (fun c37 => ?_)
        ·
          have cc38 : v6_11.toInt ≤ y25_l2.toInt := i32_le.mp c37
          exact hJ82 _ _ _ hP hD hS (lv_sub hl [0, 1, 2] rfl)
        ·
          have cc39 : y25_l2.toInt < v6_11.toInt := i32_nle c37
          have hb40 : In y25_l2 0 499 := In.lt1 hy25_l2 hv6_11 cc39 (by omega) (by omega)
          have hb41 : In v6_11 1 500 := In.lt2 hy25_l2 hv6_11 cc39 (by omega) (by omega)
          refine lv_iload_n hx hb dX11_starts_33 rfl (lv_at hl 1 rfl) ?_
          refine lv_if_eq (tgt := 82) hx hb dX11_starts_34 (by decide) (fun c42 => ?_) (fun c42 => ?_)
          ·
            have oc0 : (0 : Int32).toInt = 0 := by decide
            have cc43 : y25_l1.toInt = (0 : Int32).toInt := congrArg Int32.toInt c42
            have hb44 : In y25_l1 0 0 := In.eq1 hy25_l1 (⟨by decide, by decide⟩ : In 0 0 0) cc43 (by omega) (by omega)
            exact hJ82 _ _ _ hP hD hS (lv_sub hl [0, 1, 2] rfl)
          ·
            have oc0 : (0 : Int32).toInt = 0 := by decide
            have cc45 : y25_l1.toInt ≠ (0 : Int32).toInt := i32_ne c42
            have hb46 : In y25_l1 1 1 := In.ne1 hy25_l1 (⟨by decide, by decide⟩ : In 0 0 0) cc45 (by omega) (by omega)
            refine lv_aload_n hx hb dX11_starts_37 rfl (lv_at hl 0 rfl) ?_
            refine lv_iload_n hx hb dX11_starts_38 rfl (lv_at hl 2 rfl) ?_
            refine call_i (run_V (rm := rm_X11_digitAt) hx hb hml hown hts (s_X11_digitAt l g ad (gset (gset (gset th 37 zz8) 40 zz9) 41 zz10) _ _ _ y25_l2 hst hT hb40 (show zz9 + y25_l2.toInt < 500 from (by obtain ⟨o0a, o0b⟩ := (hb40 : In _ _ _); obtain ⟨o1a, o1b⟩ := (hv2_11 : In _ _ _); obtain ⟨o2a, o2b⟩ := (hv3_11 : In _ _ _); obtain ⟨o3a, o3b⟩ := (hv4_11 : In _ _ _); obtain ⟨o4a, o4b⟩ := (hv5_11 : In _ _ _); obtain ⟨o5a, o5b⟩ := (hb41 : In _ _ _); obtain ⟨o6a, o6b⟩ := (hv8_11 : In _ _ _); obtain ⟨o7a, o7b⟩ := (hv9_11 : In _ _ _); obtain ⟨o8a, o8b⟩ := (hv13_11 : In _ _ _); obtain ⟨o9a, o9b⟩ := (hv14_11 : In _ _ _); obtain ⟨o10a, o10b⟩ := (hv15_11 : In _ _ _); obtain ⟨o11a, o11b⟩ := (hv17_11 : In _ _ _); obtain ⟨o12a, o12b⟩ := (hv20_11 : In _ _ _); obtain ⟨o13a, o13b⟩ := (hv23_11 : In _ _ _); obtain ⟨o14a, o14b⟩ := (hv36_11 : In _ _ _); obtain ⟨o15a, o15b⟩ := (hv47_11 : In _ _ _); obtain ⟨o16a, o16b⟩ := (hv48_11 : In _ _ _); obtain ⟨o17a, o17b⟩ := (hv53_11 : In _ _ _); obtain ⟨o18a, o18b⟩ := (hv55_11 : In _ _ _); omega))) cV_X11_digitAt wg_1577 ⟨Nat.le_of_ble_eq_true rfl, Nat.le_of_ble_eq_true rfl⟩ hG hE hA hP hD hS (hst.1 255 (by decide)) hf25 rfl rfl hl.1 (As := [.int y25_l2]) (rest := []) rfl (Nat.le_of_ble_eq_true rfl) dX11_starts_39 ⟨Nat.le_of_ble_eq_true rfl, Nat.le_of_ble_eq_true rfl⟩) hA hD hS (fun r47 L48 f49 H locs hp50 hP hD hS => ?_)
            obtain ⟨eL51L, eL51T, eL51R, eL51X0⟩ := hp50
            have eL51L : L48 = L := eL51L
            have eL51T : f49 = f_25 := eL51T
            rw [eL51L, eL51T] at hP hD
            have eL51R : In r47 (-176) 79 := eL51R
            obtain ⟨rw52, hf53, hc54⟩ := hT.2.2 1 (by decide)
            have hda55 : r47.toInt = (rw52 (zz9 + y25_l2.toInt).toNat).toInt - 48 := (eL51X0 _ hf53)
            refine lv_iconst (v := 2) hx hb dX11_starts_42 (by decide) ?_
            have hJ51 : ∀ (y51_s0 : Int32) (H : Heap) (locs : List Loc) (ls : Array Slot), In y51_s0 0 1 → va_P g.1 vwCl (va_pl L f_25) H → va_D A (va_pl L f_25) → va_S A s.heap H locs → lv_has ls 3 [(0, .ref (ad 255)), (1, .int y25_l1), (2, .int y25_l2)] → W p l e rm_X11_starts s m [.ref (ad 255)].toArray below meth c H locs 0 0 (MQ below (va_Qv (po_X11_starts g ad th L f ) (PstB g A) A) [.ref (ad 255)].toArray s rm_X11_starts.cells rm_X11_starts.slots A) (F0 m 51 ls [.int y51_s0]) := by
              intro y51_s0 H locs ls hy51_s0 hP hD hS hl
              refine lv_istore_n (lv' := [(1, .int y51_s0), (0, .ref (ad 255)), (2, .int y25_l2)]) hx hb dX11_starts_51 rfl hl (by decide) rfl (fun ls hl => ?_)
              refine lv_aload_n hx hb dX11_starts_52 rfl (lv_at hl 1 rfl) ?_
              refine pl_get (v := .ref (ad 257)) hx hb hts (fun w h => mT (inX11 w h)) hown hG.1 hP (hst.1 255 (by decide)) hf25 rfl 7 (by decide) (hts _ (mT wg_1343)) (fun _ h => h) rfl dX11_starts_53 ?_
              refine lv_iconst (v := 3) hx hb dX11_starts_56 (by decide) ?_
              refine lv_dup2_11 hx hb dX11_starts_57 rfl rfl ?_
              obtain ⟨rw56, hf57, hpn58, hpg59, hpn60, hpn61, hpn62, hpg63⟩ := hT.2.2 2 (by decide)
              have hin64 : vp_in 3 6 := In.inb (⟨by decide, by decide⟩ : In 3 3 3) (by decide) (by decide)
              refine pl_iald hx hb hG.1 hP (hst.1 257 (by decide)) 0 hf57 rfl hin64 dX11_starts_58 ?_
              refine lv_topi (fun x65 ex65 => ?_)
              refine lv_iload_n hx hb dX11_starts_59 rfl (lv_at hl 0 rfl) ?_
              have hJ74 : ∀ (y74_s0 : Int32) (H : Heap) (locs : List Loc) (ls : Array Slot), In y74_s0 (-2147483648) 2147483647 → va_P g.1 vwCl (va_pl L f_25) H → va_D A (va_pl L f_25) → va_S A s.heap H locs → lv_has ls 3 [(0, .ref (ad 255)), (1, .int y51_s0), (2, .int y25_l2)] → W p l e rm_X11_starts s m [.ref (ad 255)].toArray below meth c H locs 0 0 (MQ below (va_Qv (po_X11_starts g ad th L f ) (PstB g A) A) [.ref (ad 255)].toArray s rm_X11_starts.cells rm_X11_starts.slots A) (F0 m 74 ls [.int y74_s0, .int x65, .int 3, .ref (ad 257)]) := by
                intro y74_s0 H locs ls hy74_s0 hP hD hS hl
                refine lv_ior hx hb dX11_starts_74 ?_
                refine lv_topi (fun x66 ex66 => ?_)
                refine pl_iastE hx hb hG.1 hP hD hS (hst.1 257 (by decide)) 0 hf57 rfl (In.inb (⟨by decide, by decide⟩ : In 3 3 3) (by decide) (by decide)) dX11_starts_75 (fun H locs f67 r70 er70 hf68 ho69 hP hD hS => ?_)
                have hpn71 : In (r70 0) 0 9 := (upd_neI (k := 0) er70 (by decide)) ▸ hpn58
                have hpg72 := (congrArg Int32.toInt (upd_neI (k := 0) er70 (by decide))).trans hpg59
                have hpn73 : In (r70 1) 0 4 := (upd_neI (k := 1) er70 (by decide)) ▸ hpn60
                have hpn74 : In (r70 2) 0 6 := (upd_neI (k := 2) er70 (by decide)) ▸ hpn61
                have hpn75 : In (r70 4) 0 511 := (upd_neI (k := 4) er70 (by decide)) ▸ hpn62
                have hpg76 := (congrArg Int32.toInt (upd_neI (k := 4) er70 (by decide))).trans hpg63
                have hf77 := (ho69 (ad 255) (hst.ne (by decide) (by decide) (by decide))).trans hf25
                have hf78 := (ho69 (ad 256) (hst.ne (by decide) (by decide) (by decide))).trans hf53
                have hfr : (∀ b, b ≠ (ad 255) → b ≠ (ad 257) → f67 b = f b) := fun b z0_ z1_ => (ho69 b z1_).trans (hfr b z0_ z1_)
                obtain ⟨x79, ex79⟩ : ∃ y : Int32, y = y25_l2 + 1 := ⟨_, rfl⟩
                have hb80 : In x79 1 500 := ex79 ▸ In.add hb40 (⟨by decide, by decide⟩ : In 1 1 1) (by decide) (by decide) (by decide) (by decide)
                have et81 : x79.toInt = y25_l2.toInt + 1 := In.adde ex79 hb40 (k := 1) (by decide) (by decide) (by decide)
                refine lv_iinc (v := x79) (lv' := [(2, .int x79), (0, .ref (ad 255)), (1, .int y51_s0)]) hx hb dX11_starts_76 hl (k := 2) rfl (by rw [ex79]; rfl) (by decide) rfl (fun ls hl => ?_)
                have hT := TI.updM hT hst (k := 2) (by decide) hf68 ho69 ⟨r70, rfl, hpn71, (hpg72.trans rfl), hpn73, hpn74, hpn75, (hpg76.trans rfl)⟩
                refine lv_goto (tgt := 25) hx hb dX11_starts_79 (by decide) ?_
                exact ih25 y51_s0 x79 _ _ _ _ hy51_s0 (In.mono hb80 (by decide) (by decide)) hP hD hS hT hfr hf77 (by obtain ⟨o0a, o0b⟩ := (hb80 : In _ _ _); obtain ⟨o1a, o1b⟩ := (hb41 : In _ _ _); obtain ⟨o2a, o2b⟩ := (hv2_11 : In _ _ _); obtain ⟨o3a, o3b⟩ := (hv3_11 : In _ _ _); obtain ⟨o4a, o4b⟩ := (hv4_11 : In _ _ _); obtain ⟨o5a, o5b⟩ := (hv5_11 : In _ _ _); obtain ⟨o6a, o6b⟩ := (hv8_11 : In _ _ _); obtain ⟨o7a, o7b⟩ := (hv9_11 : In _ _ _); obtain ⟨o8a, o8b⟩ := (hv13_11 : In _ _ _); obtain ⟨o9a, o9b⟩ := (hv14_11 : In _ _ _); obtain ⟨o10a, o10b⟩ := (hv15_11 : In _ _ _); obtain ⟨o11a, o11b⟩ := (hv17_11 : In _ _ _); obtain ⟨o12a, o12b⟩ := (hv20_11 : In _ _ _); obtain ⟨o13a, o13b⟩ := (hv23_11 : In _ _ _); obtain ⟨o14a, o14b⟩ := (hv36_11 : In _ _ _); obtain ⟨o15a, o15b⟩ := (hv47_11 : In _ _ _); obtain ⟨o16a, o16b⟩ := (hv48_11 : In _ _ _); obtain ⟨o17a, o17b⟩ := (hv53_11 : In _ _ _); obtain ⟨o18a, o18b⟩ := (hv55_11 : In _ _ _); obtain ⟨o19a, o19b⟩ := (hb40 : In _ _ _); omega) (lv_sub hl [1, 2, 0] rfl) (msu et81 (by decide) hmz25)
              refine lv_if_eq (tgt := 73) hx hb dX11_starts_60 (by decide) (fun c82 => ?_) (fun c82 => ?_)
              ·
                have oc0 : (0 : Int32).toInt = 0 := by decide
                have cc83 : y51_s0.toInt = (0 : Int32).toInt := congrArg Int32.toInt c82
                have hb84 : In y51_s0 0 0 := In.eq1 hy51_s0 (⟨by decide, by decide⟩ : In 0 0 0) cc83 (by omega) (by omega)
                refine lv_iconst (v := 0) hx hb dX11_starts_73 (by decide) ?_
                exact hJ74 0 _ _ _ (⟨by decide, by decide⟩ : In 0 (-2147483648) 2147483647) hP hD hS (lv_sub hl [1, 0, 2] rfl)
              ·
                have oc0 : (0 : Int32).toInt = 0 := by decide
                have cc85 : y51_s0.toInt ≠ (0 : Int32).toInt := i32_ne c82
                have hb86 : In y51_s0 1 1 := In.ne1 hy51_s0 (⟨by decide, by decide⟩ : In 0 0 0) cc85 (by omega) (by omega)
                refine lv_aload_n hx hb dX11_starts_63 rfl (lv_at hl 1 rfl) ?_
                refine lv_iload_n hx hb dX11_starts_64 rfl (lv_at hl 2 rfl) ?_
                refine call_i (run_V (rm := rm_X11_digitAt) hx hb hml hown hts (s_X11_digitAt l g ad (gset (gset (gset th 37 zz8) 40 zz9) 41 zz10) _ _ _ y25_l2 hst hT hb40 (show zz9 + y25_l2.toInt < 500 from (by obtain ⟨o0a, o0b⟩ := (hb40 : In _ _ _); obtain ⟨o1a, o1b⟩ := (hv2_11 : In _ _ _); obtain ⟨o2a, o2b⟩ := (hv3_11 : In _ _ _); obtain ⟨o3a, o3b⟩ := (hv4_11 : In _ _ _); obtain ⟨o4a, o4b⟩ := (hv5_11 : In _ _ _); obtain ⟨o5a, o5b⟩ := (hb41 : In _ _ _); obtain ⟨o6a, o6b⟩ := (hv8_11 : In _ _ _); obtain ⟨o7a, o7b⟩ := (hv9_11 : In _ _ _); obtain ⟨o8a, o8b⟩ := (hv13_11 : In _ _ _); obtain ⟨o9a, o9b⟩ := (hv14_11 : In _ _ _); obtain ⟨o10a, o10b⟩ := (hv15_11 : In _ _ _); obtain ⟨o11a, o11b⟩ := (hv17_11 : In _ _ _); obtain ⟨o12a, o12b⟩ := (hv20_11 : In _ _ _); obtain ⟨o13a, o13b⟩ := (hv23_11 : In _ _ _); obtain ⟨o14a, o14b⟩ := (hv36_11 : In _ _ _); obtain ⟨o15a, o15b⟩ := (hv47_11 : In _ _ _); obtain ⟨o16a, o16b⟩ := (hv48_11 : In _ _ _); obtain ⟨o17a, o17b⟩ := (hv53_11 : In _ _ _); obtain ⟨o18a, o18b⟩ := (hv55_11 : In _ _ _); omega))) cV_X11_digitAt wg_1577 ⟨Nat.le_of_ble_eq_true rfl, Nat.le_of_ble_eq_true rfl⟩ hG hE hA hP hD hS (hst.1 255 (by decide)) hf25 rfl rfl hl.1 (As := [.int y25_l2]) (rest := [.int x65, .int 3, .ref (ad 257)]) rfl (Nat.le_of_ble_eq_true rfl) dX11_starts_65 ⟨Nat.le_of_ble_eq_true rfl, Nat.le_of_ble_eq_true rfl⟩) hA hD hS (fun r87 L88 f89 H locs hp90 hP hD hS => ?_)
                obtain ⟨eL91L, eL91T, eL91R, eL91X0⟩ := hp90
                have eL91L : L88 = L := eL91L
                have eL91T : f89 = f_25 := eL91T
                rw [eL91L, eL91T] at hP hD
                have eL91R : In r87 (-176) 79 := eL91R
                have hda92 : r87.toInt = (rw52 (zz9 + y25_l2.toInt).toNat).toInt - 48 := (eL91X0 _ hf53)
                refine lv_iload_n hx hb dX11_starts_68 rfl (lv_at hl 2 rfl) ?_
                refine lv_ishl hx hb dX11_starts_69 ?_
                refine lv_topi (fun x93 ex93 => ?_)
                refine lv_goto (tgt := 74) hx hb dX11_starts_70 (by decide) ?_
                exact hJ74 x93 _ _ _ (In.full x93) hP hD hS (lv_sub hl [1, 0, 2] rfl)
            refine lv_icmp_ge (tgt := 50) hx hb dX11_starts_43 (by decide) (fun c94 => ?_) (fun c94 => ?_)
            ·
              have oc2 : (2 : Int32).toInt = 2 := by decide
              have cc95 : (2 : Int32).toInt ≤ r47.toInt := i32_le.mp c94
              have hb96 : In r47 2 79 := In.ge1 eL51R (⟨by decide, by decide⟩ : In 2 2 2) cc95 (by omega) (by omega)
              refine lv_iconst (v := 0) hx hb dX11_starts_50 (by decide) ?_
              exact hJ51 0 _ _ _ (⟨by decide, by decide⟩ : In 0 0 1) hP hD hS (lv_sub hl [0, 1, 2] rfl)
            ·
              have oc2 : (2 : Int32).toInt = 2 := by decide
              have cc97 : r47.toInt < (2 : Int32).toInt := i32_nle c94
              have hb98 : In r47 (-176) 1 := In.lt1 eL51R (⟨by decide, by decide⟩ : In 2 2 2) cc97 (by omega) (by omega)
              refine lv_iconst (v := 1) hx hb dX11_starts_46 (by decide) ?_
              refine lv_goto (tgt := 51) hx hb dX11_starts_47 (by decide) ?_
              exact hJ51 1 _ _ _ (⟨by decide, by decide⟩ : In 1 0 1) hP hD hS (lv_sub hl [0, 1, 2] rfl)
    exact hJ25 ((2147483647 - (0 : Int32).toInt).toNat + 1) y22_s0 0 _ _ _ _ hy22_s0 (⟨by decide, by decide⟩ : In 0 0 2147483647) hP hD hS hT hfr hf12 (by have oc0 : (0 : Int32).toInt = 0 := (by decide); obtain ⟨o1a, o1b⟩ := (hv6_11 : In _ _ _); obtain ⟨o2a, o2b⟩ := (hv2_11 : In _ _ _); obtain ⟨o3a, o3b⟩ := (hv3_11 : In _ _ _); obtain ⟨o4a, o4b⟩ := (hv4_11 : In _ _ _); obtain ⟨o5a, o5b⟩ := (hv5_11 : In _ _ _); obtain ⟨o6a, o6b⟩ := (hv8_11 : In _ _ _); obtain ⟨o7a, o7b⟩ := (hv9_11 : In _ _ _); obtain ⟨o8a, o8b⟩ := (hv13_11 : In _ _ _); obtain ⟨o9a, o9b⟩ := (hv14_11 : In _ _ _); obtain ⟨o10a, o10b⟩ := (hv15_11 : In _ _ _); obtain ⟨o11a, o11b⟩ := (hv17_11 : In _ _ _); obtain ⟨o12a, o12b⟩ := (hv20_11 : In _ _ _); obtain ⟨o13a, o13b⟩ := (hv23_11 : In _ _ _); obtain ⟨o14a, o14b⟩ := (hv36_11 : In _ _ _); obtain ⟨o15a, o15b⟩ := (hv47_11 : In _ _ _); obtain ⟨o16a, o16b⟩ := (hv48_11 : In _ _ _); obtain ⟨o17a, o17b⟩ := (hv53_11 : In _ _ _); obtain ⟨o18a, o18b⟩ := (hv55_11 : In _ _ _); omega) (lv_sub hl [2, 1, 0] rfl) (msI _)
  refine lv_icmp_ne (tgt := 21) hx hb dX11_starts_14 (by decide) (fun c99 => ?_) (fun c99 => ?_)
  ·
    have cc100 : v6_11.toInt ≠ x22.toInt := i32_ne c99
    refine lv_iconst (v := 0) hx hb dX11_starts_21 (by decide) ?_
    exact hJ22 0 _ _ _ (⟨by decide, by decide⟩ : In 0 0 1) hP hD hS (lv_sub hl [0] rfl)
  ·
    have cc101 : v6_11.toInt = x22.toInt := congrArg Int32.toInt c99
    have hb102 : In v6_11 0 9 := In.eq1 hv6_11 hb23 cc101 (by omega) (by omega)
    refine lv_iconst (v := 1) hx hb dX11_starts_17 (by decide) ?_
    refine lv_goto (tgt := 22) hx hb dX11_starts_18 (by decide) ?_
    exact hJ22 1 _ _ _ (⟨by decide, by decide⟩ : In 1 0 1) hP hD hS (lv_sub hl [0] rfl)
