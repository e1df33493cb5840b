abbrev rm_X11_isIn : Room := { frames := 0, cells := 0, slots := 0, locals := 0 }
abbrev po_X11_isIn (g : GG) (ad : Nat → Nat) (th : Nat → Int) (L : List Nat) (f : HP) (z0 : Int64) (z1 : Int64) (z2 : Int64) : Int32 → (List Nat × HP) → Prop := fun r u => u.1 = L ∧ u.2 = f ∧ In r 0 1 ∧ (r.toInt = 0 ∨ (z1.toInt ≤ z0.toInt ∧ z0.toInt ≤ z2.toInt))
set_option maxHeartbeats 4000000 in
set_option maxRecDepth 100000 in
theorem s_X11_isIn (l : Launch) (g : GG) (ad : Nat → Nat) (th : Nat → Int) (L : List Nat) (f : HP) (sz : Nat) (z0 : Int64) (z1 : Int64) (z2 : Int64) (hst : ST ad L) (hT : TI g ad th f)  : MtI l g yX11_isIn cX11_isIn 6 (some .boolean) rm_X11_isIn [.long z0, .long z1, .long z2] L f sz (po_X11_isIn g ad th L f z0 z1 z2) := by
  refine MtI.of (by decide +kernel) (Nat.le_of_ble_eq_true rfl) ?_
  intro p e s m below meth c A hEn hP hD hS ls hl
  obtain ⟨hx, hb, hr, hml, hown, hlocks, hts, hG, hA, hE, hnm⟩ := hEn
  have hown : s.vm.findClass "RulerWordModel" = some m.cls := hown
  have hl : lv_has ls 6 [(0, .long z0), (2, .long z1), (4, .long z2)] := hl
  refine lv_lload_n hx hb dX11_isIn_0 rfl (lv_at hl 0 rfl) ?_
  refine lv_lload_n hx hb dX11_isIn_1 rfl (lv_at hl 1 rfl) ?_
  refine W.lcmp hx hb dX11_isIn_2 ?_
  refine lv_topi (fun x1 ex1 => ?_)
  have hb2 : In x1 (-1) 1 := ex1 ▸ In.lcmp _ _
  have hJ17 : ∀ (H : Heap) (locs : List Loc) (ls : Array Slot), va_P g.1 vwCl (va_pl L f) H → va_D A (va_pl L f) → va_S A s.heap H locs → lv_has ls 6 [(0, .long z0), (2, .long z1), (4, .long z2)] → W p l e rm_X11_isIn s m [.long z0, .long z1, .long z2].toArray below meth c H locs 0 0 (MQ below (va_Qi (po_X11_isIn g ad th L f z0 z1 z2) (PstB g A) A) [.long z0, .long z1, .long z2].toArray s rm_X11_isIn.cells rm_X11_isIn.slots A) (F0 m 17 ls []) := by
    intro H locs ls hP hD hS hl
    refine lv_iconst (v := 0) hx hb dX11_isIn_17 (by decide) ?_
    exact ret_i (ty := .boolean) hx hb hr hlocks (rfl) hP hD hS (Nat.le_of_ble_eq_true rfl) (Nat.le_of_ble_eq_true rfl) (⟨rfl, rfl, (⟨by decide, by decide⟩ : In 0 0 1), (Or.inl (by decide))⟩) dX11_isIn_18
  refine lv_if_lt (tgt := 17) hx hb dX11_isIn_3 (by decide) (fun c3 => ?_) (fun c3 => ?_)
  ·
    have cc4 : x1.toInt < (0 : Int32).toInt := i32_lt.mp c3
    have hb5 : In x1 (-1) (-1) := In.lt1 hb2 (⟨by decide, by decide⟩ : In 0 0 0) cc4 (by omega) (by omega)
    exact hJ17 _ _ _ hP hD hS (lv_sub hl [0, 1, 2] rfl)
  ·
    have cc6 : (0 : Int32).toInt ≤ x1.toInt := i32_nlt c3
    have hb7 : In x1 0 1 := In.ge1 hb2 (⟨by decide, by decide⟩ : In 0 0 0) cc6 (by omega) (by omega)
    refine lv_lload_n hx hb dX11_isIn_6 rfl (lv_at hl 0 rfl) ?_
    refine lv_lload hx hb dX11_isIn_7 (lv_at hl 2 rfl) ?_
    refine W.lcmp hx hb dX11_isIn_9 ?_
    refine lv_topi (fun x8 ex8 => ?_)
    have hb9 : In x8 (-1) 1 := ex8 ▸ In.lcmp _ _
    refine lv_if_gt (tgt := 17) hx hb dX11_isIn_10 (by decide) (fun c10 => ?_) (fun c10 => ?_)
    ·
      have cc11 : (0 : Int32).toInt < x8.toInt := i32_lt.mp c10
      have hb12 : In x8 1 1 := In.gt1 hb9 (⟨by decide, by decide⟩ : In 0 0 0) cc11 (by omega) (by omega)
      exact hJ17 _ _ _ hP hD hS (lv_sub hl [0, 1, 2] rfl)
    ·
      have cc13 : x8.toInt ≤ (0 : Int32).toInt := i32_nlt c10
      have hb14 : In x8 (-1) 0 := In.le1 hb9 (⟨by decide, by decide⟩ : In 0 0 0) cc13 (by omega) (by omega)
      refine lv_iconst (v := 1) hx hb dX11_isIn_13 (by decide) ?_
      refine lv_goto (tgt := 18) hx hb dX11_isIn_14 (by decide) ?_
      exact ret_i (ty := .boolean) hx hb hr hlocks (rfl) hP hD hS (Nat.le_of_ble_eq_true rfl) (Nat.le_of_ble_eq_true rfl) (⟨rfl, rfl, (⟨by decide, by decide⟩ : In 1 0 1), (Or.inr ⟨lc_ge ex1 c3, lc_le ex8 c10⟩)⟩) dX11_isIn_18

abbrev rm_X11_has : Room := { frames := 0, cells := 0, slots := 0, locals := 0 }
abbrev po_X11_has (g : GG) (ad : Nat → Nat) (th : Nat → Int) (L : List Nat) (f : HP) (z0 : Int32) (z1 : Int32) : Int32 → (List Nat × HP) → Prop := fun r u => u.1 = L ∧ u.2 = f ∧ In r 0 1 ∧ (0 ≤ z0.toInt → In z1 0 30 → r.toInt = bitI z0.toInt z1.toInt)
set_option maxHeartbeats 4000000 in
set_option maxRecDepth 100000 in
theorem s_X11_has (l : Launch) (g : GG) (ad : Nat → Nat) (th : Nat → Int) (L : List Nat) (f : HP) (sz : Nat) (z0 : Int32) (z1 : Int32) (hst : ST ad L) (hT : TI g ad th f)  : MtI l g yX11_has cX11_has 2 (some .boolean) rm_X11_has [.int z0, .int z1] L f sz (po_X11_has g ad th L f z0 z1) := by
  refine MtI.of (by decide +kernel) (Nat.le_of_ble_eq_true rfl) ?_
  intro p e s m below meth c A hEn hP hD hS ls hl
  obtain ⟨hx, hb, hr, hml, hown, hlocks, hts, hG, hA, hE, hnm⟩ := hEn
  have hown : s.vm.findClass "RulerWordModel" = some m.cls := hown
  have hl : lv_has ls 2 [(0, .int z0), (1, .int z1)] := hl
  refine lv_iload_n hx hb dX11_has_0 rfl (lv_at hl 0 rfl) ?_
  refine lv_iload_n hx hb dX11_has_1 rfl (lv_at hl 1 rfl) ?_
  refine lv_ishr hx hb dX11_has_2 ?_
  refine lv_topi (fun x1 ex1 => ?_)
  refine lv_iconst (v := 1) hx hb dX11_has_3 (by decide) ?_
  refine lv_iand hx hb dX11_has_4 ?_
  refine lv_topi (fun x2 ex2 => ?_)
  have hb3 : In x2 0 1 := ex2 ▸ In.andr (⟨by decide, by decide⟩ : In 1 1 1) (by decide)
  refine lv_iconst (v := 1) hx hb dX11_has_5 (by decide) ?_
  refine lv_icmp_ne (tgt := 13) hx hb dX11_has_6 (by decide) (fun c4 => ?_) (fun c4 => ?_)
  ·
    have oc1 : (1 : Int32).toInt = 1 := by decide
    have cc5 : x2.toInt ≠ (1 : Int32).toInt := i32_ne c4
    have hb6 : In x2 0 0 := In.ne1 hb3 (⟨by decide, by decide⟩ : In 1 1 1) cc5 (by omega) (by omega)
    refine lv_iconst (v := 0) hx hb dX11_has_13 (by decide) ?_
    exact ret_i (ty := .boolean) hx hb hr hlocks (rfl) hP hD hS (Nat.le_of_ble_eq_true rfl) (Nat.le_of_ble_eq_true rfl) (⟨rfl, rfl, (⟨by decide, by decide⟩ : In 0 0 1), (fun h0 hk => by have q := shr_bit h0 hk ex1 ex2; obtain ⟨q1, q2⟩ := (hb6 : In _ _ _); have e0 : (0 : Int32).toInt = 0 := (by decide); have e1 : (1 : Int32).toInt = 1 := (by decide); omega)⟩) dX11_has_14
  ·
    have oc1 : (1 : Int32).toInt = 1 := by decide
    have cc7 : x2.toInt = (1 : Int32).toInt := congrArg Int32.toInt c4
    have hb8 : In x2 1 1 := In.eq1 hb3 (⟨by decide, by decide⟩ : In 1 1 1) cc7 (by omega) (by omega)
    refine lv_iconst (v := 1) hx hb dX11_has_9 (by decide) ?_
    refine lv_goto (tgt := 14) hx hb dX11_has_10 (by decide) ?_
    exact ret_i (ty := .boolean) hx hb hr hlocks (rfl) hP hD hS (Nat.le_of_ble_eq_true rfl) (Nat.le_of_ble_eq_true rfl) (⟨rfl, rfl, (⟨by decide, by decide⟩ : In 1 0 1), (fun h0 hk => by have q := shr_bit h0 hk ex1 ex2; obtain ⟨q1, q2⟩ := (hb8 : In _ _ _); have e0 : (1 : Int32).toInt = 1 := (by decide); have e1 : (1 : Int32).toInt = 1 := (by decide); omega)⟩) dX11_has_14

abbrev rm_X11_bitsIn : Room := { frames := 0, cells := 0, slots := 0, locals := 0 }
abbrev po_X11_bitsIn (g : GG) (ad : Nat → Nat) (th : Nat → Int) (L : List Nat) (f : HP) (z0 : Int32) : Int32 → (List Nat × HP) → Prop := fun r u => u.1 = L ∧ u.2 = f ∧ In r 0 9
set_option maxHeartbeats 4000000 in
set_option maxRecDepth 100000 in
theorem s_X11_bitsIn (l : Launch) (g : GG) (ad : Nat → Nat) (th : Nat → Int) (L : List Nat) (f : HP) (sz : Nat) (z0 : Int32) (hst : ST ad L) (hT : TI g ad th f)  : MtI l g yX11_bitsIn cX11_bitsIn 3 (some .int) rm_X11_bitsIn [.int z0] L f sz (po_X11_bitsIn g ad th L f z0) := by
  refine MtI.of (by decide +kernel) (Nat.le_of_ble_eq_true rfl) ?_
  intro p e s m below meth c A hEn hP hD hS ls hl
  obtain ⟨hx, hb, hr, hml, hown, hlocks, hts, hG, hA, hE, hnm⟩ := hEn
  have hown : s.vm.findClass "RulerWordModel" = some m.cls := hown
  have hl : lv_has ls 3 [(0, .int z0)] := hl
  refine lv_iconst (v := 0) hx hb dX11_bitsIn_0 (by decide) ?_
  refine lv_istore_n (lv' := [(1, .int 0), (0, .int z0)]) hx hb dX11_bitsIn_1 rfl hl (by decide) rfl (fun ls hl => ?_)
  refine lv_iconst (v := 0) hx hb dX11_bitsIn_2 (by decide) ?_
  refine lv_istore_n (lv' := [(2, .int 0), (1, .int 0), (0, .int z0)]) hx hb dX11_bitsIn_3 rfl hl (by decide) rfl (fun ls hl => ?_)
  have hJ4 : ∀ (k4 : Nat) (y4_l1 : Int32) (y4_l2 : Int32) (H : Heap) (locs : List Loc) (ls : Array Slot), In y4_l1 0 9 → In y4_l2 0 9 → va_P g.1 vwCl (va_pl L f) H → va_D A (va_pl L f) → va_S A s.heap H locs → (y4_l1.toInt ≤ y4_l2.toInt ∧ 0 ≤ y4_l1.toInt) → lv_has ls 3 [(0, .int z0), (1, .int y4_l1), (2, .int y4_l2)] → 9 - y4_l2.toInt < ((k4 : Nat) : Int) → W p l e rm_X11_bitsIn s m [.int z0].toArray below meth c H locs 0 0 (MQ below (va_Qi (po_X11_bitsIn g ad th L f z0) (PstB g A) A) [.int z0].toArray s rm_X11_bitsIn.cells rm_X11_bitsIn.slots A) (F0 m 4 ls []) := by
    intro k4
    induction k4 with
    | zero =>
      intro y4_l1 y4_l2 H locs ls hy4_l1 hy4_l2 hP hD hS hinv4_0 hl hmz4
      exact ms0 hy4_l2 hmz4
    | succ k4 ih4 =>
      intro y4_l1 y4_l2 H locs ls hy4_l1 hy4_l2 hP hD hS hinv4_0 hl hmz4
      refine lv_iload_n hx hb dX11_bitsIn_4 rfl (lv_at hl 2 rfl) ?_
      refine lv_bipush (v := 9) hx hb dX11_bitsIn_5 (by decide) ?_
      refine lv_icmp_ge (tgt := 24) hx hb dX11_bitsIn_7 (by decide) (fun c1 => ?_) (fun c1 => ?_)
      ·
        have oc9 : (9 : Int32).toInt = 9 := by decide
        have cc2 : (9 : Int32).toInt ≤ y4_l2.toInt := i32_le.mp c1
        have hb3 : In y4_l2 9 9 := In.ge1 hy4_l2 (⟨by decide, by decide⟩ : In 9 9 9) cc2 (by omega) (by omega)
        refine lv_iload_n hx hb dX11_bitsIn_24 rfl (lv_at hl 1 rfl) ?_
        exact ret_i (ty := .int) hx hb hr hlocks (rfl) hP hD hS (Nat.le_of_ble_eq_true rfl) (Nat.le_of_ble_eq_true rfl) (⟨rfl, rfl, hy4_l1⟩) dX11_bitsIn_25
      ·
        have oc9 : (9 : Int32).toInt = 9 := by decide
        have cc4 : y4_l2.toInt < (9 : Int32).toInt := i32_nle c1
        have hb5 : In y4_l2 0 8 := In.lt1 hy4_l2 (⟨by decide, by decide⟩ : In 9 9 9) cc4 (by omega) (by omega)
        refine lv_iload_n hx hb dX11_bitsIn_10 rfl (lv_at hl 1 rfl) ?_
        refine lv_iload_n hx hb dX11_bitsIn_11 rfl (lv_at hl 0 rfl) ?_
        refine lv_iload_n hx hb dX11_bitsIn_12 rfl (lv_at hl 2 rfl) ?_
        refine lv_ishr hx hb dX11_bitsIn_13 ?_
        refine lv_topi (fun x6 ex6 => ?_)
        refine lv_iconst (v := 1) hx hb dX11_bitsIn_14 (by decide) ?_
        refine lv_iand hx hb dX11_bitsIn_15 ?_
        refine lv_topi (fun x7 ex7 => ?_)
        have hb8 : In x7 0 1 := ex7 ▸ In.andr (⟨by decide, by decide⟩ : In 1 1 1) (by decide)
        refine lv_iadd hx hb dX11_bitsIn_16 ?_
        refine lv_topi (fun x9 ex9 => ?_)
        have hb10 : In x9 0 10 := ex9 ▸ In.add hy4_l1 hb8 (by decide) (by decide) (by decide) (by decide)
        have et11 : x9.toInt = y4_l1.toInt + x7.toInt := In.add2e ex9 hy4_l1 hb8 (by decide) (by decide)
        refine lv_istore_n (lv' := [(1, .int x9), (0, .int z0), (2, .int y4_l2)]) hx hb dX11_bitsIn_17 rfl hl (by decide) rfl (fun ls hl => ?_)
        obtain ⟨x12, ex12⟩ : ∃ y : Int32, y = y4_l2 + 1 := ⟨_, rfl⟩
        have hb13 : In x12 1 9 := ex12 ▸ In.add hb5 (⟨by decide, by decide⟩ : In 1 1 1) (by decide) (by decide) (by decide) (by decide)
        have et14 : x12.toInt = y4_l2.toInt + 1 := In.adde ex12 hb5 (k := 1) (by decide) (by decide) (by decide)
        refine lv_iinc (v := x12) (lv' := [(2, .int x12), (1, .int x9), (0, .int z0)]) hx hb dX11_bitsIn_18 hl (k := 2) rfl (by rw [ex12]; rfl) (by decide) rfl (fun ls hl => ?_)
        refine lv_goto (tgt := 4) hx hb dX11_bitsIn_21 (by decide) ?_
        exact ih4 x9 x12 _ _ _ (In.mk (by obtain ⟨o0a, o0b⟩ := (hb10 : In _ _ _); obtain ⟨o1a, o1b⟩ := (hy4_l1 : In _ _ _); obtain ⟨o2a, o2b⟩ := (hb8 : In _ _ _); obtain ⟨o3a, o3b⟩ := (hb5 : In _ _ _); omega) (by obtain ⟨o0a, o0b⟩ := (hb10 : In _ _ _); obtain ⟨o1a, o1b⟩ := (hy4_l1 : In _ _ _); obtain ⟨o2a, o2b⟩ := (hb8 : In _ _ _); obtain ⟨o3a, o3b⟩ := (hb5 : In _ _ _); omega)) (In.mono hb13 (by decide) (by decide)) hP hD hS (by obtain ⟨o0a, o0b⟩ := (hb10 : In _ _ _); obtain ⟨o1a, o1b⟩ := (hb13 : In _ _ _); obtain ⟨o2a, o2b⟩ := (hy4_l1 : In _ _ _); obtain ⟨o3a, o3b⟩ := (hb8 : In _ _ _); obtain ⟨o4a, o4b⟩ := (hb5 : In _ _ _); omega) (lv_sub hl [2, 1, 0] rfl) (msu et14 (by decide) hmz4)
  exact hJ4 ((9 - (0 : Int32).toInt).toNat + 1) 0 0 _ _ _ (⟨by decide, by decide⟩ : In 0 0 9) (⟨by decide, by decide⟩ : In 0 0 9) hP hD hS (by have oc0 : (0 : Int32).toInt = 0 := (by decide); omega) (lv_sub hl [2, 1, 0] rfl) (msI _)

abbrev rm_X11_bytesOf : Room := { frames := 0, cells := 0, slots := 0, locals := 0 }
abbrev po_X11_bytesOf (g : GG) (ad : Nat → Nat) (th : Nat → Int) (L : List Nat) (f : HP) (z0 : Int32) : Int32 → (List Nat × HP) → Prop := fun r u => u.1 = L ∧ u.2 = f ∧ In r 0 4 ∧ r.toInt = nb z0
set_option maxHeartbeats 4000000 in
set_option maxRecDepth 100000 in
theorem s_X11_bytesOf (l : Launch) (g : GG) (ad : Nat → Nat) (th : Nat → Int) (L : List Nat) (f : HP) (sz : Nat) (z0 : Int32) (hst : ST ad L) (hT : TI g ad th f)  : MtI l g yX11_bytesOf cX11_bytesOf 3 (some .int) rm_X11_bytesOf [.int z0] L f sz (po_X11_bytesOf g ad th L f z0) := by
  refine MtI.of (by decide +kernel) (Nat.le_of_ble_eq_true rfl) ?_
  intro p e s m below meth c A hEn hP hD hS ls hl
  obtain ⟨hx, hb, hr, hml, hown, hlocks, hts, hG, hA, hE, hnm⟩ := hEn
  have hown : s.vm.findClass "RulerWordModel" = some m.cls := hown
  have hl : lv_has ls 3 [(0, .int z0)] := hl
  refine lv_iconst (v := 0) hx hb dX11_bytesOf_0 (by decide) ?_
  refine lv_istore_n (lv' := [(1, .int 0), (0, .int z0)]) hx hb dX11_bytesOf_1 rfl hl (by decide) rfl (fun ls hl => ?_)
  refine lv_iconst (v := 0) hx hb dX11_bytesOf_2 (by decide) ?_
  refine lv_istore_n (lv' := [(2, .int 0), (1, .int 0), (0, .int z0)]) hx hb dX11_bytesOf_3 rfl hl (by decide) rfl (fun ls hl => ?_)
  refine lv_iload_n hx hb dX11_bytesOf_4 rfl (lv_at hl 0 rfl) ?_
  refine lv_iconst (v := 4) hx hb dX11_bytesOf_5 (by decide) ?_
  refine lv_icmp_ge (tgt := 36) hx hb dX11_bytesOf_6 (by decide) (fun c1 => ?_) (fun c1 => ?_)
  ·
    have cc2 : (4 : Int32).toInt ≤ (0 : Int32).toInt := i32_le.mp c1
    exact In.empty (lo := 4) (hi := 0) (In.ge1 (⟨by decide, by decide⟩ : In 0 0 0) (⟨by decide, by decide⟩ : In 4 4 4) cc2 (by omega) (by omega)) (by decide)
  ·
    refine lv_iload_n hx hb dX11_bytesOf_9 rfl (lv_at hl 1 rfl) ?_
    refine lv_iload_n hx hb dX11_bytesOf_10 rfl (lv_at hl 2 rfl) ?_
    refine lv_bipush (v := 8) hx hb dX11_bytesOf_11 (by decide) ?_
    refine lv_iload_n hx hb dX11_bytesOf_13 rfl (lv_at hl 0 rfl) ?_
    refine lv_imul hx hb dX11_bytesOf_14 ?_
    refine lv_topi (fun x3 ex3 => ?_)
    obtain rfl : x3 = 0 := ex3.trans (by decide)
    refine lv_ishr hx hb dX11_bytesOf_15 ?_
    refine lv_topi (fun x4 ex4 => ?_)
    refine lv_sipush (v := 255) hx hb dX11_bytesOf_16 (by decide) ?_
    refine lv_iand hx hb dX11_bytesOf_19 ?_
    refine lv_topi (fun x5 ex5 => ?_)
    have hb6 : In x5 0 255 := ex5 ▸ In.andr (⟨by decide, by decide⟩ : In 255 255 255) (by decide)
    refine lv_if_ne (tgt := 27) hx hb dX11_bytesOf_20 (by decide) (fun c7 => ?_) (fun c7 => ?_)
    ·
      have cc8 : x5.toInt ≠ (0 : Int32).toInt := i32_ne c7
      have hb9 : In x5 1 255 := In.ne1 hb6 (⟨by decide, by decide⟩ : In 0 0 0) cc8 (by omega) (by omega)
      refine lv_iconst (v := 1) hx hb dX11_bytesOf_27 (by decide) ?_
      refine lv_iadd hx hb dX11_bytesOf_28 ?_
      refine lv_topi (fun x10 ex10 => ?_)
      obtain rfl : x10 = 1 := ex10.trans (by decide)
      refine lv_istore_n (lv' := [(1, .int 1), (2, .int 0), (0, .int z0)]) hx hb dX11_bytesOf_29 rfl hl (by decide) rfl (fun ls hl => ?_)
      refine lv_iinc (v := 1) (lv' := [(2, .int 1), (1, .int 1), (0, .int z0)]) hx hb dX11_bytesOf_30 hl (k := 1) rfl (by decide) (by decide) rfl (fun ls hl => ?_)
      refine lv_goto (tgt := 4) hx hb dX11_bytesOf_33 (by decide) ?_
      refine lv_iload_n hx hb dX11_bytesOf_4 rfl (lv_at hl 0 rfl) ?_
      refine lv_iconst (v := 4) hx hb dX11_bytesOf_5 (by decide) ?_
      refine lv_icmp_ge (tgt := 36) hx hb dX11_bytesOf_6 (by decide) (fun c11 => ?_) (fun c11 => ?_)
      ·
        have cc12 : (4 : Int32).toInt ≤ (1 : Int32).toInt := i32_le.mp c11
        exact In.empty (lo := 4) (hi := 1) (In.ge1 (⟨by decide, by decide⟩ : In 1 1 1) (⟨by decide, by decide⟩ : In 4 4 4) cc12 (by omega) (by omega)) (by decide)
      ·
        refine lv_iload_n hx hb dX11_bytesOf_9 rfl (lv_at hl 1 rfl) ?_
        refine lv_iload_n hx hb dX11_bytesOf_10 rfl (lv_at hl 2 rfl) ?_
        refine lv_bipush (v := 8) hx hb dX11_bytesOf_11 (by decide) ?_
        refine lv_iload_n hx hb dX11_bytesOf_13 rfl (lv_at hl 0 rfl) ?_
        refine lv_imul hx hb dX11_bytesOf_14 ?_
        refine lv_topi (fun x13 ex13 => ?_)
        obtain rfl : x13 = 8 := ex13.trans (by decide)
        refine lv_ishr hx hb dX11_bytesOf_15 ?_
        refine lv_topi (fun x14 ex14 => ?_)
        refine lv_sipush (v := 255) hx hb dX11_bytesOf_16 (by decide) ?_
        refine lv_iand hx hb dX11_bytesOf_19 ?_
        refine lv_topi (fun x15 ex15 => ?_)
        have hb16 : In x15 0 255 := ex15 ▸ In.andr (⟨by decide, by decide⟩ : In 255 255 255) (by decide)
        refine lv_if_ne (tgt := 27) hx hb dX11_bytesOf_20 (by decide) (fun c17 => ?_) (fun c17 => ?_)
        ·
          have cc18 : x15.toInt ≠ (0 : Int32).toInt := i32_ne c17
          have hb19 : In x15 1 255 := In.ne1 hb16 (⟨by decide, by decide⟩ : In 0 0 0) cc18 (by omega) (by omega)
          refine lv_iconst (v := 1) hx hb dX11_bytesOf_27 (by decide) ?_
          refine lv_iadd hx hb dX11_bytesOf_28 ?_
          refine lv_topi (fun x20 ex20 => ?_)
          obtain rfl : x20 = 2 := ex20.trans (by decide)
          refine lv_istore_n (lv' := [(1, .int 2), (2, .int 1), (0, .int z0)]) hx hb dX11_bytesOf_29 rfl hl (by decide) rfl (fun ls hl => ?_)
          refine lv_iinc (v := 2) (lv' := [(2, .int 2), (1, .int 2), (0, .int z0)]) hx hb dX11_bytesOf_30 hl (k := 1) rfl (by decide) (by decide) rfl (fun ls hl => ?_)
          refine lv_goto (tgt := 4) hx hb dX11_bytesOf_33 (by decide) ?_
          refine lv_iload_n hx hb dX11_bytesOf_4 rfl (lv_at hl 0 rfl) ?_
          refine lv_iconst (v := 4) hx hb dX11_bytesOf_5 (by decide) ?_
          refine lv_icmp_ge (tgt := 36) hx hb dX11_bytesOf_6 (by decide) (fun c21 => ?_) (fun c21 => ?_)
          ·
            have cc22 : (4 : Int32).toInt ≤ (2 : Int32).toInt := i32_le.mp c21
            exact In.empty (lo := 4) (hi := 2) (In.ge1 (⟨by decide, by decide⟩ : In 2 2 2) (⟨by decide, by decide⟩ : In 4 4 4) cc22 (by omega) (by omega)) (by decide)
          ·
            refine lv_iload_n hx hb dX11_bytesOf_9 rfl (lv_at hl 1 rfl) ?_
            refine lv_iload_n hx hb dX11_bytesOf_10 rfl (lv_at hl 2 rfl) ?_
            refine lv_bipush (v := 8) hx hb dX11_bytesOf_11 (by decide) ?_
            refine lv_iload_n hx hb dX11_bytesOf_13 rfl (lv_at hl 0 rfl) ?_
            refine lv_imul hx hb dX11_bytesOf_14 ?_
            refine lv_topi (fun x23 ex23 => ?_)
            obtain rfl : x23 = 16 := ex23.trans (by decide)
            refine lv_ishr hx hb dX11_bytesOf_15 ?_
            refine lv_topi (fun x24 ex24 => ?_)
            refine lv_sipush (v := 255) hx hb dX11_bytesOf_16 (by decide) ?_
            refine lv_iand hx hb dX11_bytesOf_19 ?_
            refine lv_topi (fun x25 ex25 => ?_)
            have hb26 : In x25 0 255 := ex25 ▸ In.andr (⟨by decide, by decide⟩ : In 255 255 255) (by decide)
            refine lv_if_ne (tgt := 27) hx hb dX11_bytesOf_20 (by decide) (fun c27 => ?_) (fun c27 => ?_)
            ·
              have cc28 : x25.toInt ≠ (0 : Int32).toInt := i32_ne c27
              have hb29 : In x25 1 255 := In.ne1 hb26 (⟨by decide, by decide⟩ : In 0 0 0) cc28 (by omega) (by omega)
              refine lv_iconst (v := 1) hx hb dX11_bytesOf_27 (by decide) ?_
              refine lv_iadd hx hb dX11_bytesOf_28 ?_
              refine lv_topi (fun x30 ex30 => ?_)
              obtain rfl : x30 = 3 := ex30.trans (by decide)
              refine lv_istore_n (lv' := [(1, .int 3), (2, .int 2), (0, .int z0)]) hx hb dX11_bytesOf_29 rfl hl (by decide) rfl (fun ls hl => ?_)
              refine lv_iinc (v := 3) (lv' := [(2, .int 3), (1, .int 3), (0, .int z0)]) hx hb dX11_bytesOf_30 hl (k := 1) rfl (by decide) (by decide) rfl (fun ls hl => ?_)
              refine lv_goto (tgt := 4) hx hb dX11_bytesOf_33 (by decide) ?_
              refine lv_iload_n hx hb dX11_bytesOf_4 rfl (lv_at hl 0 rfl) ?_
              refine lv_iconst (v := 4) hx hb dX11_bytesOf_5 (by decide) ?_
              refine lv_icmp_ge (tgt := 36) hx hb dX11_bytesOf_6 (by decide) (fun c31 => ?_) (fun c31 => ?_)
              ·
                have cc32 : (4 : Int32).toInt ≤ (3 : Int32).toInt := i32_le.mp c31
                exact In.empty (lo := 4) (hi := 3) (In.ge1 (⟨by decide, by decide⟩ : In 3 3 3) (⟨by decide, by decide⟩ : In 4 4 4) cc32 (by omega) (by omega)) (by decide)
              ·
                refine lv_iload_n hx hb dX11_bytesOf_9 rfl (lv_at hl 1 rfl) ?_
                refine lv_iload_n hx hb dX11_bytesOf_10 rfl (lv_at hl 2 rfl) ?_
                refine lv_bipush (v := 8) hx hb dX11_bytesOf_11 (by decide) ?_
                refine lv_iload_n hx hb dX11_bytesOf_13 rfl (lv_at hl 0 rfl) ?_
                refine lv_imul hx hb dX11_bytesOf_14 ?_
                refine lv_topi (fun x33 ex33 => ?_)
                obtain rfl : x33 = 24 := ex33.trans (by decide)
                refine lv_ishr hx hb dX11_bytesOf_15 ?_
                refine lv_topi (fun x34 ex34 => ?_)
                refine lv_sipush (v := 255) hx hb dX11_bytesOf_16 (by decide) ?_
                refine lv_iand hx hb dX11_bytesOf_19 ?_
                refine lv_topi (fun x35 ex35 => ?_)
                have hb36 : In x35 0 255 := ex35 ▸ In.andr (⟨by decide, by decide⟩ : In 255 255 255) (by decide)
                refine lv_if_ne (tgt := 27) hx hb dX11_bytesOf_20 (by decide) (fun c37 => ?_) (fun c37 => ?_)
                ·
                  have cc38 : x35.toInt ≠ (0 : Int32).toInt := i32_ne c37
                  have hb39 : In x35 1 255 := In.ne1 hb36 (⟨by decide, by decide⟩ : In 0 0 0) cc38 (by omega) (by omega)
                  refine lv_iconst (v := 1) hx hb dX11_bytesOf_27 (by decide) ?_
                  refine lv_iadd hx hb dX11_bytesOf_28 ?_
                  refine lv_topi (fun x40 ex40 => ?_)
                  obtain rfl : x40 = 4 := ex40.trans (by decide)
                  refine lv_istore_n (lv' := [(1, .int 4), (2, .int 3), (0, .int z0)]) hx hb dX11_bytesOf_29 rfl hl (by decide) rfl (fun ls hl => ?_)
                  refine lv_iinc (v := 4) (lv' := [(2, .int 4), (1, .int 4), (0, .int z0)]) hx hb dX11_bytesOf_30 hl (k := 1) rfl (by decide) (by decide) rfl (fun ls hl => ?_)
                  refine lv_goto (tgt := 4) hx hb dX11_bytesOf_33 (by decide) ?_
                  refine lv_iload_n hx hb dX11_bytesOf_4 rfl (lv_at hl 0 rfl) ?_
                  refine lv_iconst (v := 4) hx hb dX11_bytesOf_5 (by decide) ?_
                  refine lv_icmp_ge (tgt := 36) hx hb dX11_bytesOf_6 (by decide) (fun c41 => ?_) (fun c41 => ?_)
                  ·
                    refine lv_iload_n hx hb dX11_bytesOf_36 rfl (lv_at hl 1 rfl) ?_
                    have hby42 : b1 z0 0 = 1 := b1_1 (by rw [show byS z0 0 = x5 by rw [ex5, ex4]; rfl]; exact c7)
                    have hby43 : b1 z0 8 = 1 := b1_1 (by rw [show byS z0 8 = x15 by rw [ex15, ex14]; rfl]; exact c17)
                    have hby44 : b1 z0 16 = 1 := b1_1 (by rw [show byS z0 16 = x25 by rw [ex25, ex24]; rfl]; exact c27)
                    have hby45 : b1 z0 24 = 1 := b1_1 (by rw [show byS z0 24 = x35 by rw [ex35, ex34]; rfl]; exact c37)
                    exact ret_i (ty := .int) hx hb hr hlocks (rfl) hP hD hS (Nat.le_of_ble_eq_true rfl) (Nat.le_of_ble_eq_true rfl) (⟨rfl, rfl, (⟨by decide, by decide⟩ : In 4 0 4), (by have e0 : (4 : Int32).toInt = 4 := (by decide); unfold nb; omega)⟩) dX11_bytesOf_37
                  ·
                    have cc46 : (4 : Int32).toInt < (4 : Int32).toInt := i32_nle c41
                    exact In.empty (lo := 4) (hi := 3) (In.lt1 (⟨by decide, by decide⟩ : In 4 4 4) (⟨by decide, by decide⟩ : In 4 4 4) cc46 (by omega) (by omega)) (by decide)
                ·
                  have cc47 : x35.toInt = (0 : Int32).toInt := congrArg Int32.toInt c37
                  have hb48 : In x35 0 0 := In.eq1 hb36 (⟨by decide, by decide⟩ : In 0 0 0) cc47 (by omega) (by omega)
                  refine lv_iconst (v := 0) hx hb dX11_bytesOf_23 (by decide) ?_
                  refine lv_goto (tgt := 28) hx hb dX11_bytesOf_24 (by decide) ?_
                  refine lv_iadd hx hb dX11_bytesOf_28 ?_
                  refine lv_topi (fun x49 ex49 => ?_)
                  obtain rfl : x49 = 3 := ex49.trans (by decide)
                  refine lv_istore_n (lv' := [(1, .int 3), (2, .int 3), (0, .int z0)]) hx hb dX11_bytesOf_29 rfl hl (by decide) rfl (fun ls hl => ?_)
                  refine lv_iinc (v := 4) (lv' := [(2, .int 4), (1, .int 3), (0, .int z0)]) hx hb dX11_bytesOf_30 hl (k := 1) rfl (by decide) (by decide) rfl (fun ls hl => ?_)
                  refine lv_goto (tgt := 4) hx hb dX11_bytesOf_33 (by decide) ?_
                  refine lv_iload_n hx hb dX11_bytesOf_4 rfl (lv_at hl 0 rfl) ?_
                  refine lv_iconst (v := 4) hx hb dX11_bytesOf_5 (by decide) ?_
                  refine lv_icmp_ge (tgt := 36) hx hb dX11_bytesOf_6 (by decide) (fun c50 => ?_) (fun c50 => ?_)
                  ·
                    refine lv_iload_n hx hb dX11_bytesOf_36 rfl (lv_at hl 1 rfl) ?_
                    have hby51 : b1 z0 0 = 1 := b1_1 (by rw [show byS z0 0 = x5 by rw [ex5, ex4]; rfl]; exact c7)
                    have hby52 : b1 z0 8 = 1 := b1_1 (by rw [show byS z0 8 = x15 by rw [ex15, ex14]; rfl]; exact c17)
                    have hby53 : b1 z0 16 = 1 := b1_1 (by rw [show byS z0 16 = x25 by rw [ex25, ex24]; rfl]; exact c27)
                    have hby54 : b1 z0 24 = 0 := b1_0 (by rw [show byS z0 24 = x35 by rw [ex35, ex34]; rfl]; exact c37)
                    exact ret_i (ty := .int) hx hb hr hlocks (rfl) hP hD hS (Nat.le_of_ble_eq_true rfl) (Nat.le_of_ble_eq_true rfl) (⟨rfl, rfl, (⟨by decide, by decide⟩ : In 3 0 4), (by have e0 : (3 : Int32).toInt = 3 := (by decide); unfold nb; omega)⟩) dX11_bytesOf_37
                  ·
                    have cc55 : (4 : Int32).toInt < (4 : Int32).toInt := i32_nle c50
                    exact In.empty (lo := 4) (hi := 3) (In.lt1 (⟨by decide, by decide⟩ : In 4 4 4) (⟨by decide, by decide⟩ : In 4 4 4) cc55 (by omega) (by omega)) (by decide)
            ·
              have cc56 : x25.toInt = (0 : Int32).toInt := congrArg Int32.toInt c27
              have hb57 : In x25 0 0 := In.eq1 hb26 (⟨by decide, by decide⟩ : In 0 0 0) cc56 (by omega) (by omega)
              refine lv_iconst (v := 0) hx hb dX11_bytesOf_23 (by decide) ?_
              refine lv_goto (tgt := 28) hx hb dX11_bytesOf_24 (by decide) ?_
              refine lv_iadd hx hb dX11_bytesOf_28 ?_
              refine lv_topi (fun x58 ex58 => ?_)
              obtain rfl : x58 = 2 := ex58.trans (by decide)
              refine lv_istore_n (lv' := [(1, .int 2), (2, .int 2), (0, .int z0)]) hx hb dX11_bytesOf_29 rfl hl (by decide) rfl (fun ls hl => ?_)
              refine lv_iinc (v := 3) (lv' := [(2, .int 3), (1, .int 2), (0, .int z0)]) hx hb dX11_bytesOf_30 hl (k := 1) rfl (by decide) (by decide) rfl (fun ls hl => ?_)
              refine lv_goto (tgt := 4) hx hb dX11_bytesOf_33 (by decide) ?_
              refine lv_iload_n hx hb dX11_bytesOf_4 rfl (lv_at hl 0 rfl) ?_
              refine lv_iconst (v := 4) hx hb dX11_bytesOf_5 (by decide) ?_
              refine lv_icmp_ge (tgt := 36) hx hb dX11_bytesOf_6 (by decide) (fun c59 => ?_) (fun c59 => ?_)
              ·
                have cc60 : (4 : Int32).toInt ≤ (3 : Int32).toInt := i32_le.mp c59
                exact In.empty (lo := 4) (hi := 3) (In.ge1 (⟨by decide, by decide⟩ : In 3 3 3) (⟨by decide, by decide⟩ : In 4 4 4) cc60 (by omega) (by omega)) (by decide)
              ·
                refine lv_iload_n hx hb dX11_bytesOf_9 rfl (lv_at hl 1 rfl) ?_
                refine lv_iload_n hx hb dX11_bytesOf_10 rfl (lv_at hl 2 rfl) ?_
                refine lv_bipush (v := 8) hx hb dX11_bytesOf_11 (by decide) ?_
                refine lv_iload_n hx hb dX11_bytesOf_13 rfl (lv_at hl 0 rfl) ?_
                refine lv_imul hx hb dX11_bytesOf_14 ?_
                refine lv_topi (fun x61 ex61 => ?_)
                obtain rfl : x61 = 24 := ex61.trans (by decide)
                refine lv_ishr hx hb dX11_bytesOf_15 ?_
                refine lv_topi (fun x62 ex62 => ?_)
                refine lv_sipush (v := 255) hx hb dX11_bytesOf_16 (by decide) ?_
                refine lv_iand hx hb dX11_bytesOf_19 ?_
                refine lv_topi (fun x63 ex63 => ?_)
                have hb64 : In x63 0 255 := ex63 ▸ In.andr (⟨by decide, by decide⟩ : In 255 255 255) (by decide)
                refine lv_if_ne (tgt := 27) hx hb dX11_bytesOf_20 (by decide) (fun c65 => ?_) (fun c65 => ?_)
                ·
                  have cc66 : x63.toInt ≠ (0 : Int32).toInt := i32_ne c65
                  have hb67 : In x63 1 255 := In.ne1 hb64 (⟨by decide, by decide⟩ : In 0 0 0) cc66 (by omega) (by omega)
                  refine lv_iconst (v := 1) hx hb dX11_bytesOf_27 (by decide) ?_
                  refine lv_iadd hx hb dX11_bytesOf_28 ?_
                  refine lv_topi (fun x68 ex68 => ?_)
                  obtain rfl : x68 = 3 := ex68.trans (by decide)
                  refine lv_istore_n (lv' := [(1, .int 3), (2, .int 3), (0, .int z0)]) hx hb dX11_bytesOf_29 rfl hl (by decide) rfl (fun ls hl => ?_)
                  refine lv_iinc (v := 4) (lv' := [(2, .int 4), (1, .int 3), (0, .int z0)]) hx hb dX11_bytesOf_30 hl (k := 1) rfl (by decide) (by decide) rfl (fun ls hl => ?_)
                  refine lv_goto (tgt := 4) hx hb dX11_bytesOf_33 (by decide) ?_
                  refine lv_iload_n hx hb dX11_bytesOf_4 rfl (lv_at hl 0 rfl) ?_
                  refine lv_iconst (v := 4) hx hb dX11_bytesOf_5 (by decide) ?_
                  refine lv_icmp_ge (tgt := 36) hx hb dX11_bytesOf_6 (by decide) (fun c69 => ?_) (fun c69 => ?_)
                  ·
                    refine lv_iload_n hx hb dX11_bytesOf_36 rfl (lv_at hl 1 rfl) ?_
                    have hby70 : b1 z0 0 = 1 := b1_1 (by rw [show byS z0 0 = x5 by rw [ex5, ex4]; rfl]; exact c7)
                    have hby71 : b1 z0 8 = 1 := b1_1 (by rw [show byS z0 8 = x15 by rw [ex15, ex14]; rfl]; exact c17)
                    have hby72 : b1 z0 16 = 0 := b1_0 (by rw [show byS z0 16 = x25 by rw [ex25, ex24]; rfl]; exact c27)
                    have hby73 : b1 z0 24 = 1 := b1_1 (by rw [show byS z0 24 = x63 by rw [ex63, ex62]; rfl]; exact c65)
                    exact ret_i (ty := .int) hx hb hr hlocks (rfl) hP hD hS (Nat.le_of_ble_eq_true rfl) (Nat.le_of_ble_eq_true rfl) (⟨rfl, rfl, (⟨by decide, by decide⟩ : In 3 0 4), (by have e0 : (3 : Int32).toInt = 3 := (by decide); unfold nb; omega)⟩) dX11_bytesOf_37
                  ·
                    have cc74 : (4 : Int32).toInt < (4 : Int32).toInt := i32_nle c69
                    exact In.empty (lo := 4) (hi := 3) (In.lt1 (⟨by decide, by decide⟩ : In 4 4 4) (⟨by decide, by decide⟩ : In 4 4 4) cc74 (by omega) (by omega)) (by decide)
                ·
                  have cc75 : x63.toInt = (0 : Int32).toInt := congrArg Int32.toInt c65
                  have hb76 : In x63 0 0 := In.eq1 hb64 (⟨by decide, by decide⟩ : In 0 0 0) cc75 (by omega) (by omega)
                  refine lv_iconst (v := 0) hx hb dX11_bytesOf_23 (by decide) ?_
                  refine lv_goto (tgt := 28) hx hb dX11_bytesOf_24 (by decide) ?_
                  refine lv_iadd hx hb dX11_bytesOf_28 ?_
                  refine lv_topi (fun x77 ex77 => ?_)
                  obtain rfl : x77 = 2 := ex77.trans (by decide)
                  refine lv_istore_n (lv' := [(1, .int 2), (2, .int 3), (0, .int z0)]) hx hb dX11_bytesOf_29 rfl hl (by decide) rfl (fun ls hl => ?_)
                  refine lv_iinc (v := 4) (lv' := [(2, .int 4), (1, .int 2), (0, .int z0)]) hx hb dX11_bytesOf_30 hl (k := 1) rfl (by decide) (by decide) rfl (fun ls hl => ?_)
                  refine lv_goto (tgt := 4) hx hb dX11_bytesOf_33 (by decide) ?_
                  refine lv_iload_n hx hb dX11_bytesOf_4 rfl (lv_at hl 0 rfl) ?_
                  refine lv_iconst (v := 4) hx hb dX11_bytesOf_5 (by decide) ?_
                  refine lv_icmp_ge (tgt := 36) hx hb dX11_bytesOf_6 (by decide) (fun c78 => ?_) (fun c78 => ?_)
                  ·
                    refine lv_iload_n hx hb dX11_bytesOf_36 rfl (lv_at hl 1 rfl) ?_
                    have hby79 : b1 z0 0 = 1 := b1_1 (by rw [show byS z0 0 = x5 by rw [ex5, ex4]; rfl]; exact c7)
                    have hby80 : b1 z0 8 = 1 := b1_1 (by rw [show byS z0 8 = x15 by rw [ex15, ex14]; rfl]; exact c17)
                    have hby81 : b1 z0 16 = 0 := b1_0 (by rw [show byS z0 16 = x25 by rw [ex25, ex24]; rfl]; exact c27)
                    have hby82 : b1 z0 24 = 0 := b1_0 (by rw [show byS z0 24 = x63 by rw [ex63, ex62]; rfl]; exact c65)
                    exact ret_i (ty := .int) hx hb hr hlocks (rfl) hP hD hS (Nat.le_of_ble_eq_true rfl) (Nat.le_of_ble_eq_true rfl) (⟨rfl, rfl, (⟨by decide, by decide⟩ : In 2 0 4), (by have e0 : (2 : Int32).toInt = 2 := (by decide); unfold nb; omega)⟩) dX11_bytesOf_37
                  ·
                    have cc83 : (4 : Int32).toInt < (4 : Int32).toInt := i32_nle c78
                    exact In.empty (lo := 4) (hi := 3) (In.lt1 (⟨by decide, by decide⟩ : In 4 4 4) (⟨by decide, by decide⟩ : In 4 4 4) cc83 (by omega) (by omega)) (by decide)
        ·
          have cc84 : x15.toInt = (0 : Int32).toInt := congrArg Int32.toInt c17
          have hb85 : In x15 0 0 := In.eq1 hb16 (⟨by decide, by decide⟩ : In 0 0 0) cc84 (by omega) (by omega)
          refine lv_iconst (v := 0) hx hb dX11_bytesOf_23 (by decide) ?_
          refine lv_goto (tgt := 28) hx hb dX11_bytesOf_24 (by decide) ?_
          refine lv_iadd hx hb dX11_bytesOf_28 ?_
          refine lv_topi (fun x86 ex86 => ?_)
          obtain rfl : x86 = 1 := ex86.trans (by decide)
          refine lv_istore_n (lv' := [(1, .int 1), (2, .int 1), (0, .int z0)]) hx hb dX11_bytesOf_29 rfl hl (by decide) rfl (fun ls hl => ?_)
          refine lv_iinc (v := 2) (lv' := [(2, .int 2), (1, .int 1), (0, .int z0)]) hx hb dX11_bytesOf_30 hl (k := 1) rfl (by decide) (by decide) rfl (fun ls hl => ?_)
          refine lv_goto (tgt := 4) hx hb dX11_bytesOf_33 (by decide) ?_
          refine lv_iload_n hx hb dX11_bytesOf_4 rfl (lv_at hl 0 rfl) ?_
          refine lv_iconst (v := 4) hx hb dX11_bytesOf_5 (by decide) ?_
          refine lv_icmp_ge (tgt := 36) hx hb dX11_bytesOf_6 (by decide) (fun c87 => ?_) (fun c87 => ?_)
          ·
            have cc88 : (4 : Int32).toInt ≤ (2 : Int32).toInt := i32_le.mp c87
            exact In.empty (lo := 4) (hi := 2) (In.ge1 (⟨by decide, by decide⟩ : In 2 2 2) (⟨by decide, by decide⟩ : In 4 4 4) cc88 (by omega) (by omega)) (by decide)
          ·
            refine lv_iload_n hx hb dX11_bytesOf_9 rfl (lv_at hl 1 rfl) ?_
            refine lv_iload_n hx hb dX11_bytesOf_10 rfl (lv_at hl 2 rfl) ?_
            refine lv_bipush (v := 8) hx hb dX11_bytesOf_11 (by decide) ?_
            refine lv_iload_n hx hb dX11_bytesOf_13 rfl (lv_at hl 0 rfl) ?_
            refine lv_imul hx hb dX11_bytesOf_14 ?_
            refine lv_topi (fun x89 ex89 => ?_)
            obtain rfl : x89 = 16 := ex89.trans (by decide)
            refine lv_ishr hx hb dX11_bytesOf_15 ?_
            refine lv_topi (fun x90 ex90 => ?_)
            refine lv_sipush (v := 255) hx hb dX11_bytesOf_16 (by decide) ?_
            refine lv_iand hx hb dX11_bytesOf_19 ?_
            refine lv_topi (fun x91 ex91 => ?_)
            have hb92 : In x91 0 255 := ex91 ▸ In.andr (⟨by decide, by decide⟩ : In 255 255 255) (by decide)
            refine lv_if_ne (tgt := 27) hx hb dX11_bytesOf_20 (by decide) (fun c93 => ?_) (fun c93 => ?_)
            ·
              have cc94 : x91.toInt ≠ (0 : Int32).toInt := i32_ne c93
              have hb95 : In x91 1 255 := In.ne1 hb92 (⟨by decide, by decide⟩ : In 0 0 0) cc94 (by omega) (by omega)
              refine lv_iconst (v := 1) hx hb dX11_bytesOf_27 (by decide) ?_
              refine lv_iadd hx hb dX11_bytesOf_28 ?_
              refine lv_topi (fun x96 ex96 => ?_)
              obtain rfl : x96 = 2 := ex96.trans (by decide)
              refine lv_istore_n (lv' := [(1, .int 2), (2, .int 2), (0, .int z0)]) hx hb dX11_bytesOf_29 rfl hl (by decide) rfl (fun ls hl => ?_)
              refine lv_iinc (v := 3) (lv' := [(2, .int 3), (1, .int 2), (0, .int z0)]) hx hb dX11_bytesOf_30 hl (k := 1) rfl (by decide) (by decide) rfl (fun ls hl => ?_)
              refine lv_goto (tgt := 4) hx hb dX11_bytesOf_33 (by decide) ?_
              refine lv_iload_n hx hb dX11_bytesOf_4 rfl (lv_at hl 0 rfl) ?_
              refine lv_iconst (v := 4) hx hb dX11_bytesOf_5 (by decide) ?_
              refine lv_icmp_ge (tgt := 36) hx hb dX11_bytesOf_6 (by decide) (fun c97 => ?_) (fun c97 => ?_)
              ·
                have cc98 : (4 : Int32).toInt ≤ (3 : Int32).toInt := i32_le.mp c97
                exact In.empty (lo := 4) (hi := 3) (In.ge1 (⟨by decide, by decide⟩ : In 3 3 3) (⟨by decide, by decide⟩ : In 4 4 4) cc98 (by omega) (by omega)) (by decide)
              ·
                refine lv_iload_n hx hb dX11_bytesOf_9 rfl (lv_at hl 1 rfl) ?_
                refine lv_iload_n hx hb dX11_bytesOf_10 rfl (lv_at hl 2 rfl) ?_
                refine lv_bipush (v := 8) hx hb dX11_bytesOf_11 (by decide) ?_
                refine lv_iload_n hx hb dX11_bytesOf_13 rfl (lv_at hl 0 rfl) ?_
                refine lv_imul hx hb dX11_bytesOf_14 ?_
                refine lv_topi (fun x99 ex99 => ?_)
                obtain rfl : x99 = 24 := ex99.trans (by decide)
                refine lv_ishr hx hb dX11_bytesOf_15 ?_
                refine lv_topi (fun x100 ex100 => ?_)
                refine lv_sipush (v := 255) hx hb dX11_bytesOf_16 (by decide) ?_
                refine lv_iand hx hb dX11_bytesOf_19 ?_
                refine lv_topi (fun x101 ex101 => ?_)
                have hb102 : In x101 0 255 := ex101 ▸ In.andr (⟨by decide, by decide⟩ : In 255 255 255) (by decide)
                refine lv_if_ne (tgt := 27) hx hb dX11_bytesOf_20 (by decide) (fun c103 => ?_) (fun c103 => ?_)
                ·
                  have cc104 : x101.toInt ≠ (0 : Int32).toInt := i32_ne c103
                  have hb105 : In x101 1 255 := In.ne1 hb102 (⟨by decide, by decide⟩ : In 0 0 0) cc104 (by omega) (by omega)
                  refine lv_iconst (v := 1) hx hb dX11_bytesOf_27 (by decide) ?_
                  refine lv_iadd hx hb dX11_bytesOf_28 ?_
                  refine lv_topi (fun x106 ex106 => ?_)
                  obtain rfl : x106 = 3 := ex106.trans (by decide)
                  refine lv_istore_n (lv' := [(1, .int 3), (2, .int 3), (0, .int z0)]) hx hb dX11_bytesOf_29 rfl hl (by decide) rfl (fun ls hl => ?_)
                  refine lv_iinc (v := 4) (lv' := [(2, .int 4), (1, .int 3), (0, .int z0)]) hx hb dX11_bytesOf_30 hl (k := 1) rfl (by decide) (by decide) rfl (fun ls hl => ?_)
                  refine lv_goto (tgt := 4) hx hb dX11_bytesOf_33 (by decide) ?_
                  refine lv_iload_n hx hb dX11_bytesOf_4 rfl (lv_at hl 0 rfl) ?_
                  refine lv_iconst (v := 4) hx hb dX11_bytesOf_5 (by decide) ?_
                  refine lv_icmp_ge (tgt := 36) hx hb dX11_bytesOf_6 (by decide) (fun c107 => ?_) (fun c107 => ?_)
                  ·
                    refine lv_iload_n hx hb dX11_bytesOf_36 rfl (lv_at hl 1 rfl) ?_
                    have hby108 : b1 z0 0 = 1 := b1_1 (by rw [show byS z0 0 = x5 by rw [ex5, ex4]; rfl]; exact c7)
                    have hby109 : b1 z0 8 = 0 := b1_0 (by rw [show byS z0 8 = x15 by rw [ex15, ex14]; rfl]; exact c17)
                    have hby110 : b1 z0 16 = 1 := b1_1 (by rw [show byS z0 16 = x91 by rw [ex91, ex90]; rfl]; exact c93)
                    have hby111 : b1 z0 24 = 1 := b1_1 (by rw [show byS z0 24 = x101 by rw [ex101, ex100]; rfl]; exact c103)
                    exact ret_i (ty := .int) hx hb hr hlocks (rfl) hP hD hS (Nat.le_of_ble_eq_true rfl) (Nat.le_of_ble_eq_true rfl) (⟨rfl, rfl, (⟨by decide, by decide⟩ : In 3 0 4), (by have e0 : (3 : Int32).toInt = 3 := (by decide); unfold nb; omega)⟩) dX11_bytesOf_37
                  ·
                    have cc112 : (4 : Int32).toInt < (4 : Int32).toInt := i32_nle c107
                    exact In.empty (lo := 4) (hi := 3) (In.lt1 (⟨by decide, by decide⟩ : In 4 4 4) (⟨by decide, by decide⟩ : In 4 4 4) cc112 (by omega) (by omega)) (by decide)
                ·
                  have cc113 : x101.toInt = (0 : Int32).toInt := congrArg Int32.toInt c103
                  have hb114 : In x101 0 0 := In.eq1 hb102 (⟨by decide, by decide⟩ : In 0 0 0) cc113 (by omega) (by omega)
                  refine lv_iconst (v := 0) hx hb dX11_bytesOf_23 (by decide) ?_
                  refine lv_goto (tgt := 28) hx hb dX11_bytesOf_24 (by decide) ?_
                  refine lv_iadd hx hb dX11_bytesOf_28 ?_
                  refine lv_topi (fun x115 ex115 => ?_)
                  obtain rfl : x115 = 2 := ex115.trans (by decide)
                  refine lv_istore_n (lv' := [(1, .int 2), (2, .int 3), (0, .int z0)]) hx hb dX11_bytesOf_29 rfl hl (by decide) rfl (fun ls hl => ?_)
                  refine lv_iinc (v := 4) (lv' := [(2, .int 4), (1, .int 2), (0, .int z0)]) hx hb dX11_bytesOf_30 hl (k := 1) rfl (by decide) (by decide) rfl (fun ls hl => ?_)
                  refine lv_goto (tgt := 4) hx hb dX11_bytesOf_33 (by decide) ?_
                  refine lv_iload_n hx hb dX11_bytesOf_4 rfl (lv_at hl 0 rfl) ?_
                  refine lv_iconst (v := 4) hx hb dX11_bytesOf_5 (by decide) ?_
                  refine lv_icmp_ge (tgt := 36) hx hb dX11_bytesOf_6 (by decide) (fun c116 => ?_) (fun c116 => ?_)
                  ·
                    refine lv_iload_n hx hb dX11_bytesOf_36 rfl (lv_at hl 1 rfl) ?_
                    have hby117 : b1 z0 0 = 1 := b1_1 (by rw [show byS z0 0 = x5 by rw [ex5, ex4]; rfl]; exact c7)
                    have hby118 : b1 z0 8 = 0 := b1_0 (by rw [show byS z0 8 = x15 by rw [ex15, ex14]; rfl]; exact c17)
                    have hby119 : b1 z0 16 = 1 := b1_1 (by rw [show byS z0 16 = x91 by rw [ex91, ex90]; rfl]; exact c93)
                    have hby120 : b1 z0 24 = 0 := b1_0 (by rw [show byS z0 24 = x101 by rw [ex101, ex100]; rfl]; exact c103)
                    exact ret_i (ty := .int) hx hb hr hlocks (rfl) hP hD hS (Nat.le_of_ble_eq_true rfl) (Nat.le_of_ble_eq_true rfl) (⟨rfl, rfl, (⟨by decide, by decide⟩ : In 2 0 4), (by have e0 : (2 : Int32).toInt = 2 := (by decide); unfold nb; omega)⟩) dX11_bytesOf_37
                  ·
                    have cc121 : (4 : Int32).toInt < (4 : Int32).toInt := i32_nle c116
                    exact In.empty (lo := 4) (hi := 3) (In.lt1 (⟨by decide, by decide⟩ : In 4 4 4) (⟨by decide, by decide⟩ : In 4 4 4) cc121 (by omega) (by omega)) (by decide)
            ·
              have cc122 : x91.toInt = (0 : Int32).toInt := congrArg Int32.toInt c93
              have hb123 : In x91 0 0 := In.eq1 hb92 (⟨by decide, by decide⟩ : In 0 0 0) cc122 (by omega) (by omega)
              refine lv_iconst (v := 0) hx hb dX11_bytesOf_23 (by decide) ?_
              refine lv_goto (tgt := 28) hx hb dX11_bytesOf_24 (by decide) ?_
              refine lv_iadd hx hb dX11_bytesOf_28 ?_
              refine lv_topi (fun x124 ex124 => ?_)
              obtain rfl : x124 = 1 := ex124.trans (by decide)
              refine lv_istore_n (lv' := [(1, .int 1), (2, .int 2), (0, .int z0)]) hx hb dX11_bytesOf_29 rfl hl (by decide) rfl (fun ls hl => ?_)
              refine lv_iinc (v := 3) (lv' := [(2, .int 3), (1, .int 1), (0, .int z0)]) hx hb dX11_bytesOf_30 hl (k := 1) rfl (by decide) (by decide) rfl (fun ls hl => ?_)
              refine lv_goto (tgt := 4) hx hb dX11_bytesOf_33 (by decide) ?_
              refine lv_iload_n hx hb dX11_bytesOf_4 rfl (lv_at hl 0 rfl) ?_
              refine lv_iconst (v := 4) hx hb dX11_bytesOf_5 (by decide) ?_
              refine lv_icmp_ge (tgt := 36) hx hb dX11_bytesOf_6 (by decide) (fun c125 => ?_) (fun c125 => ?_)
              ·
                have cc126 : (4 : Int32).toInt ≤ (3 : Int32).toInt := i32_le.mp c125
                exact In.empty (lo := 4) (hi := 3) (In.ge1 (⟨by decide, by decide⟩ : In 3 3 3) (⟨by decide, by decide⟩ : In 4 4 4) cc126 (by omega) (by omega)) (by decide)
              ·
                refine lv_iload_n hx hb dX11_bytesOf_9 rfl (lv_at hl 1 rfl) ?_
                refine lv_iload_n hx hb dX11_bytesOf_10 rfl (lv_at hl 2 rfl) ?_
                refine lv_bipush (v := 8) hx hb dX11_bytesOf_11 (by decide) ?_
                refine lv_iload_n hx hb dX11_bytesOf_13 rfl (lv_at hl 0 rfl) ?_
                refine lv_imul hx hb dX11_bytesOf_14 ?_
                refine lv_topi (fun x127 ex127 => ?_)
                obtain rfl : x127 = 24 := ex127.trans (by decide)
                refine lv_ishr hx hb dX11_bytesOf_15 ?_
                refine lv_topi (fun x128 ex128 => ?_)
                refine lv_sipush (v := 255) hx hb dX11_bytesOf_16 (by decide) ?_
                refine lv_iand hx hb dX11_bytesOf_19 ?_
                refine lv_topi (fun x129 ex129 => ?_)
                have hb130 : In x129 0 255 := ex129 ▸ In.andr (⟨by decide, by decide⟩ : In 255 255 255) (by decide)
                refine lv_if_ne (tgt := 27) hx hb dX11_bytesOf_20 (by decide) (fun c131 => ?_) (fun c131 => ?_)
                ·
                  have cc132 : x129.toInt ≠ (0 : Int32).toInt := i32_ne c131
                  have hb133 : In x129 1 255 := In.ne1 hb130 (⟨by decide, by decide⟩ : In 0 0 0) cc132 (by omega) (by omega)
                  refine lv_iconst (v := 1) hx hb dX11_bytesOf_27 (by decide) ?_
                  refine lv_iadd hx hb dX11_bytesOf_28 ?_
                  refine lv_topi (fun x134 ex134 => ?_)
                  obtain rfl : x134 = 2 := ex134.trans (by decide)
                  refine lv_istore_n (lv' := [(1, .int 2), (2, .int 3), (0, .int z0)]) hx hb dX11_bytesOf_29 rfl hl (by decide) rfl (fun ls hl => ?_)
                  refine lv_iinc (v := 4) (lv' := [(2, .int 4), (1, .int 2), (0, .int z0)]) hx hb dX11_bytesOf_30 hl (k := 1) rfl (by decide) (by decide) rfl (fun ls hl => ?_)
                  refine lv_goto (tgt := 4) hx hb dX11_bytesOf_33 (by decide) ?_
                  refine lv_iload_n hx hb dX11_bytesOf_4 rfl (lv_at hl 0 rfl) ?_
                  refine lv_iconst (v := 4) hx hb dX11_bytesOf_5 (by decide) ?_
                  refine lv_icmp_ge (tgt := 36) hx hb dX11_bytesOf_6 (by decide) (fun c135 => ?_) (fun c135 => ?_)
                  ·
                    refine lv_iload_n hx hb dX11_bytesOf_36 rfl (lv_at hl 1 rfl) ?_
                    have hby136 : b1 z0 0 = 1 := b1_1 (by rw [show byS z0 0 = x5 by rw [ex5, ex4]; rfl]; exact c7)
                    have hby137 : b1 z0 8 = 0 := b1_0 (by rw [show byS z0 8 = x15 by rw [ex15, ex14]; rfl]; exact c17)
                    have hby138 : b1 z0 16 = 0 := b1_0 (by rw [show byS z0 16 = x91 by rw [ex91, ex90]; rfl]; exact c93)
                    have hby139 : b1 z0 24 = 1 := b1_1 (by rw [show byS z0 24 = x129 by rw [ex129, ex128]; rfl]; exact c131)
                    exact ret_i (ty := .int) hx hb hr hlocks (rfl) hP hD hS (Nat.le_of_ble_eq_true rfl) (Nat.le_of_ble_eq_true rfl) (⟨rfl, rfl, (⟨by decide, by decide⟩ : In 2 0 4), (by have e0 : (2 : Int32).toInt = 2 := (by decide); unfold nb; omega)⟩) dX11_bytesOf_37
                  ·
                    have cc140 : (4 : Int32).toInt < (4 : Int32).toInt := i32_nle c135
                    exact In.empty (lo := 4) (hi := 3) (In.lt1 (⟨by decide, by decide⟩ : In 4 4 4) (⟨by decide, by decide⟩ : In 4 4 4) cc140 (by omega) (by omega)) (by decide)
                ·
                  have cc141 : x129.toInt = (0 : Int32).toInt := congrArg Int32.toInt c131
                  have hb142 : In x129 0 0 := In.eq1 hb130 (⟨by decide, by decide⟩ : In 0 0 0) cc141 (by omega) (by omega)
                  refine lv_iconst (v := 0) hx hb dX11_bytesOf_23 (by decide) ?_
                  refine lv_goto (tgt := 28) hx hb dX11_bytesOf_24 (by decide) ?_
                  refine lv_iadd hx hb dX11_bytesOf_28 ?_
                  refine lv_topi (fun x143 ex143 => ?_)
                  obtain rfl : x143 = 1 := ex143.trans (by decide)
                  refine lv_istore_n (lv' := [(1, .int 1), (2, .int 3), (0, .int z0)]) hx hb dX11_bytesOf_29 rfl hl (by decide) rfl (fun ls hl => ?_)
                  refine lv_iinc (v := 4) (lv' := [(2, .int 4), (1, .int 1), (0, .int z0)]) hx hb dX11_bytesOf_30 hl (k := 1) rfl (by decide) (by decide) rfl (fun ls hl => ?_)
                  refine lv_goto (tgt := 4) hx hb dX11_bytesOf_33 (by decide) ?_
                  refine lv_iload_n hx hb dX11_bytesOf_4 rfl (lv_at hl 0 rfl) ?_
                  refine lv_iconst (v := 4) hx hb dX11_bytesOf_5 (by decide) ?_
                  refine lv_icmp_ge (tgt := 36) hx hb dX11_bytesOf_6 (by decide) (fun c144 => ?_) (fun c144 => ?_)
                  ·
                    refine lv_iload_n hx hb dX11_bytesOf_36 rfl (lv_at hl 1 rfl) ?_
                    have hby145 : b1 z0 0 = 1 := b1_1 (by rw [show byS z0 0 = x5 by rw [ex5, ex4]; rfl]; exact c7)
                    have hby146 : b1 z0 8 = 0 := b1_0 (by rw [show byS z0 8 = x15 by rw [ex15, ex14]; rfl]; exact c17)
                    have hby147 : b1 z0 16 = 0 := b1_0 (by rw [show byS z0 16 = x91 by rw [ex91, ex90]; rfl]; exact c93)
                    have hby148 : b1 z0 24 = 0 := b1_0 (by rw [show byS z0 24 = x129 by rw [ex129, ex128]; rfl]; exact c131)
                    exact ret_i (ty := .int) hx hb hr hlocks (rfl) hP hD hS (Nat.le_of_ble_eq_true rfl) (Nat.le_of_ble_eq_true rfl) (⟨rfl, rfl, (⟨by decide, by decide⟩ : In 1 0 4), (by have e0 : (1 : Int32).toInt = 1 := (by decide); unfold nb; omega)⟩) dX11_bytesOf_37
                  ·
                    have cc149 : (4 : Int32).toInt < (4 : Int32).toInt := i32_nle c144
                    exact In.empty (lo := 4) (hi := 3) (In.lt1 (⟨by decide, by decide⟩ : In 4 4 4) (⟨by decide, by decide⟩ : In 4 4 4) cc149 (by omega) (by omega)) (by decide)
    ·
      have cc150 : x5.toInt = (0 : Int32).toInt := congrArg Int32.toInt c7
      have hb151 : In x5 0 0 := In.eq1 hb6 (⟨by decide, by decide⟩ : In 0 0 0) cc150 (by omega) (by omega)
      refine lv_iconst (v := 0) hx hb dX11_bytesOf_23 (by decide) ?_
      refine lv_goto (tgt := 28) hx hb dX11_bytesOf_24 (by decide) ?_
      refine lv_iadd hx hb dX11_bytesOf_28 ?_
      refine lv_topi (fun x152 ex152 => ?_)
      obtain rfl : x152 = 0 := ex152.trans (by decide)
      refine lv_istore_n (lv' := [(1, .int 0), (2, .int 0), (0, .int z0)]) hx hb dX11_bytesOf_29 rfl hl (by decide) rfl (fun ls hl => ?_)
      refine lv_iinc (v := 1) (lv' := [(2, .int 1), (1, .int 0), (0, .int z0)]) hx hb dX11_bytesOf_30 hl (k := 1) rfl (by decide) (by decide) rfl (fun ls hl => ?_)
      refine lv_goto (tgt := 4) hx hb dX11_bytesOf_33 (by decide) ?_
      refine lv_iload_n hx hb dX11_bytesOf_4 rfl (lv_at hl 0 rfl) ?_
      refine lv_iconst (v := 4) hx hb dX11_bytesOf_5 (by decide) ?_
      refine lv_icmp_ge (tgt := 36) hx hb dX11_bytesOf_6 (by decide) (fun c153 => ?_) (fun c153 => ?_)
      ·
        have cc154 : (4 : Int32).toInt ≤ (1 : Int32).toInt := i32_le.mp c153
        exact In.empty (lo := 4) (hi := 1) (In.ge1 (⟨by decide, by decide⟩ : In 1 1 1) (⟨by decide, by decide⟩ : In 4 4 4) cc154 (by omega) (by omega)) (by decide)
      ·
        refine lv_iload_n hx hb dX11_bytesOf_9 rfl (lv_at hl 1 rfl) ?_
        refine lv_iload_n hx hb dX11_bytesOf_10 rfl (lv_at hl 2 rfl) ?_
        refine lv_bipush (v := 8) hx hb dX11_bytesOf_11 (by decide) ?_
        refine lv_iload_n hx hb dX11_bytesOf_13 rfl (lv_at hl 0 rfl) ?_
        refine lv_imul hx hb dX11_bytesOf_14 ?_
        refine lv_topi (fun x155 ex155 => ?_)
        obtain rfl : x155 = 8 := ex155.trans (by decide)
        refine lv_ishr hx hb dX11_bytesOf_15 ?_
        refine lv_topi (fun x156 ex156 => ?_)
        refine lv_sipush (v := 255) hx hb dX11_bytesOf_16 (by decide) ?_
        refine lv_iand hx hb dX11_bytesOf_19 ?_
        refine lv_topi (fun x157 ex157 => ?_)
        have hb158 : In x157 0 255 := ex157 ▸ In.andr (⟨by decide, by decide⟩ : In 255 255 255) (by decide)
        refine lv_if_ne (tgt := 27) hx hb dX11_bytesOf_20 (by decide) (fun c159 => ?_) (fun c159 => ?_)
        ·
          have cc160 : x157.toInt ≠ (0 : Int32).toInt := i32_ne c159
          have hb161 : In x157 1 255 := In.ne1 hb158 (⟨by decide, by decide⟩ : In 0 0 0) cc160 (by omega) (by omega)
          refine lv_iconst (v := 1) hx hb dX11_bytesOf_27 (by decide) ?_
          refine lv_iadd hx hb dX11_bytesOf_28 ?_
          refine lv_topi (fun x162 ex162 => ?_)
          obtain rfl : x162 = 1 := ex162.trans (by decide)
          refine lv_istore_n (lv' := [(1, .int 1), (2, .int 1), (0, .int z0)]) hx hb dX11_bytesOf_29 rfl hl (by decide) rfl (fun ls hl => ?_)
          refine lv_iinc (v := 2) (lv' := [(2, .int 2), (1, .int 1), (0, .int z0)]) hx hb dX11_bytesOf_30 hl (k := 1) rfl (by decide) (by decide) rfl (fun ls hl => ?_)
          refine lv_goto (tgt := 4) hx hb dX11_bytesOf_33 (by decide) ?_
          refine lv_iload_n hx hb dX11_bytesOf_4 rfl (lv_at hl 0 rfl) ?_
          refine lv_iconst (v := 4) hx hb dX11_bytesOf_5 (by decide) ?_
          refine lv_icmp_ge (tgt := 36) hx hb dX11_bytesOf_6 (by decide) (fun c163 => ?_) (fun c163 => ?_)
          ·
            have cc164 : (4 : Int32).toInt ≤ (2 : Int32).toInt := i32_le.mp c163
            exact In.empty (lo := 4) (hi := 2) (In.ge1 (⟨by decide, by decide⟩ : In 2 2 2) (⟨by decide, by decide⟩ : In 4 4 4) cc164 (by omega) (by omega)) (by decide)
          ·
            refine lv_iload_n hx hb dX11_bytesOf_9 rfl (lv_at hl 1 rfl) ?_
            refine lv_iload_n hx hb dX11_bytesOf_10 rfl (lv_at hl 2 rfl) ?_
            refine lv_bipush (v := 8) hx hb dX11_bytesOf_11 (by decide) ?_
            refine lv_iload_n hx hb dX11_bytesOf_13 rfl (lv_at hl 0 rfl) ?_
            refine lv_imul hx hb dX11_bytesOf_14 ?_
            refine lv_topi (fun x165 ex165 => ?_)
            obtain rfl : x165 = 16 := ex165.trans (by decide)
            refine lv_ishr hx hb dX11_bytesOf_15 ?_
            refine lv_topi (fun x166 ex166 => ?_)
            refine lv_sipush (v := 255) hx hb dX11_bytesOf_16 (by decide) ?_
            refine lv_iand hx hb dX11_bytesOf_19 ?_
            refine lv_topi (fun x167 ex167 => ?_)
            have hb168 : In x167 0 255 := ex167 ▸ In.andr (⟨by decide, by decide⟩ : In 255 255 255) (by decide)
            refine lv_if_ne (tgt := 27) hx hb dX11_bytesOf_20 (by decide) (fun c169 => ?_) (fun c169 => ?_)
            ·
              have cc170 : x167.toInt ≠ (0 : Int32).toInt := i32_ne c169
              have hb171 : In x167 1 255 := In.ne1 hb168 (⟨by decide, by decide⟩ : In 0 0 0) cc170 (by omega) (by omega)
              refine lv_iconst (v := 1) hx hb dX11_bytesOf_27 (by decide) ?_
              refine lv_iadd hx hb dX11_bytesOf_28 ?_
              refine lv_topi (fun x172 ex172 => ?_)
              obtain rfl : x172 = 2 := ex172.trans (by decide)
              refine lv_istore_n (lv' := [(1, .int 2), (2, .int 2), (0, .int z0)]) hx hb dX11_bytesOf_29 rfl hl (by decide) rfl (fun ls hl => ?_)
              refine lv_iinc (v := 3) (lv' := [(2, .int 3), (1, .int 2), (0, .int z0)]) hx hb dX11_bytesOf_30 hl (k := 1) rfl (by decide) (by decide) rfl (fun ls hl => ?_)
              refine lv_goto (tgt := 4) hx hb dX11_bytesOf_33 (by decide) ?_
              refine lv_iload_n hx hb dX11_bytesOf_4 rfl (lv_at hl 0 rfl) ?_
              refine lv_iconst (v := 4) hx hb dX11_bytesOf_5 (by decide) ?_
              refine lv_icmp_ge (tgt := 36) hx hb dX11_bytesOf_6 (by decide) (fun c173 => ?_) (fun c173 => ?_)
              ·
                have cc174 : (4 : Int32).toInt ≤ (3 : Int32).toInt := i32_le.mp c173
                exact In.empty (lo := 4) (hi := 3) (In.ge1 (⟨by decide, by decide⟩ : In 3 3 3) (⟨by decide, by decide⟩ : In 4 4 4) cc174 (by omega) (by omega)) (by decide)
              ·
                refine lv_iload_n hx hb dX11_bytesOf_9 rfl (lv_at hl 1 rfl) ?_
                refine lv_iload_n hx hb dX11_bytesOf_10 rfl (lv_at hl 2 rfl) ?_
                refine lv_bipush (v := 8) hx hb dX11_bytesOf_11 (by decide) ?_
                refine lv_iload_n hx hb dX11_bytesOf_13 rfl (lv_at hl 0 rfl) ?_
                refine lv_imul hx hb dX11_bytesOf_14 ?_
                refine lv_topi (fun x175 ex175 => ?_)
                obtain rfl : x175 = 24 := ex175.trans (by decide)
                refine lv_ishr hx hb dX11_bytesOf_15 ?_
                refine lv_topi (fun x176 ex176 => ?_)
                refine lv_sipush (v := 255) hx hb dX11_bytesOf_16 (by decide) ?_
                refine lv_iand hx hb dX11_bytesOf_19 ?_
                refine lv_topi (fun x177 ex177 => ?_)
                have hb178 : In x177 0 255 := ex177 ▸ In.andr (⟨by decide, by decide⟩ : In 255 255 255) (by decide)
                refine lv_if_ne (tgt := 27) hx hb dX11_bytesOf_20 (by decide) (fun c179 => ?_) (fun c179 => ?_)
                ·
                  have cc180 : x177.toInt ≠ (0 : Int32).toInt := i32_ne c179
                  have hb181 : In x177 1 255 := In.ne1 hb178 (⟨by decide, by decide⟩ : In 0 0 0) cc180 (by omega) (by omega)
                  refine lv_iconst (v := 1) hx hb dX11_bytesOf_27 (by decide) ?_
                  refine lv_iadd hx hb dX11_bytesOf_28 ?_
                  refine lv_topi (fun x182 ex182 => ?_)
                  obtain rfl : x182 = 3 := ex182.trans (by decide)
                  refine lv_istore_n (lv' := [(1, .int 3), (2, .int 3), (0, .int z0)]) hx hb dX11_bytesOf_29 rfl hl (by decide) rfl (fun ls hl => ?_)
                  refine lv_iinc (v := 4) (lv' := [(2, .int 4), (1, .int 3), (0, .int z0)]) hx hb dX11_bytesOf_30 hl (k := 1) rfl (by decide) (by decide) rfl (fun ls hl => ?_)
                  refine lv_goto (tgt := 4) hx hb dX11_bytesOf_33 (by decide) ?_
                  refine lv_iload_n hx hb dX11_bytesOf_4 rfl (lv_at hl 0 rfl) ?_
                  refine lv_iconst (v := 4) hx hb dX11_bytesOf_5 (by decide) ?_
                  refine lv_icmp_ge (tgt := 36) hx hb dX11_bytesOf_6 (by decide) (fun c183 => ?_) (fun c183 => ?_)
                  ·
                    refine lv_iload_n hx hb dX11_bytesOf_36 rfl (lv_at hl 1 rfl) ?_
                    have hby184 : b1 z0 0 = 0 := b1_0 (by rw [show byS z0 0 = x5 by rw [ex5, ex4]; rfl]; exact c7)
                    have hby185 : b1 z0 8 = 1 := b1_1 (by rw [show byS z0 8 = x157 by rw [ex157, ex156]; rfl]; exact c159)
                    have hby186 : b1 z0 16 = 1 := b1_1 (by rw [show byS z0 16 = x167 by rw [ex167, ex166]; rfl]; exact c169)
                    have hby187 : b1 z0 24 = 1 := b1_1 (by rw [show byS z0 24 = x177 by rw [ex177, ex176]; rfl]; exact c179)
                    exact ret_i (ty := .int) hx hb hr hlocks (rfl) hP hD hS (Nat.le_of_ble_eq_true rfl) (Nat.le_of_ble_eq_true rfl) (⟨rfl, rfl, (⟨by decide, by decide⟩ : In 3 0 4), (by have e0 : (3 : Int32).toInt = 3 := (by decide); unfold nb; omega)⟩) dX11_bytesOf_37
                  ·
                    have cc188 : (4 : Int32).toInt < (4 : Int32).toInt := i32_nle c183
                    exact In.empty (lo := 4) (hi := 3) (In.lt1 (⟨by decide, by decide⟩ : In 4 4 4) (⟨by decide, by decide⟩ : In 4 4 4) cc188 (by omega) (by omega)) (by decide)
                ·
                  have cc189 : x177.toInt = (0 : Int32).toInt := congrArg Int32.toInt c179
                  have hb190 : In x177 0 0 := In.eq1 hb178 (⟨by decide, by decide⟩ : In 0 0 0) cc189 (by omega) (by omega)
                  refine lv_iconst (v := 0) hx hb dX11_bytesOf_23 (by decide) ?_
                  refine lv_goto (tgt := 28) hx hb dX11_bytesOf_24 (by decide) ?_
                  refine lv_iadd hx hb dX11_bytesOf_28 ?_
                  refine lv_topi (fun x191 ex191 => ?_)
                  obtain rfl : x191 = 2 := ex191.trans (by decide)
                  refine lv_istore_n (lv' := [(1, .int 2), (2, .int 3), (0, .int z0)]) hx hb dX11_bytesOf_29 rfl hl (by decide) rfl (fun ls hl => ?_)
                  refine lv_iinc (v := 4) (lv' := [(2, .int 4), (1, .int 2), (0, .int z0)]) hx hb dX11_bytesOf_30 hl (k := 1) rfl (by decide) (by decide) rfl (fun ls hl => ?_)
                  refine lv_goto (tgt := 4) hx hb dX11_bytesOf_33 (by decide) ?_
                  refine lv_iload_n hx hb dX11_bytesOf_4 rfl (lv_at hl 0 rfl) ?_
                  refine lv_iconst (v := 4) hx hb dX11_bytesOf_5 (by decide) ?_
                  refine lv_icmp_ge (tgt := 36) hx hb dX11_bytesOf_6 (by decide) (fun c192 => ?_) (fun c192 => ?_)
                  ·
                    refine lv_iload_n hx hb dX11_bytesOf_36 rfl (lv_at hl 1 rfl) ?_
                    have hby193 : b1 z0 0 = 0 := b1_0 (by rw [show byS z0 0 = x5 by rw [ex5, ex4]; rfl]; exact c7)
                    have hby194 : b1 z0 8 = 1 := b1_1 (by rw [show byS z0 8 = x157 by rw [ex157, ex156]; rfl]; exact c159)
                    have hby195 : b1 z0 16 = 1 := b1_1 (by rw [show byS z0 16 = x167 by rw [ex167, ex166]; rfl]; exact c169)
                    have hby196 : b1 z0 24 = 0 := b1_0 (by rw [show byS z0 24 = x177 by rw [ex177, ex176]; rfl]; exact c179)
                    exact ret_i (ty := .int) hx hb hr hlocks (rfl) hP hD hS (Nat.le_of_ble_eq_true rfl) (Nat.le_of_ble_eq_true rfl) (⟨rfl, rfl, (⟨by decide, by decide⟩ : In 2 0 4), (by have e0 : (2 : Int32).toInt = 2 := (by decide); unfold nb; omega)⟩) dX11_bytesOf_37
                  ·
                    have cc197 : (4 : Int32).toInt < (4 : Int32).toInt := i32_nle c192
                    exact In.empty (lo := 4) (hi := 3) (In.lt1 (⟨by decide, by decide⟩ : In 4 4 4) (⟨by decide, by decide⟩ : In 4 4 4) cc197 (by omega) (by omega)) (by decide)
            ·
              have cc198 : x167.toInt = (0 : Int32).toInt := congrArg Int32.toInt c169
              have hb199 : In x167 0 0 := In.eq1 hb168 (⟨by decide, by decide⟩ : In 0 0 0) cc198 (by omega) (by omega)
              refine lv_iconst (v := 0) hx hb dX11_bytesOf_23 (by decide) ?_
              refine lv_goto (tgt := 28) hx hb dX11_bytesOf_24 (by decide) ?_
              refine lv_iadd hx hb dX11_bytesOf_28 ?_
              refine lv_topi (fun x200 ex200 => ?_)
              obtain rfl : x200 = 1 := ex200.trans (by decide)
              refine lv_istore_n (lv' := [(1, .int 1), (2, .int 2), (0, .int z0)]) hx hb dX11_bytesOf_29 rfl hl (by decide) rfl (fun ls hl => ?_)
              refine lv_iinc (v := 3) (lv' := [(2, .int 3), (1, .int 1), (0, .int z0)]) hx hb dX11_bytesOf_30 hl (k := 1) rfl (by decide) (by decide) rfl (fun ls hl => ?_)
              refine lv_goto (tgt := 4) hx hb dX11_bytesOf_33 (by decide) ?_
              refine lv_iload_n hx hb dX11_bytesOf_4 rfl (lv_at hl 0 rfl) ?_
              refine lv_iconst (v := 4) hx hb dX11_bytesOf_5 (by decide) ?_
              refine lv_icmp_ge (tgt := 36) hx hb dX11_bytesOf_6 (by decide) (fun c201 => ?_) (fun c201 => ?_)
              ·
                have cc202 : (4 : Int32).toInt ≤ (3 : Int32).toInt := i32_le.mp c201
                exact In.empty (lo := 4) (hi := 3) (In.ge1 (⟨by decide, by decide⟩ : In 3 3 3) (⟨by decide, by decide⟩ : In 4 4 4) cc202 (by omega) (by omega)) (by decide)
              ·
                refine lv_iload_n hx hb dX11_bytesOf_9 rfl (lv_at hl 1 rfl) ?_
                refine lv_iload_n hx hb dX11_bytesOf_10 rfl (lv_at hl 2 rfl) ?_
                refine lv_bipush (v := 8) hx hb dX11_bytesOf_11 (by decide) ?_
                refine lv_iload_n hx hb dX11_bytesOf_13 rfl (lv_at hl 0 rfl) ?_
                refine lv_imul hx hb dX11_bytesOf_14 ?_
                refine lv_topi (fun x203 ex203 => ?_)
                obtain rfl : x203 = 24 := ex203.trans (by decide)
                refine lv_ishr hx hb dX11_bytesOf_15 ?_
                refine lv_topi (fun x204 ex204 => ?_)
                refine lv_sipush (v := 255) hx hb dX11_bytesOf_16 (by decide) ?_
                refine lv_iand hx hb dX11_bytesOf_19 ?_
                refine lv_topi (fun x205 ex205 => ?_)
                have hb206 : In x205 0 255 := ex205 ▸ In.andr (⟨by decide, by decide⟩ : In 255 255 255) (by decide)
                refine lv_if_ne (tgt := 27) hx hb dX11_bytesOf_20 (by decide) (fun c207 => ?_) (fun c207 => ?_)
                ·
                  have cc208 : x205.toInt ≠ (0 : Int32).toInt := i32_ne c207
                  have hb209 : In x205 1 255 := In.ne1 hb206 (⟨by decide, by decide⟩ : In 0 0 0) cc208 (by omega) (by omega)
                  refine lv_iconst (v := 1) hx hb dX11_bytesOf_27 (by decide) ?_
                  refine lv_iadd hx hb dX11_bytesOf_28 ?_
                  refine lv_topi (fun x210 ex210 => ?_)
                  obtain rfl : x210 = 2 := ex210.trans (by decide)
                  refine lv_istore_n (lv' := [(1, .int 2), (2, .int 3), (0, .int z0)]) hx hb dX11_bytesOf_29 rfl hl (by decide) rfl (fun ls hl => ?_)
                  refine lv_iinc (v := 4) (lv' := [(2, .int 4), (1, .int 2), (0, .int z0)]) hx hb dX11_bytesOf_30 hl (k := 1) rfl (by decide) (by decide) rfl (fun ls hl => ?_)
                  refine lv_goto (tgt := 4) hx hb dX11_bytesOf_33 (by decide) ?_
                  refine lv_iload_n hx hb dX11_bytesOf_4 rfl (lv_at hl 0 rfl) ?_
                  refine lv_iconst (v := 4) hx hb dX11_bytesOf_5 (by decide) ?_
                  refine lv_icmp_ge (tgt := 36) hx hb dX11_bytesOf_6 (by decide) (fun c211 => ?_) (fun c211 => ?_)
                  ·
                    refine lv_iload_n hx hb dX11_bytesOf_36 rfl (lv_at hl 1 rfl) ?_
                    have hby212 : b1 z0 0 = 0 := b1_0 (by rw [show byS z0 0 = x5 by rw [ex5, ex4]; rfl]; exact c7)
                    have hby213 : b1 z0 8 = 1 := b1_1 (by rw [show byS z0 8 = x157 by rw [ex157, ex156]; rfl]; exact c159)
                    have hby214 : b1 z0 16 = 0 := b1_0 (by rw [show byS z0 16 = x167 by rw [ex167, ex166]; rfl]; exact c169)
                    have hby215 : b1 z0 24 = 1 := b1_1 (by rw [show byS z0 24 = x205 by rw [ex205, ex204]; rfl]; exact c207)
                    exact ret_i (ty := .int) hx hb hr hlocks (rfl) hP hD hS (Nat.le_of_ble_eq_true rfl) (Nat.le_of_ble_eq_true rfl) (⟨rfl, rfl, (⟨by decide, by decide⟩ : In 2 0 4), (by have e0 : (2 : Int32).toInt = 2 := (by decide); unfold nb; omega)⟩) dX11_bytesOf_37
                  ·
                    have cc216 : (4 : Int32).toInt < (4 : Int32).toInt := i32_nle c211
                    exact In.empty (lo := 4) (hi := 3) (In.lt1 (⟨by decide, by decide⟩ : In 4 4 4) (⟨by decide, by decide⟩ : In 4 4 4) cc216 (by omega) (by omega)) (by decide)
                ·
                  have cc217 : x205.toInt = (0 : Int32).toInt := congrArg Int32.toInt c207
                  have hb218 : In x205 0 0 := In.eq1 hb206 (⟨by decide, by decide⟩ : In 0 0 0) cc217 (by omega) (by omega)
                  refine lv_iconst (v := 0) hx hb dX11_bytesOf_23 (by decide) ?_
                  refine lv_goto (tgt := 28) hx hb dX11_bytesOf_24 (by decide) ?_
                  refine lv_iadd hx hb dX11_bytesOf_28 ?_
                  refine lv_topi (fun x219 ex219 => ?_)
                  obtain rfl : x219 = 1 := ex219.trans (by decide)
                  refine lv_istore_n (lv' := [(1, .int 1), (2, .int 3), (0, .int z0)]) hx hb dX11_bytesOf_29 rfl hl (by decide) rfl (fun ls hl => ?_)
                  refine lv_iinc (v := 4) (lv' := [(2, .int 4), (1, .int 1), (0, .int z0)]) hx hb dX11_bytesOf_30 hl (k := 1) rfl (by decide) (by decide) rfl (fun ls hl => ?_)
                  refine lv_goto (tgt := 4) hx hb dX11_bytesOf_33 (by decide) ?_
                  refine lv_iload_n hx hb dX11_bytesOf_4 rfl (lv_at hl 0 rfl) ?_
                  refine lv_iconst (v := 4) hx hb dX11_bytesOf_5 (by decide) ?_
                  refine lv_icmp_ge (tgt := 36) hx hb dX11_bytesOf_6 (by decide) (fun c220 => ?_) (fun c220 => ?_)
                  ·
                    refine lv_iload_n hx hb dX11_bytesOf_36 rfl (lv_at hl 1 rfl) ?_
                    have hby221 : b1 z0 0 = 0 := b1_0 (by rw [show byS z0 0 = x5 by rw [ex5, ex4]; rfl]; exact c7)
                    have hby222 : b1 z0 8 = 1 := b1_1 (by rw [show byS z0 8 = x157 by rw [ex157, ex156]; rfl]; exact c159)
                    have hby223 : b1 z0 16 = 0 := b1_0 (by rw [show byS z0 16 = x167 by rw [ex167, ex166]; rfl]; exact c169)
                    have hby224 : b1 z0 24 = 0 := b1_0 (by rw [show byS z0 24 = x205 by rw [ex205, ex204]; rfl]; exact c207)
                    exact ret_i (ty := .int) hx hb hr hlocks (rfl) hP hD hS (Nat.le_of_ble_eq_true rfl) (Nat.le_of_ble_eq_true rfl) (⟨rfl, rfl, (⟨by decide, by decide⟩ : In 1 0 4), (by have e0 : (1 : Int32).toInt = 1 := (by decide); unfold nb; omega)⟩) dX11_bytesOf_37
                  ·
                    have cc225 : (4 : Int32).toInt < (4 : Int32).toInt := i32_nle c220
                    exact In.empty (lo := 4) (hi := 3) (In.lt1 (⟨by decide, by decide⟩ : In 4 4 4) (⟨by decide, by decide⟩ : In 4 4 4) cc225 (by omega) (by omega)) (by decide)
        ·
          have cc226 : x157.toInt = (0 : Int32).toInt := congrArg Int32.toInt c159
          have hb227 : In x157 0 0 := In.eq1 hb158 (⟨by decide, by decide⟩ : In 0 0 0) cc226 (by omega) (by omega)
          refine lv_iconst (v := 0) hx hb dX11_bytesOf_23 (by decide) ?_
          refine lv_goto (tgt := 28) hx hb dX11_bytesOf_24 (by decide) ?_
          refine lv_iadd hx hb dX11_bytesOf_28 ?_
          refine lv_topi (fun x228 ex228 => ?_)
          obtain rfl : x228 = 0 := ex228.trans (by decide)
          refine lv_istore_n (lv' := [(1, .int 0), (2, .int 1), (0, .int z0)]) hx hb dX11_bytesOf_29 rfl hl (by decide) rfl (fun ls hl => ?_)
          refine lv_iinc (v := 2) (lv' := [(2, .int 2), (1, .int 0), (0, .int z0)]) hx hb dX11_bytesOf_30 hl (k := 1) rfl (by decide) (by decide) rfl (fun ls hl => ?_)
          refine lv_goto (tgt := 4) hx hb dX11_bytesOf_33 (by decide) ?_
          refine lv_iload_n hx hb dX11_bytesOf_4 rfl (lv_at hl 0 rfl) ?_
          refine lv_iconst (v := 4) hx hb dX11_bytesOf_5 (by decide) ?_
          refine lv_icmp_ge (tgt := 36) hx hb dX11_bytesOf_6 (by decide) (fun c229 => ?_) (fun c229 => ?_)
          ·
            have cc230 : (4 : Int32).toInt ≤ (2 : Int32).toInt := i32_le.mp c229
            exact In.empty (lo := 4) (hi := 2) (In.ge1 (⟨by decide, by decide⟩ : In 2 2 2) (⟨by decide, by decide⟩ : In 4 4 4) cc230 (by omega) (by omega)) (by decide)
          ·
            refine lv_iload_n hx hb dX11_bytesOf_9 rfl (lv_at hl 1 rfl) ?_
            refine lv_iload_n hx hb dX11_bytesOf_10 rfl (lv_at hl 2 rfl) ?_
            refine lv_bipush (v := 8) hx hb dX11_bytesOf_11 (by decide) ?_
            refine lv_iload_n hx hb dX11_bytesOf_13 rfl (lv_at hl 0 rfl) ?_
            refine lv_imul hx hb dX11_bytesOf_14 ?_
            refine lv_topi (fun x231 ex231 => ?_)
            obtain rfl : x231 = 16 := ex231.trans (by decide)
            refine lv_ishr hx hb dX11_bytesOf_15 ?_
            refine lv_topi (fun x232 ex232 => ?_)
            refine lv_sipush (v := 255) hx hb dX11_bytesOf_16 (by decide) ?_
            refine lv_iand hx hb dX11_bytesOf_19 ?_
            refine lv_topi (fun x233 ex233 => ?_)
            have hb234 : In x233 0 255 := ex233 ▸ In.andr (⟨by decide, by decide⟩ : In 255 255 255) (by decide)
            refine lv_if_ne (tgt := 27) hx hb dX11_bytesOf_20 (by decide) (fun c235 => ?_) (fun c235 => ?_)
            ·
              have cc236 : x233.toInt ≠ (0 : Int32).toInt := i32_ne c235
              have hb237 : In x233 1 255 := In.ne1 hb234 (⟨by decide, by decide⟩ : In 0 0 0) cc236 (by omega) (by omega)
              refine lv_iconst (v := 1) hx hb dX11_bytesOf_27 (by decide) ?_
              refine lv_iadd hx hb dX11_bytesOf_28 ?_
              refine lv_topi (fun x238 ex238 => ?_)
              obtain rfl : x238 = 1 := ex238.trans (by decide)
              refine lv_istore_n (lv' := [(1, .int 1), (2, .int 2), (0, .int z0)]) hx hb dX11_bytesOf_29 rfl hl (by decide) rfl (fun ls hl => ?_)
              refine lv_iinc (v := 3) (lv' := [(2, .int 3), (1, .int 1), (0, .int z0)]) hx hb dX11_bytesOf_30 hl (k := 1) rfl (by decide) (by decide) rfl (fun ls hl => ?_)
              refine lv_goto (tgt := 4) hx hb dX11_bytesOf_33 (by decide) ?_
              refine lv_iload_n hx hb dX11_bytesOf_4 rfl (lv_at hl 0 rfl) ?_
              refine lv_iconst (v := 4) hx hb dX11_bytesOf_5 (by decide) ?_
              refine lv_icmp_ge (tgt := 36) hx hb dX11_bytesOf_6 (by decide) (fun c239 => ?_) (fun c239 => ?_)
              ·
                have cc240 : (4 : Int32).toInt ≤ (3 : Int32).toInt := i32_le.mp c239
                exact In.empty (lo := 4) (hi := 3) (In.ge1 (⟨by decide, by decide⟩ : In 3 3 3) (⟨by decide, by decide⟩ : In 4 4 4) cc240 (by omega) (by omega)) (by decide)
              ·
                refine lv_iload_n hx hb dX11_bytesOf_9 rfl (lv_at hl 1 rfl) ?_
                refine lv_iload_n hx hb dX11_bytesOf_10 rfl (lv_at hl 2 rfl) ?_
                refine lv_bipush (v := 8) hx hb dX11_bytesOf_11 (by decide) ?_
                refine lv_iload_n hx hb dX11_bytesOf_13 rfl (lv_at hl 0 rfl) ?_
                refine lv_imul hx hb dX11_bytesOf_14 ?_
                refine lv_topi (fun x241 ex241 => ?_)
                obtain rfl : x241 = 24 := ex241.trans (by decide)
                refine lv_ishr hx hb dX11_bytesOf_15 ?_
                refine lv_topi (fun x242 ex242 => ?_)
                refine lv_sipush (v := 255) hx hb dX11_bytesOf_16 (by decide) ?_
                refine lv_iand hx hb dX11_bytesOf_19 ?_
                refine lv_topi (fun x243 ex243 => ?_)
                have hb244 : In x243 0 255 := ex243 ▸ In.andr (⟨by decide, by decide⟩ : In 255 255 255) (by decide)
                refine lv_if_ne (tgt := 27) hx hb dX11_bytesOf_20 (by decide) (fun c245 => ?_) (fun c245 => ?_)
                ·
                  have cc246 : x243.toInt ≠ (0 : Int32).toInt := i32_ne c245
                  have hb247 : In x243 1 255 := In.ne1 hb244 (⟨by decide, by decide⟩ : In 0 0 0) cc246 (by omega) (by omega)
                  refine lv_iconst (v := 1) hx hb dX11_bytesOf_27 (by decide) ?_
                  refine lv_iadd hx hb dX11_bytesOf_28 ?_
                  refine lv_topi (fun x248 ex248 => ?_)
                  obtain rfl : x248 = 2 := ex248.trans (by decide)
                  refine lv_istore_n (lv' := [(1, .int 2), (2, .int 3), (0, .int z0)]) hx hb dX11_bytesOf_29 rfl hl (by decide) rfl (fun ls hl => ?_)
                  refine lv_iinc (v := 4) (lv' := [(2, .int 4), (1, .int 2), (0, .int z0)]) hx hb dX11_bytesOf_30 hl (k := 1) rfl (by decide) (by decide) rfl (fun ls hl => ?_)
                  refine lv_goto (tgt := 4) hx hb dX11_bytesOf_33 (by decide) ?_
                  refine lv_iload_n hx hb dX11_bytesOf_4 rfl (lv_at hl 0 rfl) ?_
                  refine lv_iconst (v := 4) hx hb dX11_bytesOf_5 (by decide) ?_
                  refine lv_icmp_ge (tgt := 36) hx hb dX11_bytesOf_6 (by decide) (fun c249 => ?_) (fun c249 => ?_)
                  ·
                    refine lv_iload_n hx hb dX11_bytesOf_36 rfl (lv_at hl 1 rfl) ?_
                    have hby250 : b1 z0 0 = 0 := b1_0 (by rw [show byS z0 0 = x5 by rw [ex5, ex4]; rfl]; exact c7)
                    have hby251 : b1 z0 8 = 0 := b1_0 (by rw [show byS z0 8 = x157 by rw [ex157, ex156]; rfl]; exact c159)
                    have hby252 : b1 z0 16 = 1 := b1_1 (by rw [show byS z0 16 = x233 by rw [ex233, ex232]; rfl]; exact c235)
                    have hby253 : b1 z0 24 = 1 := b1_1 (by rw [show byS z0 24 = x243 by rw [ex243, ex242]; rfl]; exact c245)
                    exact ret_i (ty := .int) hx hb hr hlocks (rfl) hP hD hS (Nat.le_of_ble_eq_true rfl) (Nat.le_of_ble_eq_true rfl) (⟨rfl, rfl, (⟨by decide, by decide⟩ : In 2 0 4), (by have e0 : (2 : Int32).toInt = 2 := (by decide); unfold nb; omega)⟩) dX11_bytesOf_37
                  ·
                    have cc254 : (4 : Int32).toInt < (4 : Int32).toInt := i32_nle c249
                    exact In.empty (lo := 4) (hi := 3) (In.lt1 (⟨by decide, by decide⟩ : In 4 4 4) (⟨by decide, by decide⟩ : In 4 4 4) cc254 (by omega) (by omega)) (by decide)
                ·
                  have cc255 : x243.toInt = (0 : Int32).toInt := congrArg Int32.toInt c245
                  have hb256 : In x243 0 0 := In.eq1 hb244 (⟨by decide, by decide⟩ : In 0 0 0) cc255 (by omega) (by omega)
                  refine lv_iconst (v := 0) hx hb dX11_bytesOf_23 (by decide) ?_
                  refine lv_goto (tgt := 28) hx hb dX11_bytesOf_24 (by decide) ?_
                  refine lv_iadd hx hb dX11_bytesOf_28 ?_
                  refine lv_topi (fun x257 ex257 => ?_)
                  obtain rfl : x257 = 1 := ex257.trans (by decide)
                  refine lv_istore_n (lv' := [(1, .int 1), (2, .int 3), (0, .int z0)]) hx hb dX11_bytesOf_29 rfl hl (by decide) rfl (fun ls hl => ?_)
                  refine lv_iinc (v := 4) (lv' := [(2, .int 4), (1, .int 1), (0, .int z0)]) hx hb dX11_bytesOf_30 hl (k := 1) rfl (by decide) (by decide) rfl (fun ls hl => ?_)
                  refine lv_goto (tgt := 4) hx hb dX11_bytesOf_33 (by decide) ?_
                  refine lv_iload_n hx hb dX11_bytesOf_4 rfl (lv_at hl 0 rfl) ?_
                  refine lv_iconst (v := 4) hx hb dX11_bytesOf_5 (by decide) ?_
                  refine lv_icmp_ge (tgt := 36) hx hb dX11_bytesOf_6 (by decide) (fun c258 => ?_) (fun c258 => ?_)
                  ·
                    refine lv_iload_n hx hb dX11_bytesOf_36 rfl (lv_at hl 1 rfl) ?_
                    have hby259 : b1 z0 0 = 0 := b1_0 (by rw [show byS z0 0 = x5 by rw [ex5, ex4]; rfl]; exact c7)
                    have hby260 : b1 z0 8 = 0 := b1_0 (by rw [show byS z0 8 = x157 by rw [ex157, ex156]; rfl]; exact c159)
                    have hby261 : b1 z0 16 = 1 := b1_1 (by rw [show byS z0 16 = x233 by rw [ex233, ex232]; rfl]; exact c235)
                    have hby262 : b1 z0 24 = 0 := b1_0 (by rw [show byS z0 24 = x243 by rw [ex243, ex242]; rfl]; exact c245)
                    exact ret_i (ty := .int) hx hb hr hlocks (rfl) hP hD hS (Nat.le_of_ble_eq_true rfl) (Nat.le_of_ble_eq_true rfl) (⟨rfl, rfl, (⟨by decide, by decide⟩ : In 1 0 4), (by have e0 : (1 : Int32).toInt = 1 := (by decide); unfold nb; omega)⟩) dX11_bytesOf_37
                  ·
                    have cc263 : (4 : Int32).toInt < (4 : Int32).toInt := i32_nle c258
                    exact In.empty (lo := 4) (hi := 3) (In.lt1 (⟨by decide, by decide⟩ : In 4 4 4) (⟨by decide, by decide⟩ : In 4 4 4) cc263 (by omega) (by omega)) (by decide)
            ·
              have cc264 : x233.toInt = (0 : Int32).toInt := congrArg Int32.toInt c235
              have hb265 : In x233 0 0 := In.eq1 hb234 (⟨by decide, by decide⟩ : In 0 0 0) cc264 (by omega) (by omega)
              refine lv_iconst (v := 0) hx hb dX11_bytesOf_23 (by decide) ?_
              refine lv_goto (tgt := 28) hx hb dX11_bytesOf_24 (by decide) ?_
              refine lv_iadd hx hb dX11_bytesOf_28 ?_
              refine lv_topi (fun x266 ex266 => ?_)
              obtain rfl : x266 = 0 := ex266.trans (by decide)
              refine lv_istore_n (lv' := [(1, .int 0), (2, .int 2), (0, .int z0)]) hx hb dX11_bytesOf_29 rfl hl (by decide) rfl (fun ls hl => ?_)
              refine lv_iinc (v := 3) (lv' := [(2, .int 3), (1, .int 0), (0, .int z0)]) hx hb dX11_bytesOf_30 hl (k := 1) rfl (by decide) (by decide) rfl (fun ls hl => ?_)
              refine lv_goto (tgt := 4) hx hb dX11_bytesOf_33 (by decide) ?_
              refine lv_iload_n hx hb dX11_bytesOf_4 rfl (lv_at hl 0 rfl) ?_
              refine lv_iconst (v := 4) hx hb dX11_bytesOf_5 (by decide) ?_
              refine lv_icmp_ge (tgt := 36) hx hb dX11_bytesOf_6 (by decide) (fun c267 => ?_) (fun c267 => ?_)
              ·
                have cc268 : (4 : Int32).toInt ≤ (3 : Int32).toInt := i32_le.mp c267
                exact In.empty (lo := 4) (hi := 3) (In.ge1 (⟨by decide, by decide⟩ : In 3 3 3) (⟨by decide, by decide⟩ : In 4 4 4) cc268 (by omega) (by omega)) (by decide)
              ·
                refine lv_iload_n hx hb dX11_bytesOf_9 rfl (lv_at hl 1 rfl) ?_
                refine lv_iload_n hx hb dX11_bytesOf_10 rfl (lv_at hl 2 rfl) ?_
                refine lv_bipush (v := 8) hx hb dX11_bytesOf_11 (by decide) ?_
                refine lv_iload_n hx hb dX11_bytesOf_13 rfl (lv_at hl 0 rfl) ?_
                refine lv_imul hx hb dX11_bytesOf_14 ?_
                refine lv_topi (fun x269 ex269 => ?_)
                obtain rfl : x269 = 24 := ex269.trans (by decide)
                refine lv_ishr hx hb dX11_bytesOf_15 ?_
                refine lv_topi (fun x270 ex270 => ?_)
                refine lv_sipush (v := 255) hx hb dX11_bytesOf_16 (by decide) ?_
                refine lv_iand hx hb dX11_bytesOf_19 ?_
                refine lv_topi (fun x271 ex271 => ?_)
                have hb272 : In x271 0 255 := ex271 ▸ In.andr (⟨by decide, by decide⟩ : In 255 255 255) (by decide)
                refine lv_if_ne (tgt := 27) hx hb dX11_bytesOf_20 (by decide) (fun c273 => ?_) (fun c273 => ?_)
                ·
                  have cc274 : x271.toInt ≠ (0 : Int32).toInt := i32_ne c273
                  have hb275 : In x271 1 255 := In.ne1 hb272 (⟨by decide, by decide⟩ : In 0 0 0) cc274 (by omega) (by omega)
                  refine lv_iconst (v := 1) hx hb dX11_bytesOf_27 (by decide) ?_
                  refine lv_iadd hx hb dX11_bytesOf_28 ?_
                  refine lv_topi (fun x276 ex276 => ?_)
                  obtain rfl : x276 = 1 := ex276.trans (by decide)
                  refine lv_istore_n (lv' := [(1, .int 1), (2, .int 3), (0, .int z0)]) hx hb dX11_bytesOf_29 rfl hl (by decide) rfl (fun ls hl => ?_)
                  refine lv_iinc (v := 4) (lv' := [(2, .int 4), (1, .int 1), (0, .int z0)]) hx hb dX11_bytesOf_30 hl (k := 1) rfl (by decide) (by decide) rfl (fun ls hl => ?_)
                  refine lv_goto (tgt := 4) hx hb dX11_bytesOf_33 (by decide) ?_
                  refine lv_iload_n hx hb dX11_bytesOf_4 rfl (lv_at hl 0 rfl) ?_
                  refine lv_iconst (v := 4) hx hb dX11_bytesOf_5 (by decide) ?_
                  refine lv_icmp_ge (tgt := 36) hx hb dX11_bytesOf_6 (by decide) (fun c277 => ?_) (fun c277 => ?_)
                  ·
                    refine lv_iload_n hx hb dX11_bytesOf_36 rfl (lv_at hl 1 rfl) ?_
                    have hby278 : b1 z0 0 = 0 := b1_0 (by rw [show byS z0 0 = x5 by rw [ex5, ex4]; rfl]; exact c7)
                    have hby279 : b1 z0 8 = 0 := b1_0 (by rw [show byS z0 8 = x157 by rw [ex157, ex156]; rfl]; exact c159)
                    have hby280 : b1 z0 16 = 0 := b1_0 (by rw [show byS z0 16 = x233 by rw [ex233, ex232]; rfl]; exact c235)
                    have hby281 : b1 z0 24 = 1 := b1_1 (by rw [show byS z0 24 = x271 by rw [ex271, ex270]; rfl]; exact c273)
                    exact ret_i (ty := .int) hx hb hr hlocks (rfl) hP hD hS (Nat.le_of_ble_eq_true rfl) (Nat.le_of_ble_eq_true rfl) (⟨rfl, rfl, (⟨by decide, by decide⟩ : In 1 0 4), (by have e0 : (1 : Int32).toInt = 1 := (by decide); unfold nb; omega)⟩) dX11_bytesOf_37
                  ·
                    have cc282 : (4 : Int32).toInt < (4 : Int32).toInt := i32_nle c277
                    exact In.empty (lo := 4) (hi := 3) (In.lt1 (⟨by decide, by decide⟩ : In 4 4 4) (⟨by decide, by decide⟩ : In 4 4 4) cc282 (by omega) (by omega)) (by decide)
                ·
                  have cc283 : x271.toInt = (0 : Int32).toInt := congrArg Int32.toInt c273
                  have hb284 : In x271 0 0 := In.eq1 hb272 (⟨by decide, by decide⟩ : In 0 0 0) cc283 (by omega) (by omega)
                  refine lv_iconst (v := 0) hx hb dX11_bytesOf_23 (by decide) ?_
                  refine lv_goto (tgt := 28) hx hb dX11_bytesOf_24 (by decide) ?_
                  refine lv_iadd hx hb dX11_bytesOf_28 ?_
                  refine lv_topi (fun x285 ex285 => ?_)
                  obtain rfl : x285 = 0 := ex285.trans (by decide)
                  refine lv_istore_n (lv' := [(1, .int 0), (2, .int 3), (0, .int z0)]) hx hb dX11_bytesOf_29 rfl hl (by decide) rfl (fun ls hl => ?_)
                  refine lv_iinc (v := 4) (lv' := [(2, .int 4), (1, .int 0), (0, .int z0)]) hx hb dX11_bytesOf_30 hl (k := 1) rfl (by decide) (by decide) rfl (fun ls hl => ?_)
                  refine lv_goto (tgt := 4) hx hb dX11_bytesOf_33 (by decide) ?_
                  refine lv_iload_n hx hb dX11_bytesOf_4 rfl (lv_at hl 0 rfl) ?_
                  refine lv_iconst (v := 4) hx hb dX11_bytesOf_5 (by decide) ?_
                  refine lv_icmp_ge (tgt := 36) hx hb dX11_bytesOf_6 (by decide) (fun c286 => ?_) (fun c286 => ?_)
                  ·
                    refine lv_iload_n hx hb dX11_bytesOf_36 rfl (lv_at hl 1 rfl) ?_
                    have hby287 : b1 z0 0 = 0 := b1_0 (by rw [show byS z0 0 = x5 by rw [ex5, ex4]; rfl]; exact c7)
                    have hby288 : b1 z0 8 = 0 := b1_0 (by rw [show byS z0 8 = x157 by rw [ex157, ex156]; rfl]; exact c159)
                    have hby289 : b1 z0 16 = 0 := b1_0 (by rw [show byS z0 16 = x233 by rw [ex233, ex232]; rfl]; exact c235)
                    have hby290 : b1 z0 24 = 0 := b1_0 (by rw [show byS z0 24 = x271 by rw [ex271, ex270]; rfl]; exact c273)
                    exact ret_i (ty := .int) hx hb hr hlocks (rfl) hP hD hS (Nat.le_of_ble_eq_true rfl) (Nat.le_of_ble_eq_true rfl) (⟨rfl, rfl, (⟨by decide, by decide⟩ : In 0 0 4), (by have e0 : (0 : Int32).toInt = 0 := (by decide); unfold nb; omega)⟩) dX11_bytesOf_37
                  ·
                    have cc291 : (4 : Int32).toInt < (4 : Int32).toInt := i32_nle c286
                    exact In.empty (lo := 4) (hi := 3) (In.lt1 (⟨by decide, by decide⟩ : In 4 4 4) (⟨by decide, by decide⟩ : In 4 4 4) cc291 (by omega) (by omega)) (by decide)

abbrev rm_X11_brings : Room := { frames := 0, cells := 0, slots := 0, locals := 0 }
abbrev po_X11_brings (g : GG) (ad : Nat → Nat) (th : Nat → Int) (L : List Nat) (f : HP) (z1 : Int32) : (List Nat × HP) → Prop := fun u => u.1 = L ∧ (∃ zz : Int, (zz = th 13 + nb z1) ∧ TI g ad (gset th 13 zz) u.2) ∧ (∀ b, b ≠ (ad 255) → b ≠ (ad 256) → u.2 b = f b)
set_option maxHeartbeats 4000000 in
set_option maxRecDepth 100000 in
theorem s_X11_brings (l : Launch) (g : GG) (ad : Nat → Nat) (th : Nat → Int) (L : List Nat) (f : HP) (sz : Nat) (z1 : Int32) (hst : ST ad L) (hT : TI g ad th f) (hbr : th 13 + nb z1 ≤ 500) : MtV l g yX11_brings cX11_brings 4 rm_X11_brings [.ref (ad 255), .int z1] L f sz (po_X11_brings g ad th L f z1) := by
  refine MtV.of (by decide +kernel) (Nat.le_of_ble_eq_true rfl) ?_
  intro p e s m below meth c A hEn hP hD hS ls hl
  obtain ⟨hx, hb, hr, hml, hown, hlocks, hts, hG, hA, hE, hnm⟩ := hEn
  have hown : s.vm.findClass "RulerWordModel" = some m.cls := hown
  have hl : lv_has ls 4 [(0, .ref (ad 255)), (1, .int z1)] := hl
  have hfr : (∀ b, b ≠ (ad 255) → b ≠ (ad 256) → f b = f b) := fun b z0_ z1_ => rfl
  have hnb := nb_r z1
  refine lv_bipush (v := 24) hx hb dX11_brings_0 (by decide) ?_
  refine lv_istore_n (lv' := [(2, .int 24), (0, .ref (ad 255)), (1, .int z1)]) hx hb dX11_brings_2 rfl hl (by decide) rfl (fun ls hl => ?_)
  refine lv_iload_n hx hb dX11_brings_3 rfl (lv_at hl 0 rfl) ?_
  refine lv_if_lt (tgt := 49) hx hb dX11_brings_4 (by decide) (fun c1 => ?_) (fun c1 => ?_)
  ·
    have oc24 : (24 : Int32).toInt = 24 := by decide
    have oc0 : (0 : Int32).toInt = 0 := by decide
    have cc2 : (24 : Int32).toInt < (0 : Int32).toInt := i32_lt.mp c1
    exact In.empty (lo := 24) (hi := (-1)) (In.lt1 (⟨by decide, by decide⟩ : In 24 24 24) (⟨by decide, by decide⟩ : In 0 0 0) cc2 (by omega) (by omega)) (by decide)
  ·
    have oc24 : (24 : Int32).toInt = 24 := by decide
    have oc0 : (0 : Int32).toInt = 0 := by decide
    have cc3 : (0 : Int32).toInt ≤ (24 : Int32).toInt := i32_nlt c1
    refine lv_iload_n hx hb dX11_brings_7 rfl (lv_at hl 2 rfl) ?_
    refine lv_iload_n hx hb dX11_brings_8 rfl (lv_at hl 0 rfl) ?_
    refine lv_ishr hx hb dX11_brings_9 ?_
    refine lv_topi (fun x4 ex4 => ?_)
    refine lv_sipush (v := 255) hx hb dX11_brings_10 (by decide) ?_
    refine lv_iand hx hb dX11_brings_13 ?_
    refine lv_topi (fun x5 ex5 => ?_)
    have hb6 : In x5 0 255 := ex5 ▸ In.andr (⟨by decide, by decide⟩ : In 255 255 255) (by decide)
    refine lv_istore_n (lv' := [(3, .int x5), (2, .int 24), (0, .ref (ad 255)), (1, .int z1)]) hx hb dX11_brings_14 rfl hl (by decide) rfl (fun ls hl => ?_)
    refine lv_iload_n hx hb dX11_brings_15 rfl (lv_at hl 0 rfl) ?_
    refine lv_if_ne (tgt := 22) hx hb dX11_brings_16 (by decide) (fun c7 => ?_) (fun c7 => ?_)
    ·
      have oc0 : (0 : Int32).toInt = 0 := by decide
      have cc8 : x5.toInt ≠ (0 : Int32).toInt := i32_ne c7
      have hb9 : In x5 1 255 := In.ne1 hb6 (⟨by decide, by decide⟩ : In 0 0 0) cc8 (by omega) (by omega)
      refine lv_aload_n hx hb dX11_brings_22 rfl (lv_at hl 2 rfl) ?_
      obtain ⟨v0_10, v2_10, v3_10, v4_10, v5_10, v6_10, v8_10, v9_10, v12_10, v13_10, v14_10, v15_10, v16_10, v17_10, v18_10, v19_10, v20_10, v21_10, v22_10, v23_10, v25_10, v36_10, v37_10, v38_10, v39_10, v40_10, v45_10, v46_10, v47_10, v48_10, v50_10, v51_10, v53_10, v55_10, hf11, hv0_10, hv2_10, hg2_10, hv3_10, hg3_10, hv4_10, hg4_10, hv5_10, hg5_10, hv6_10, hg6_10, hv8_10, hv9_10, hg9_10, hv12_10, hv13_10, hg13_10, hv14_10, hg14_10, hv15_10, hg15_10, hv17_10, hg17_10, hv20_10, hg20_10, hv23_10, hg23_10, hv25_10, hv36_10, hg36_10, hv47_10, hg47_10, hv48_10, hg48_10, hv53_10, hg53_10, hv55_10, hg55_10, hrel0_10⟩ := hT.2.2 0 (by decide)
      refine pl_get (v := .ref (ad 256)) hx hb hts (fun w h => mT (inX11 w h)) hown hG.1 hP (hst.1 255 (by decide)) hf11 rfl 1 (by decide) (hts _ (mT wg_1337)) (fun _ h => h) rfl dX11_brings_23 ?_
      refine lv_aload_n hx hb dX11_brings_26 rfl (lv_at hl 2 rfl) ?_
      refine pl_get (v := .int v2_10) hx hb hts (fun w h => mT (inX11 w h)) hown hG.1 hP (hst.1 255 (by decide)) hf11 rfl 2 (by decide) (hts _ (mT wg_1338)) (fun _ h => h) rfl dX11_brings_27 ?_
      refine lv_iload_n hx hb dX11_brings_30 rfl (lv_at hl 0 rfl) ?_
      refine lv_i2b hx hb dX11_brings_31 rfl ?_
      refine lv_topi (fun x12 ex12 => ?_)
      have hby13 : b1 z1 24 = 1 := b1_1 (by rw [show byS z1 24 = x5 by rw [ex5, ex4]; rfl]; exact c7)
      obtain ⟨rw14, hf15, hc16⟩ := hT.2.2 1 (by decide)
      refine pl_bastE hx hb hG.1 hP hD hS (hst.1 256 (by decide)) 2 hf15 rfl (vp_of (by obtain ⟨o0a, o0b⟩ := (hv2_10 : In _ _ _); obtain ⟨o1a, o1b⟩ := (hv3_10 : In _ _ _); obtain ⟨o2a, o2b⟩ := (hv4_10 : In _ _ _); obtain ⟨o3a, o3b⟩ := (hv5_10 : In _ _ _); obtain ⟨o4a, o4b⟩ := (hv6_10 : In _ _ _); obtain ⟨o5a, o5b⟩ := (hv9_10 : In _ _ _); obtain ⟨o6a, o6b⟩ := (hv13_10 : In _ _ _); obtain ⟨o7a, o7b⟩ := (hv14_10 : In _ _ _); obtain ⟨o8a, o8b⟩ := (hv15_10 : In _ _ _); obtain ⟨o9a, o9b⟩ := (hv17_10 : In _ _ _); obtain ⟨o10a, o10b⟩ := (hv20_10 : In _ _ _); obtain ⟨o11a, o11b⟩ := (hv23_10 : In _ _ _); obtain ⟨o12a, o12b⟩ := (hv36_10 : In _ _ _); obtain ⟨o13a, o13b⟩ := (hv47_10 : In _ _ _); obtain ⟨o14a, o14b⟩ := (hv48_10 : In _ _ _); obtain ⟨o15a, o15b⟩ := (hv53_10 : In _ _ _); obtain ⟨o16a, o16b⟩ := (hv55_10 : In _ _ _); omega) (by obtain ⟨o0a, o0b⟩ := (hv2_10 : In _ _ _); obtain ⟨o1a, o1b⟩ := (hv3_10 : In _ _ _); obtain ⟨o2a, o2b⟩ := (hv4_10 : In _ _ _); obtain ⟨o3a, o3b⟩ := (hv5_10 : In _ _ _); obtain ⟨o4a, o4b⟩ := (hv6_10 : In _ _ _); obtain ⟨o5a, o5b⟩ := (hv9_10 : In _ _ _); obtain ⟨o6a, o6b⟩ := (hv13_10 : In _ _ _); obtain ⟨o7a, o7b⟩ := (hv14_10 : In _ _ _); obtain ⟨o8a, o8b⟩ := (hv15_10 : In _ _ _); obtain ⟨o9a, o9b⟩ := (hv17_10 : In _ _ _); obtain ⟨o10a, o10b⟩ := (hv20_10 : In _ _ _); obtain ⟨o11a, o11b⟩ := (hv23_10 : In _ _ _); obtain ⟨o12a, o12b⟩ := (hv36_10 : In _ _ _); obtain ⟨o13a, o13b⟩ := (hv47_10 : In _ _ _); obtain ⟨o14a, o14b⟩ := (hv48_10 : In _ _ _); obtain ⟨o15a, o15b⟩ := (hv53_10 : In _ _ _); obtain ⟨o16a, o16b⟩ := (hv55_10 : In _ _ _); omega)) dX11_brings_32 (fun H locs f17 r20 er20 hf18 ho19 hP hD hS => ?_)
      have hc21 : ∀ i : Nat, i < 500 → In (r20 i) (-128) 127 := cont_upd er20 hc16 (nar_byte _)
      have hf22 := (ho19 (ad 255) (hst.ne (by decide) (by decide) (by decide))).trans hf11
      have hfr : (∀ b, b ≠ (ad 255) → b ≠ (ad 256) → f17 b = f b) := fun b z0_ z1_ => (ho19 b z1_).trans (hfr b z0_ z1_)
      refine lv_aload_n hx hb dX11_brings_33 rfl (lv_at hl 2 rfl) ?_
      refine lv_dup hx hb dX11_brings_34 rfl ?_
      refine pl_get (v := .int v2_10) hx hb hts (fun w h => mT (inX11 w h)) hown hG.1 hP (hst.1 255 (by decide)) hf22 rfl 2 (by decide) (hts _ (mT wg_1338)) (fun _ h => h) rfl dX11_brings_35 ?_
      refine lv_iconst (v := 1) hx hb dX11_brings_38 (by decide) ?_
      refine lv_iadd hx hb dX11_brings_39 ?_
      refine lv_topi (fun x23 ex23 => ?_)
      have hb24 : In x23 1 501 := ex23 ▸ In.add hv2_10 (⟨by decide, by decide⟩ : In 1 1 1) (by decide) (by decide) (by decide) (by decide)
      have et25 : x23.toInt = v2_10.toInt + 1 := In.adde ex23 hv2_10 (k := 1) (by decide) (by decide) (by decide)
      have hT := TI.updM hT hst (k := 1) (by decide) hf18 ho19 ⟨r20, rfl, hc21⟩
      refine pl_put (ty := .int) (v := .int x23) (fs' := [.int v0_10, .ref (ad 256), .int x23, .int v3_10, .int v4_10, .int v5_10, .int v6_10, .ref (ad 257), .int v8_10, .int v9_10, .ref (ad 258), .ref (ad 259), .int v12_10, .int v13_10, .int v14_10, .int v15_10, .int v16_10, .int v17_10, .int v18_10, .int v19_10, .int v20_10, .long v21_10, .long v22_10, .int v23_10, .ref (ad 260), .int v25_10, .ref (ad 261), .ref (ad 262), .ref (ad 263), .ref (ad 264), .ref (ad 265), .ref (ad 266), .ref (ad 267), .ref (ad 268), .ref (ad 269), .ref (ad 270), .int v36_10, .int v37_10, .int v38_10, .int v39_10, .int v40_10, .ref (ad 271), .ref (ad 272), .ref (ad 273), .ref (ad 274), .long v45_10, .long v46_10, .int v47_10, .int v48_10, .ref (ad 275), .int v50_10, .int v51_10, .ref (ad 276), .int v53_10, .ref (ad 277), .int v55_10]) hx hb hts (fun w h => mT (inX11 w h)) tyX11 tyX11_ok nmX11 hown hG.1 hP hD hS (hst.1 255 (by decide)) hf22 rfl 2 (by decide) (hts _ (mT wg_1338)) (fun _ h => h) rfl (by decide +kernel) (rfl) (rfl) (Nat.le_of_ble_eq_true rfl) rfl dX11_brings_40 (fun H locs f26 hf27 ho28 hP hD hS => ?_)
      have hf29 := (ho28 (ad 256) (hst.ne (by decide) (by decide) (by decide))).trans hf18
      have hfr : (∀ b, b ≠ (ad 255) → b ≠ (ad 256) → f26 b = f b) := fun b z0_ z1_ => (ho28 b z0_).trans (hfr b z0_ z1_)
      refine lv_iinc (v := 16) (lv' := [(2, .int 16), (3, .int x5), (0, .ref (ad 255)), (1, .int z1)]) hx hb dX11_brings_43 hl (k := 1) rfl (by decide) (by decide) rfl (fun ls hl => ?_)
      have hT := TI.updMG (th' := (gset th 13 (x23.toInt))) hT hst (k := 0) (by decide) hf27 ho28 ⟨v0_10, x23, v3_10, v4_10, v5_10, v6_10, v8_10, v9_10, v12_10, v13_10, v14_10, v15_10, v16_10, v17_10, v18_10, v19_10, v20_10, v21_10, v22_10, v23_10, v25_10, v36_10, v37_10, v38_10, v39_10, v40_10, v45_10, v46_10, v47_10, v48_10, v50_10, v51_10, v53_10, v55_10, rfl, hv0_10, (In.mk (by obtain ⟨o0a, o0b⟩ := (hb24 : In _ _ _); obtain ⟨o1a, o1b⟩ := (hv3_10 : In _ _ _); obtain ⟨o2a, o2b⟩ := (hv4_10 : In _ _ _); obtain ⟨o3a, o3b⟩ := (hv5_10 : In _ _ _); obtain ⟨o4a, o4b⟩ := (hv6_10 : In _ _ _); obtain ⟨o5a, o5b⟩ := (hv9_10 : In _ _ _); obtain ⟨o6a, o6b⟩ := (hv13_10 : In _ _ _); obtain ⟨o7a, o7b⟩ := (hv14_10 : In _ _ _); obtain ⟨o8a, o8b⟩ := (hv15_10 : In _ _ _); obtain ⟨o9a, o9b⟩ := (hv17_10 : In _ _ _); obtain ⟨o10a, o10b⟩ := (hv20_10 : In _ _ _); obtain ⟨o11a, o11b⟩ := (hv23_10 : In _ _ _); obtain ⟨o12a, o12b⟩ := (hv36_10 : In _ _ _); obtain ⟨o13a, o13b⟩ := (hv47_10 : In _ _ _); obtain ⟨o14a, o14b⟩ := (hv48_10 : In _ _ _); obtain ⟨o15a, o15b⟩ := (hv53_10 : In _ _ _); obtain ⟨o16a, o16b⟩ := (hv55_10 : In _ _ _); obtain ⟨o17a, o17b⟩ := (hv2_10 : In _ _ _); omega) (by obtain ⟨o0a, o0b⟩ := (hb24 : In _ _ _); obtain ⟨o1a, o1b⟩ := (hv3_10 : In _ _ _); obtain ⟨o2a, o2b⟩ := (hv4_10 : In _ _ _); obtain ⟨o3a, o3b⟩ := (hv5_10 : In _ _ _); obtain ⟨o4a, o4b⟩ := (hv6_10 : In _ _ _); obtain ⟨o5a, o5b⟩ := (hv9_10 : In _ _ _); obtain ⟨o6a, o6b⟩ := (hv13_10 : In _ _ _); obtain ⟨o7a, o7b⟩ := (hv14_10 : In _ _ _); obtain ⟨o8a, o8b⟩ := (hv15_10 : In _ _ _); obtain ⟨o9a, o9b⟩ := (hv17_10 : In _ _ _); obtain ⟨o10a, o10b⟩ := (hv20_10 : In _ _ _); obtain ⟨o11a, o11b⟩ := (hv23_10 : In _ _ _); obtain ⟨o12a, o12b⟩ := (hv36_10 : In _ _ _); obtain ⟨o13a, o13b⟩ := (hv47_10 : In _ _ _); obtain ⟨o14a, o14b⟩ := (hv48_10 : In _ _ _); obtain ⟨o15a, o15b⟩ := (hv53_10 : In _ _ _); obtain ⟨o16a, o16b⟩ := (hv55_10 : In _ _ _); obtain ⟨o17a, o17b⟩ := (hv2_10 : In _ _ _); omega)), (by simp [gset]), hv3_10, (by rw [hg3_10]; simp [gset]), hv4_10, (by rw [hg4_10]; simp [gset]), hv5_10, (by rw [hg5_10]; simp [gset]), hv6_10, (by rw [hg6_10]; simp [gset]), hv8_10, hv9_10, (by rw [hg9_10]; simp [gset]), hv12_10, hv13_10, (by rw [hg13_10]; simp [gset]), hv14_10, (by rw [hg14_10]; simp [gset]), hv15_10, (by rw [hg15_10]; simp [gset]), hv17_10, (by rw [hg17_10]; simp [gset]), hv20_10, (by rw [hg20_10]; simp [gset]), hv23_10, (by rw [hg23_10]; simp [gset]), hv25_10, hv36_10, (by rw [hg36_10]; simp [gset]), hv47_10, (by rw [hg47_10]; simp [gset]), hv48_10, (by rw [hg48_10]; simp [gset]), hv53_10, (by rw [hg53_10]; simp [gset]), hv55_10, (by rw [hg55_10]; simp [gset]), hrel0_10⟩ (fun q hq => ((gset_ne (fun e => hq (by subst e; decide))).trans rfl))
      have hT : TI g ad (gset th 13 x23.toInt) f26 := TI.cast hT (by funext q; simp only [gset]; (repeat' split); all_goals first | rfl | omega | (subst_vars; rfl) | (exfalso; omega))
      refine lv_goto (tgt := 3) hx hb dX11_brings_46 (by decide) ?_
      refine lv_iload_n hx hb dX11_brings_3 rfl (lv_at hl 0 rfl) ?_
      refine lv_if_lt (tgt := 49) hx hb dX11_brings_4 (by decide) (fun c30 => ?_) (fun c30 => ?_)
      ·
        have oc16 : (16 : Int32).toInt = 16 := by decide
        have oc0 : (0 : Int32).toInt = 0 := by decide
        have cc31 : (16 : Int32).toInt < (0 : Int32).toInt := i32_lt.mp c30
        exact In.empty (lo := 16) (hi := (-1)) (In.lt1 (⟨by decide, by decide⟩ : In 16 16 16) (⟨by decide, by decide⟩ : In 0 0 0) cc31 (by omega) (by omega)) (by decide)
      ·
        have oc16 : (16 : Int32).toInt = 16 := by decide
        have oc0 : (0 : Int32).toInt = 0 := by decide
        have cc32 : (0 : Int32).toInt ≤ (16 : Int32).toInt := i32_nlt c30
        refine lv_iload_n hx hb dX11_brings_7 rfl (lv_at hl 3 rfl) ?_
        refine lv_iload_n hx hb dX11_brings_8 rfl (lv_at hl 0 rfl) ?_
        refine lv_ishr hx hb dX11_brings_9 ?_
        refine lv_topi (fun x33 ex33 => ?_)
        refine lv_sipush (v := 255) hx hb dX11_brings_10 (by decide) ?_
        refine lv_iand hx hb dX11_brings_13 ?_
        refine lv_topi (fun x34 ex34 => ?_)
        have hb35 : In x34 0 255 := ex34 ▸ In.andr (⟨by decide, by decide⟩ : In 255 255 255) (by decide)
        refine lv_istore_n (lv' := [(3, .int x34), (2, .int 16), (0, .ref (ad 255)), (1, .int z1)]) hx hb dX11_brings_14 rfl hl (by decide) rfl (fun ls hl => ?_)
        refine lv_iload_n hx hb dX11_brings_15 rfl (lv_at hl 0 rfl) ?_
        refine lv_if_ne (tgt := 22) hx hb dX11_brings_16 (by decide) (fun c36 => ?_) (fun c36 => ?_)
        ·
          have oc0 : (0 : Int32).toInt = 0 := by decide
          have cc37 : x34.toInt ≠ (0 : Int32).toInt := i32_ne c36
          have hb38 : In x34 1 255 := In.ne1 hb35 (⟨by decide, by decide⟩ : In 0 0 0) cc37 (by omega) (by omega)
          refine lv_aload_n hx hb dX11_brings_22 rfl (lv_at hl 2 rfl) ?_
          obtain ⟨v0_39, v2_39, v3_39, v4_39, v5_39, v6_39, v8_39, v9_39, v12_39, v13_39, v14_39, v15_39, v16_39, v17_39, v18_39, v19_39, v20_39, v21_39, v22_39, v23_39, v25_39, v36_39, v37_39, v38_39, v39_39, v40_39, v45_39, v46_39, v47_39, v48_39, v50_39, v51_39, v53_39, v55_39, hf40, hv0_39, hv2_39, hg2_39, hv3_39, hg3_39, hv4_39, hg4_39, hv5_39, hg5_39, hv6_39, hg6_39, hv8_39, hv9_39, hg9_39, hv12_39, hv13_39, hg13_39, hv14_39, hg14_39, hv15_39, hg15_39, hv17_39, hg17_39, hv20_39, hg20_39, hv23_39, hg23_39, hv25_39, hv36_39, hg36_39, hv47_39, hg47_39, hv48_39, hg48_39, hv53_39, hg53_39, hv55_39, hg55_39, hrel0_39⟩ := hT.2.2 0 (by decide)
          have hg2_39 : v2_39.toInt = x23.toInt := hg2_39
          have hg3_39 : v3_39.toInt = th 37 := hg3_39
          have hg4_39 : v4_39.toInt = th 42 := hg4_39
          have hg5_39 : v5_39.toInt = th 40 := hg5_39
          have hg6_39 : v6_39.toInt = th 41 := hg6_39
          have hg9_39 : v9_39.toInt = th 35 := hg9_39
          have hg13_39 : v13_39.toInt = th 36 := hg13_39
          have hg14_39 : v14_39.toInt = th 10 := hg14_39
          have hg15_39 : v15_39.toInt = th 11 := hg15_39
          have hg17_39 : v17_39.toInt = th 12 := hg17_39
          have hg20_39 : v20_39.toInt = th 14 := hg20_39
          have hg23_39 : v23_39.toInt = th 15 := hg23_39
          have hg36_39 : v36_39.toInt = th 18 := hg36_39
          have hg47_39 : v47_39.toInt = th 16 := hg47_39
          have hg48_39 : v48_39.toInt = th 17 := hg48_39
          have hg53_39 : v53_39.toInt = th 38 := hg53_39
          have hg55_39 : v55_39.toInt = th 39 := hg55_39
          refine pl_get (v := .ref (ad 256)) hx hb hts (fun w h => mT (inX11 w h)) hown hG.1 hP (hst.1 255 (by decide)) hf40 rfl 1 (by decide) (hts _ (mT wg_1337)) (fun _ h => h) rfl dX11_brings_23 ?_
          refine lv_aload_n hx hb dX11_brings_26 rfl (lv_at hl 2 rfl) ?_
          refine pl_get (v := .int v2_39) hx hb hts (fun w h => mT (inX11 w h)) hown hG.1 hP (hst.1 255 (by decide)) hf40 rfl 2 (by decide) (hts _ (mT wg_1338)) (fun _ h => h) rfl dX11_brings_27 ?_
          refine lv_iload_n hx hb dX11_brings_30 rfl (lv_at hl 0 rfl) ?_
          refine lv_i2b hx hb dX11_brings_31 rfl ?_
          refine lv_topi (fun x41 ex41 => ?_)
          have hby42 : b1 z1 24 = 1 := b1_1 (by rw [show byS z1 24 = x5 by rw [ex5, ex4]; rfl]; exact c7)
          have hby43 : b1 z1 16 = 1 := b1_1 (by rw [show byS z1 16 = x34 by rw [ex34, ex33]; rfl]; exact c36)
          refine pl_bastE hx hb hG.1 hP hD hS (hst.1 256 (by decide)) 2 hf29 rfl (vp_of (by obtain ⟨o0a, o0b⟩ := (hv2_39 : In _ _ _); obtain ⟨o1a, o1b⟩ := (hv3_39 : In _ _ _); obtain ⟨o2a, o2b⟩ := (hv4_39 : In _ _ _); obtain ⟨o3a, o3b⟩ := (hv5_39 : In _ _ _); obtain ⟨o4a, o4b⟩ := (hv6_39 : In _ _ _); obtain ⟨o5a, o5b⟩ := (hv9_39 : In _ _ _); obtain ⟨o6a, o6b⟩ := (hv13_39 : In _ _ _); obtain ⟨o7a, o7b⟩ := (hv14_39 : In _ _ _); obtain ⟨o8a, o8b⟩ := (hv15_39 : In _ _ _); obtain ⟨o9a, o9b⟩ := (hv17_39 : In _ _ _); obtain ⟨o10a, o10b⟩ := (hv20_39 : In _ _ _); obtain ⟨o11a, o11b⟩ := (hv23_39 : In _ _ _); obtain ⟨o12a, o12b⟩ := (hv36_39 : In _ _ _); obtain ⟨o13a, o13b⟩ := (hv47_39 : In _ _ _); obtain ⟨o14a, o14b⟩ := (hv48_39 : In _ _ _); obtain ⟨o15a, o15b⟩ := (hv53_39 : In _ _ _); obtain ⟨o16a, o16b⟩ := (hv55_39 : In _ _ _); omega) (by obtain ⟨o0a, o0b⟩ := (hv2_39 : In _ _ _); obtain ⟨o1a, o1b⟩ := (hv3_39 : In _ _ _); obtain ⟨o2a, o2b⟩ := (hv4_39 : In _ _ _); obtain ⟨o3a, o3b⟩ := (hv5_39 : In _ _ _); obtain ⟨o4a, o4b⟩ := (hv6_39 : In _ _ _); obtain ⟨o5a, o5b⟩ := (hv9_39 : In _ _ _); obtain ⟨o6a, o6b⟩ := (hv13_39 : In _ _ _); obtain ⟨o7a, o7b⟩ := (hv14_39 : In _ _ _); obtain ⟨o8a, o8b⟩ := (hv15_39 : In _ _ _); obtain ⟨o9a, o9b⟩ := (hv17_39 : In _ _ _); obtain ⟨o10a, o10b⟩ := (hv20_39 : In _ _ _); obtain ⟨o11a, o11b⟩ := (hv23_39 : In _ _ _); obtain ⟨o12a, o12b⟩ := (hv36_39 : In _ _ _); obtain ⟨o13a, o13b⟩ := (hv47_39 : In _ _ _); obtain ⟨o14a, o14b⟩ := (hv48_39 : In _ _ _); obtain ⟨o15a, o15b⟩ := (hv53_39 : In _ _ _); obtain ⟨o16a, o16b⟩ := (hv55_39 : In _ _ _); omega)) dX11_brings_32 (fun H locs f44 r47 er47 hf45 ho46 hP hD hS => ?_)
          have hc48 : ∀ i : Nat, i < 500 → In (r47 i) (-128) 127 := cont_upd er47 hc21 (nar_byte _)
          have hf49 := (ho46 (ad 255) (hst.ne (by decide) (by decide) (by decide))).trans hf40
          have hfr : (∀ b, b ≠ (ad 255) → b ≠ (ad 256) → f44 b = f b) := fun b z0_ z1_ => (ho46 b z1_).trans (hfr b z0_ z1_)
          refine lv_aload_n hx hb dX11_brings_33 rfl (lv_at hl 2 rfl) ?_
          refine lv_dup hx hb dX11_brings_34 rfl ?_
          refine pl_get (v := .int v2_39) hx hb hts (fun w h => mT (inX11 w h)) hown hG.1 hP (hst.1 255 (by decide)) hf49 rfl 2 (by decide) (hts _ (mT wg_1338)) (fun _ h => h) rfl dX11_brings_35 ?_
          refine lv_iconst (v := 1) hx hb dX11_brings_38 (by decide) ?_
          refine lv_iadd hx hb dX11_brings_39 ?_
          refine lv_topi (fun x50 ex50 => ?_)
          have hb51 : In x50 1 501 := ex50 ▸ In.add hv2_39 (⟨by decide, by decide⟩ : In 1 1 1) (by decide) (by decide) (by decide) (by decide)
          have et52 : x50.toInt = v2_39.toInt + 1 := In.adde ex50 hv2_39 (k := 1) (by decide) (by decide) (by decide)
          have hT := TI.updM hT hst (k := 1) (by decide) hf45 ho46 ⟨r47, rfl, hc48⟩
          refine pl_put (ty := .int) (v := .int x50) (fs' := [.int v0_39, .ref (ad 256), .int x50, .int v3_39, .int v4_39, .int v5_39, .int v6_39, .ref (ad 257), .int v8_39, .int v9_39, .ref (ad 258), .ref (ad 259), .int v12_39, .int v13_39, .int v14_39, .int v15_39, .int v16_39, .int v17_39, .int v18_39, .int v19_39, .int v20_39, .long v21_39, .long v22_39, .int v23_39, .ref (ad 260), .int v25_39, .ref (ad 261), .ref (ad 262), .ref (ad 263), .ref (ad 264), .ref (ad 265), .ref (ad 266), .ref (ad 267), .ref (ad 268), .ref (ad 269), .ref (ad 270), .int v36_39, .int v37_39, .int v38_39, .int v39_39, .int v40_39, .ref (ad 271), .ref (ad 272), .ref (ad 273), .ref (ad 274), .long v45_39, .long v46_39, .int v47_39, .int v48_39, .ref (ad 275), .int v50_39, .int v51_39, .ref (ad 276), .int v53_39, .ref (ad 277), .int v55_39]) hx hb hts (fun w h => mT (inX11 w h)) tyX11 tyX11_ok nmX11 hown hG.1 hP hD hS (hst.1 255 (by decide)) hf49 rfl 2 (by decide) (hts _ (mT wg_1338)) (fun _ h => h) rfl (by decide +kernel) (rfl) (rfl) (Nat.le_of_ble_eq_true rfl) rfl dX11_brings_40 (fun H locs f53 hf54 ho55 hP hD hS => ?_)
          have hf56 := (ho55 (ad 256) (hst.ne (by decide) (by decide) (by decide))).trans hf45
          have hfr : (∀ b, b ≠ (ad 255) → b ≠ (ad 256) → f53 b = f b) := fun b z0_ z1_ => (ho55 b z0_).trans (hfr b z0_ z1_)
          refine lv_iinc (v := 8) (lv' := [(2, .int 8), (3, .int x34), (0, .ref (ad 255)), (1, .int z1)]) hx hb dX11_brings_43 hl (k := 1) rfl (by decide) (by decide) rfl (fun ls hl => ?_)
          have hT := TI.updMG (th' := (gset (gset th 13 x23.toInt) 13 (x50.toInt))) hT hst (k := 0) (by decide) hf54 ho55 ⟨v0_39, x50, v3_39, v4_39, v5_39, v6_39, v8_39, v9_39, v12_39, v13_39, v14_39, v15_39, v16_39, v17_39, v18_39, v19_39, v20_39, v21_39, v22_39, v23_39, v25_39, v36_39, v37_39, v38_39, v39_39, v40_39, v45_39, v46_39, v47_39, v48_39, v50_39, v51_39, v53_39, v55_39, rfl, hv0_39, (In.mk (by obtain ⟨o0a, o0b⟩ := (hb51 : In _ _ _); obtain ⟨o1a, o1b⟩ := (hv3_39 : In _ _ _); obtain ⟨o2a, o2b⟩ := (hv4_39 : In _ _ _); obtain ⟨o3a, o3b⟩ := (hv5_39 : In _ _ _); obtain ⟨o4a, o4b⟩ := (hv6_39 : In _ _ _); obtain ⟨o5a, o5b⟩ := (hv9_39 : In _ _ _); obtain ⟨o6a, o6b⟩ := (hv13_39 : In _ _ _); obtain ⟨o7a, o7b⟩ := (hv14_39 : In _ _ _); obtain ⟨o8a, o8b⟩ := (hv15_39 : In _ _ _); obtain ⟨o9a, o9b⟩ := (hv17_39 : In _ _ _); obtain ⟨o10a, o10b⟩ := (hv20_39 : In _ _ _); obtain ⟨o11a, o11b⟩ := (hv23_39 : In _ _ _); obtain ⟨o12a, o12b⟩ := (hv36_39 : In _ _ _); obtain ⟨o13a, o13b⟩ := (hv47_39 : In _ _ _); obtain ⟨o14a, o14b⟩ := (hv48_39 : In _ _ _); obtain ⟨o15a, o15b⟩ := (hv53_39 : In _ _ _); obtain ⟨o16a, o16b⟩ := (hv55_39 : In _ _ _); obtain ⟨o17a, o17b⟩ := (hv2_39 : In _ _ _); omega) (by obtain ⟨o0a, o0b⟩ := (hb51 : In _ _ _); obtain ⟨o1a, o1b⟩ := (hv3_39 : In _ _ _); obtain ⟨o2a, o2b⟩ := (hv4_39 : In _ _ _); obtain ⟨o3a, o3b⟩ := (hv5_39 : In _ _ _); obtain ⟨o4a, o4b⟩ := (hv6_39 : In _ _ _); obtain ⟨o5a, o5b⟩ := (hv9_39 : In _ _ _); obtain ⟨o6a, o6b⟩ := (hv13_39 : In _ _ _); obtain ⟨o7a, o7b⟩ := (hv14_39 : In _ _ _); obtain ⟨o8a, o8b⟩ := (hv15_39 : In _ _ _); obtain ⟨o9a, o9b⟩ := (hv17_39 : In _ _ _); obtain ⟨o10a, o10b⟩ := (hv20_39 : In _ _ _); obtain ⟨o11a, o11b⟩ := (hv23_39 : In _ _ _); obtain ⟨o12a, o12b⟩ := (hv36_39 : In _ _ _); obtain ⟨o13a, o13b⟩ := (hv47_39 : In _ _ _); obtain ⟨o14a, o14b⟩ := (hv48_39 : In _ _ _); obtain ⟨o15a, o15b⟩ := (hv53_39 : In _ _ _); obtain ⟨o16a, o16b⟩ := (hv55_39 : In _ _ _); obtain ⟨o17a, o17b⟩ := (hv2_39 : In _ _ _); omega)), (by simp [gset]), hv3_39, (by rw [hg3_39]; simp [gset]), hv4_39, (by rw [hg4_39]; simp [gset]), hv5_39, (by rw [hg5_39]; simp [gset]), hv6_39, (by rw [hg6_39]; simp [gset]), hv8_39, hv9_39, (by rw [hg9_39]; simp [gset]), hv12_39, hv13_39, (by rw [hg13_39]; simp [gset]), hv14_39, (by rw [hg14_39]; simp [gset]), hv15_39, (by rw [hg15_39]; simp [gset]), hv17_39, (by rw [hg17_39]; simp [gset]), hv20_39, (by rw [hg20_39]; simp [gset]), hv23_39, (by rw [hg23_39]; simp [gset]), hv25_39, hv36_39, (by rw [hg36_39]; simp [gset]), hv47_39, (by rw [hg47_39]; simp [gset]), hv48_39, (by rw [hg48_39]; simp [gset]), hv53_39, (by rw [hg53_39]; simp [gset]), hv55_39, (by rw [hg55_39]; simp [gset]), hrel0_39⟩ (fun q hq => ((gset_ne (fun e => hq (by subst e; decide))).trans rfl))
          have hT : TI g ad (gset th 13 x50.toInt) f53 := TI.cast hT (by funext q; simp only [gset]; (repeat' split); all_goals first | rfl | omega | (subst_vars; rfl) | (exfalso; omega))
          refine lv_goto (tgt := 3) hx hb dX11_brings_46 (by decide) ?_
          refine lv_iload_n hx hb dX11_brings_3 rfl (lv_at hl 0 rfl) ?_
          refine lv_if_lt (tgt := 49) hx hb dX11_brings_4 (by decide) (fun c57 => ?_) (fun c57 => ?_)
          ·
            have oc8 : (8 : Int32).toInt = 8 := by decide
            have oc0 : (0 : Int32).toInt = 0 := by decide
            have cc58 : (8 : Int32).toInt < (0 : Int32).toInt := i32_lt.mp c57
            exact In.empty (lo := 8) (hi := (-1)) (In.lt1 (⟨by decide, by decide⟩ : In 8 8 8) (⟨by decide, by decide⟩ : In 0 0 0) cc58 (by omega) (by omega)) (by decide)
          ·
            have oc8 : (8 : Int32).toInt = 8 := by decide
            have oc0 : (0 : Int32).toInt = 0 := by decide
            have cc59 : (0 : Int32).toInt ≤ (8 : Int32).toInt := i32_nlt c57
            refine lv_iload_n hx hb dX11_brings_7 rfl (lv_at hl 3 rfl) ?_
            refine lv_iload_n hx hb dX11_brings_8 rfl (lv_at hl 0 rfl) ?_
            refine lv_ishr hx hb dX11_brings_9 ?_
            refine lv_topi (fun x60 ex60 => ?_)
            refine lv_sipush (v := 255) hx hb dX11_brings_10 (by decide) ?_
            refine lv_iand hx hb dX11_brings_13 ?_
            refine lv_topi (fun x61 ex61 => ?_)
            have hb62 : In x61 0 255 := ex61 ▸ In.andr (⟨by decide, by decide⟩ : In 255 255 255) (by decide)
            refine lv_istore_n (lv' := [(3, .int x61), (2, .int 8), (0, .ref (ad 255)), (1, .int z1)]) hx hb dX11_brings_14 rfl hl (by decide) rfl (fun ls hl => ?_)
            refine lv_iload_n hx hb dX11_brings_15 rfl (lv_at hl 0 rfl) ?_
            refine lv_if_ne (tgt := 22) hx hb dX11_brings_16 (by decide) (fun c63 => ?_) (fun c63 => ?_)
            ·
              have oc0 : (0 : Int32).toInt = 0 := by decide
              have cc64 : x61.toInt ≠ (0 : Int32).toInt := i32_ne c63
              have hb65 : In x61 1 255 := In.ne1 hb62 (⟨by decide, by decide⟩ : In 0 0 0) cc64 (by omega) (by omega)
              refine lv_aload_n hx hb dX11_brings_22 rfl (lv_at hl 2 rfl) ?_
              obtain ⟨v0_66, v2_66, v3_66, v4_66, v5_66, v6_66, v8_66, v9_66, v12_66, v13_66, v14_66, v15_66, v16_66, v17_66, v18_66, v19_66, v20_66, v21_66, v22_66, v23_66, v25_66, v36_66, v37_66, v38_66, v39_66, v40_66, v45_66, v46_66, v47_66, v48_66, v50_66, v51_66, v53_66, v55_66, hf67, hv0_66, hv2_66, hg2_66, hv3_66, hg3_66, hv4_66, hg4_66, hv5_66, hg5_66, hv6_66, hg6_66, hv8_66, hv9_66, hg9_66, hv12_66, hv13_66, hg13_66, hv14_66, hg14_66, hv15_66, hg15_66, hv17_66, hg17_66, hv20_66, hg20_66, hv23_66, hg23_66, hv25_66, hv36_66, hg36_66, hv47_66, hg47_66, hv48_66, hg48_66, hv53_66, hg53_66, hv55_66, hg55_66, hrel0_66⟩ := hT.2.2 0 (by decide)
              have hg2_66 : v2_66.toInt = x50.toInt := hg2_66
              have hg3_66 : v3_66.toInt = th 37 := hg3_66
              have hg4_66 : v4_66.toInt = th 42 := hg4_66
              have hg5_66 : v5_66.toInt = th 40 := hg5_66
              have hg6_66 : v6_66.toInt = th 41 := hg6_66
              have hg9_66 : v9_66.toInt = th 35 := hg9_66
              have hg13_66 : v13_66.toInt = th 36 := hg13_66
              have hg14_66 : v14_66.toInt = th 10 := hg14_66
              have hg15_66 : v15_66.toInt = th 11 := hg15_66
              have hg17_66 : v17_66.toInt = th 12 := hg17_66
              have hg20_66 : v20_66.toInt = th 14 := hg20_66
              have hg23_66 : v23_66.toInt = th 15 := hg23_66
              have hg36_66 : v36_66.toInt = th 18 := hg36_66
              have hg47_66 : v47_66.toInt = th 16 := hg47_66
              have hg48_66 : v48_66.toInt = th 17 := hg48_66
              have hg53_66 : v53_66.toInt = th 38 := hg53_66
              have hg55_66 : v55_66.toInt = th 39 := hg55_66
              refine pl_get (v := .ref (ad 256)) hx hb hts (fun w h => mT (inX11 w h)) hown hG.1 hP (hst.1 255 (by decide)) hf67 rfl 1 (by decide) (hts _ (mT wg_1337)) (fun _ h => h) rfl dX11_brings_23 ?_
              refine lv_aload_n hx hb dX11_brings_26 rfl (lv_at hl 2 rfl) ?_
              refine pl_get (v := .int v2_66) hx hb hts (fun w h => mT (inX11 w h)) hown hG.1 hP (hst.1 255 (by decide)) hf67 rfl 2 (by decide) (hts _ (mT wg_1338)) (fun _ h => h) rfl dX11_brings_27 ?_
              refine lv_iload_n hx hb dX11_brings_30 rfl (lv_at hl 0 rfl) ?_
              refine lv_i2b hx hb dX11_brings_31 rfl ?_
              refine lv_topi (fun x68 ex68 => ?_)
              have hby69 : b1 z1 24 = 1 := b1_1 (by rw [show byS z1 24 = x5 by rw [ex5, ex4]; rfl]; exact c7)
              have hby70 : b1 z1 16 = 1 := b1_1 (by rw [show byS z1 16 = x34 by rw [ex34, ex33]; rfl]; exact c36)
              have hby71 : b1 z1 8 = 1 := b1_1 (by rw [show byS z1 8 = x61 by rw [ex61, ex60]; rfl]; exact c63)
              refine pl_bastE hx hb hG.1 hP hD hS (hst.1 256 (by decide)) 2 hf56 rfl (vp_of (by obtain ⟨o0a, o0b⟩ := (hv2_66 : In _ _ _); obtain ⟨o1a, o1b⟩ := (hv3_66 : In _ _ _); obtain ⟨o2a, o2b⟩ := (hv4_66 : In _ _ _); obtain ⟨o3a, o3b⟩ := (hv5_66 : In _ _ _); obtain ⟨o4a, o4b⟩ := (hv6_66 : In _ _ _); obtain ⟨o5a, o5b⟩ := (hv9_66 : In _ _ _); obtain ⟨o6a, o6b⟩ := (hv13_66 : In _ _ _); obtain ⟨o7a, o7b⟩ := (hv14_66 : In _ _ _); obtain ⟨o8a, o8b⟩ := (hv15_66 : In _ _ _); obtain ⟨o9a, o9b⟩ := (hv17_66 : In _ _ _); obtain ⟨o10a, o10b⟩ := (hv20_66 : In _ _ _); obtain ⟨o11a, o11b⟩ := (hv23_66 : In _ _ _); obtain ⟨o12a, o12b⟩ := (hv36_66 : In _ _ _); obtain ⟨o13a, o13b⟩ := (hv47_66 : In _ _ _); obtain ⟨o14a, o14b⟩ := (hv48_66 : In _ _ _); obtain ⟨o15a, o15b⟩ := (hv53_66 : In _ _ _); obtain ⟨o16a, o16b⟩ := (hv55_66 : In _ _ _); omega) (by obtain ⟨o0a, o0b⟩ := (hv2_66 : In _ _ _); obtain ⟨o1a, o1b⟩ := (hv3_66 : In _ _ _); obtain ⟨o2a, o2b⟩ := (hv4_66 : In _ _ _); obtain ⟨o3a, o3b⟩ := (hv5_66 : In _ _ _); obtain ⟨o4a, o4b⟩ := (hv6_66 : In _ _ _); obtain ⟨o5a, o5b⟩ := (hv9_66 : In _ _ _); obtain ⟨o6a, o6b⟩ := (hv13_66 : In _ _ _); obtain ⟨o7a, o7b⟩ := (hv14_66 : In _ _ _); obtain ⟨o8a, o8b⟩ := (hv15_66 : In _ _ _); obtain ⟨o9a, o9b⟩ := (hv17_66 : In _ _ _); obtain ⟨o10a, o10b⟩ := (hv20_66 : In _ _ _); obtain ⟨o11a, o11b⟩ := (hv23_66 : In _ _ _); obtain ⟨o12a, o12b⟩ := (hv36_66 : In _ _ _); obtain ⟨o13a, o13b⟩ := (hv47_66 : In _ _ _); obtain ⟨o14a, o14b⟩ := (hv48_66 : In _ _ _); obtain ⟨o15a, o15b⟩ := (hv53_66 : In _ _ _); obtain ⟨o16a, o16b⟩ := (hv55_66 : In _ _ _); omega)) dX11_brings_32 (fun H locs f72 r75 er75 hf73 ho74 hP hD hS => ?_)
              have hc76 : ∀ i : Nat, i < 500 → In (r75 i) (-128) 127 := cont_upd er75 hc48 (nar_byte _)
              have hf77 := (ho74 (ad 255) (hst.ne (by decide) (by decide) (by decide))).trans hf67
              have hfr : (∀ b, b ≠ (ad 255) → b ≠ (ad 256) → f72 b = f b) := fun b z0_ z1_ => (ho74 b z1_).trans (hfr b z0_ z1_)
              refine lv_aload_n hx hb dX11_brings_33 rfl (lv_at hl 2 rfl) ?_
              refine lv_dup hx hb dX11_brings_34 rfl ?_
              refine pl_get (v := .int v2_66) hx hb hts (fun w h => mT (inX11 w h)) hown hG.1 hP (hst.1 255 (by decide)) hf77 rfl 2 (by decide) (hts _ (mT wg_1338)) (fun _ h => h) rfl dX11_brings_35 ?_
              refine lv_iconst (v := 1) hx hb dX11_brings_38 (by decide) ?_
              refine lv_iadd hx hb dX11_brings_39 ?_
              refine lv_topi (fun x78 ex78 => ?_)
              have hb79 : In x78 1 501 := ex78 ▸ In.add hv2_66 (⟨by decide, by decide⟩ : In 1 1 1) (by decide) (by decide) (by decide) (by decide)
              have et80 : x78.toInt = v2_66.toInt + 1 := In.adde ex78 hv2_66 (k := 1) (by decide) (by decide) (by decide)
              have hT := TI.updM hT hst (k := 1) (by decide) hf73 ho74 ⟨r75, rfl, hc76⟩
              refine pl_put (ty := .int) (v := .int x78) (fs' := [.int v0_66, .ref (ad 256), .int x78, .int v3_66, .int v4_66, .int v5_66, .int v6_66, .ref (ad 257), .int v8_66, .int v9_66, .ref (ad 258), .ref (ad 259), .int v12_66, .int v13_66, .int v14_66, .int v15_66, .int v16_66, .int v17_66, .int v18_66, .int v19_66, .int v20_66, .long v21_66, .long v22_66, .int v23_66, .ref (ad 260), .int v25_66, .ref (ad 261), .ref (ad 262), .ref (ad 263), .ref (ad 264), .ref (ad 265), .ref (ad 266), .ref (ad 267), .ref (ad 268), .ref (ad 269), .ref (ad 270), .int v36_66, .int v37_66, .int v38_66, .int v39_66, .int v40_66, .ref (ad 271), .ref (ad 272), .ref (ad 273), .ref (ad 274), .long v45_66, .long v46_66, .int v47_66, .int v48_66, .ref (ad 275), .int v50_66, .int v51_66, .ref (ad 276), .int v53_66, .ref (ad 277), .int v55_66]) hx hb hts (fun w h => mT (inX11 w h)) tyX11 tyX11_ok nmX11 hown hG.1 hP hD hS (hst.1 255 (by decide)) hf77 rfl 2 (by decide) (hts _ (mT wg_1338)) (fun _ h => h) rfl (by decide +kernel) (rfl) (rfl) (Nat.le_of_ble_eq_true rfl) rfl dX11_brings_40 (fun H locs f81 hf82 ho83 hP hD hS => ?_)
              have hf84 := (ho83 (ad 256) (hst.ne (by decide) (by decide) (by decide))).trans hf73
              have hfr : (∀ b, b ≠ (ad 255) → b ≠ (ad 256) → f81 b = f b) := fun b z0_ z1_ => (ho83 b z0_).trans (hfr b z0_ z1_)
              refine lv_iinc (v := 0) (lv' := [(2, .int 0), (3, .int x61), (0, .ref (ad 255)), (1, .int z1)]) hx hb dX11_brings_43 hl (k := 1) rfl (by decide) (by decide) rfl (fun ls hl => ?_)
              have hT := TI.updMG (th' := (gset (gset th 13 x50.toInt) 13 (x78.toInt))) hT hst (k := 0) (by decide) hf82 ho83 ⟨v0_66, x78, v3_66, v4_66, v5_66, v6_66, v8_66, v9_66, v12_66, v13_66, v14_66, v15_66, v16_66, v17_66, v18_66, v19_66, v20_66, v21_66, v22_66, v23_66, v25_66, v36_66, v37_66, v38_66, v39_66, v40_66, v45_66, v46_66, v47_66, v48_66, v50_66, v51_66, v53_66, v55_66, rfl, hv0_66, (In.mk (by obtain ⟨o0a, o0b⟩ := (hb79 : In _ _ _); obtain ⟨o1a, o1b⟩ := (hv3_66 : In _ _ _); obtain ⟨o2a, o2b⟩ := (hv4_66 : In _ _ _); obtain ⟨o3a, o3b⟩ := (hv5_66 : In _ _ _); obtain ⟨o4a, o4b⟩ := (hv6_66 : In _ _ _); obtain ⟨o5a, o5b⟩ := (hv9_66 : In _ _ _); obtain ⟨o6a, o6b⟩ := (hv13_66 : In _ _ _); obtain ⟨o7a, o7b⟩ := (hv14_66 : In _ _ _); obtain ⟨o8a, o8b⟩ := (hv15_66 : In _ _ _); obtain ⟨o9a, o9b⟩ := (hv17_66 : In _ _ _); obtain ⟨o10a, o10b⟩ := (hv20_66 : In _ _ _); obtain ⟨o11a, o11b⟩ := (hv23_66 : In _ _ _); obtain ⟨o12a, o12b⟩ := (hv36_66 : In _ _ _); obtain ⟨o13a, o13b⟩ := (hv47_66 : In _ _ _); obtain ⟨o14a, o14b⟩ := (hv48_66 : In _ _ _); obtain ⟨o15a, o15b⟩ := (hv53_66 : In _ _ _); obtain ⟨o16a, o16b⟩ := (hv55_66 : In _ _ _); obtain ⟨o17a, o17b⟩ := (hv2_66 : In _ _ _); omega) (by obtain ⟨o0a, o0b⟩ := (hb79 : In _ _ _); obtain ⟨o1a, o1b⟩ := (hv3_66 : In _ _ _); obtain ⟨o2a, o2b⟩ := (hv4_66 : In _ _ _); obtain ⟨o3a, o3b⟩ := (hv5_66 : In _ _ _); obtain ⟨o4a, o4b⟩ := (hv6_66 : In _ _ _); obtain ⟨o5a, o5b⟩ := (hv9_66 : In _ _ _); obtain ⟨o6a, o6b⟩ := (hv13_66 : In _ _ _); obtain ⟨o7a, o7b⟩ := (hv14_66 : In _ _ _); obtain ⟨o8a, o8b⟩ := (hv15_66 : In _ _ _); obtain ⟨o9a, o9b⟩ := (hv17_66 : In _ _ _); obtain ⟨o10a, o10b⟩ := (hv20_66 : In _ _ _); obtain ⟨o11a, o11b⟩ := (hv23_66 : In _ _ _); obtain ⟨o12a, o12b⟩ := (hv36_66 : In _ _ _); obtain ⟨o13a, o13b⟩ := (hv47_66 : In _ _ _); obtain ⟨o14a, o14b⟩ := (hv48_66 : In _ _ _); obtain ⟨o15a, o15b⟩ := (hv53_66 : In _ _ _); obtain ⟨o16a, o16b⟩ := (hv55_66 : In _ _ _); obtain ⟨o17a, o17b⟩ := (hv2_66 : In _ _ _); omega)), (by simp [gset]), hv3_66, (by rw [hg3_66]; simp [gset]), hv4_66, (by rw [hg4_66]; simp [gset]), hv5_66, (by rw [hg5_66]; simp [gset]), hv6_66, (by rw [hg6_66]; simp [gset]), hv8_66, hv9_66, (by rw [hg9_66]; simp [gset]), hv12_66, hv13_66, (by rw [hg13_66]; simp [gset]), hv14_66, (by rw [hg14_66]; simp [gset]), hv15_66, (by rw [hg15_66]; simp [gset]), hv17_66, (by rw [hg17_66]; simp [gset]), hv20_66, (by rw [hg20_66]; simp [gset]), hv23_66, (by rw [hg23_66]; simp [gset]), hv25_66, hv36_66, (by rw [hg36_66]; simp [gset]), hv47_66, (by rw [hg47_66]; simp [gset]), hv48_66, (by rw [hg48_66]; simp [gset]), hv53_66, (by rw [hg53_66]; simp [gset]), hv55_66, (by rw [hg55_66]; simp [gset]), hrel0_66⟩ (fun q hq => ((gset_ne (fun e => hq (by subst e; decide))).trans rfl))
              have hT : TI g ad (gset th 13 x78.toInt) f81 := TI.cast hT (by funext q; simp only [gset]; (repeat' split); all_goals first | rfl | omega | (subst_vars; rfl) | (exfalso; omega))
              refine lv_goto (tgt := 3) hx hb dX11_brings_46 (by decide) ?_
              refine lv_iload_n hx hb dX11_brings_3 rfl (lv_at hl 0 rfl) ?_
              refine lv_if_lt (tgt := 49) hx hb dX11_brings_4 (by decide) (fun c85 => ?_) (fun c85 => ?_)
              ·
                have oc0 : (0 : Int32).toInt = 0 := by decide
                have oc0 : (0 : Int32).toInt = 0 := by decide
                have cc86 : (0 : Int32).toInt < (0 : Int32).toInt := i32_lt.mp c85
                exact In.empty (lo := 0) (hi := (-1)) (In.lt1 (⟨by decide, by decide⟩ : In 0 0 0) (⟨by decide, by decide⟩ : In 0 0 0) cc86 (by omega) (by omega)) (by decide)
              ·
                have oc0 : (0 : Int32).toInt = 0 := by decide
                have oc0 : (0 : Int32).toInt = 0 := by decide
                have cc87 : (0 : Int32).toInt ≤ (0 : Int32).toInt := i32_nlt c85
                refine lv_iload_n hx hb dX11_brings_7 rfl (lv_at hl 3 rfl) ?_
                refine lv_iload_n hx hb dX11_brings_8 rfl (lv_at hl 0 rfl) ?_
                refine lv_ishr hx hb dX11_brings_9 ?_
                refine lv_topi (fun x88 ex88 => ?_)
                refine lv_sipush (v := 255) hx hb dX11_brings_10 (by decide) ?_
                refine lv_iand hx hb dX11_brings_13 ?_
                refine lv_topi (fun x89 ex89 => ?_)
                have hb90 : In x89 0 255 := ex89 ▸ In.andr (⟨by decide, by decide⟩ : In 255 255 255) (by decide)
                refine lv_istore_n (lv' := [(3, .int x89), (2, .int 0), (0, .ref (ad 255)), (1, .int z1)]) hx hb dX11_brings_14 rfl hl (by decide) rfl (fun ls hl => ?_)
                refine lv_iload_n hx hb dX11_brings_15 rfl (lv_at hl 0 rfl) ?_
                refine lv_if_ne (tgt := 22) hx hb dX11_brings_16 (by decide) (fun c91 => ?_) (fun c91 => ?_)
                ·
                  have oc0 : (0 : Int32).toInt = 0 := by decide
                  have cc92 : x89.toInt ≠ (0 : Int32).toInt := i32_ne c91
                  have hb93 : In x89 1 255 := In.ne1 hb90 (⟨by decide, by decide⟩ : In 0 0 0) cc92 (by omega) (by omega)
                  refine lv_aload_n hx hb dX11_brings_22 rfl (lv_at hl 2 rfl) ?_
                  obtain ⟨v0_94, v2_94, v3_94, v4_94, v5_94, v6_94, v8_94, v9_94, v12_94, v13_94, v14_94, v15_94, v16_94, v17_94, v18_94, v19_94, v20_94, v21_94, v22_94, v23_94, v25_94, v36_94, v37_94, v38_94, v39_94, v40_94, v45_94, v46_94, v47_94, v48_94, v50_94, v51_94, v53_94, v55_94, hf95, hv0_94, hv2_94, hg2_94, hv3_94, hg3_94, hv4_94, hg4_94, hv5_94, hg5_94, hv6_94, hg6_94, hv8_94, hv9_94, hg9_94, hv12_94, hv13_94, hg13_94, hv14_94, hg14_94, hv15_94, hg15_94, hv17_94, hg17_94, hv20_94, hg20_94, hv23_94, hg23_94, hv25_94, hv36_94, hg36_94, hv47_94, hg47_94, hv48_94, hg48_94, hv53_94, hg53_94, hv55_94, hg55_94, hrel0_94⟩ := hT.2.2 0 (by decide)
                  have hg2_94 : v2_94.toInt = x78.toInt := hg2_94
                  have hg3_94 : v3_94.toInt = th 37 := hg3_94
                  have hg4_94 : v4_94.toInt = th 42 := hg4_94
                  have hg5_94 : v5_94.toInt = th 40 := hg5_94
                  have hg6_94 : v6_94.toInt = th 41 := hg6_94
                  have hg9_94 : v9_94.toInt = th 35 := hg9_94
                  have hg13_94 : v13_94.toInt = th 36 := hg13_94
                  have hg14_94 : v14_94.toInt = th 10 := hg14_94
                  have hg15_94 : v15_94.toInt = th 11 := hg15_94
                  have hg17_94 : v17_94.toInt = th 12 := hg17_94
                  have hg20_94 : v20_94.toInt = th 14 := hg20_94
                  have hg23_94 : v23_94.toInt = th 15 := hg23_94
                  have hg36_94 : v36_94.toInt = th 18 := hg36_94
                  have hg47_94 : v47_94.toInt = th 16 := hg47_94
                  have hg48_94 : v48_94.toInt = th 17 := hg48_94
                  have hg53_94 : v53_94.toInt = th 38 := hg53_94
                  have hg55_94 : v55_94.toInt = th 39 := hg55_94
                  refine pl_get (v := .ref (ad 256)) hx hb hts (fun w h => mT (inX11 w h)) hown hG.1 hP (hst.1 255 (by decide)) hf95 rfl 1 (by decide) (hts _ (mT wg_1337)) (fun _ h => h) rfl dX11_brings_23 ?_
                  refine lv_aload_n hx hb dX11_brings_26 rfl (lv_at hl 2 rfl) ?_
                  refine pl_get (v := .int v2_94) hx hb hts (fun w h => mT (inX11 w h)) hown hG.1 hP (hst.1 255 (by decide)) hf95 rfl 2 (by decide) (hts _ (mT wg_1338)) (fun _ h => h) rfl dX11_brings_27 ?_
                  refine lv_iload_n hx hb dX11_brings_30 rfl (lv_at hl 0 rfl) ?_
                  refine lv_i2b hx hb dX11_brings_31 rfl ?_
                  refine lv_topi (fun x96 ex96 => ?_)
                  have hby97 : b1 z1 24 = 1 := b1_1 (by rw [show byS z1 24 = x5 by rw [ex5, ex4]; rfl]; exact c7)
                  have hby98 : b1 z1 16 = 1 := b1_1 (by rw [show byS z1 16 = x34 by rw [ex34, ex33]; rfl]; exact c36)
                  have hby99 : b1 z1 8 = 1 := b1_1 (by rw [show byS z1 8 = x61 by rw [ex61, ex60]; rfl]; exact c63)
                  have hby100 : b1 z1 0 = 1 := b1_1 (by rw [show byS z1 0 = x89 by rw [ex89, ex88]; rfl]; exact c91)
                  refine pl_bastE hx hb hG.1 hP hD hS (hst.1 256 (by decide)) 2 hf84 rfl (vp_of (by obtain ⟨o0a, o0b⟩ := (hv2_94 : In _ _ _); obtain ⟨o1a, o1b⟩ := (hv3_94 : In _ _ _); obtain ⟨o2a, o2b⟩ := (hv4_94 : In _ _ _); obtain ⟨o3a, o3b⟩ := (hv5_94 : In _ _ _); obtain ⟨o4a, o4b⟩ := (hv6_94 : In _ _ _); obtain ⟨o5a, o5b⟩ := (hv9_94 : In _ _ _); obtain ⟨o6a, o6b⟩ := (hv13_94 : In _ _ _); obtain ⟨o7a, o7b⟩ := (hv14_94 : In _ _ _); obtain ⟨o8a, o8b⟩ := (hv15_94 : In _ _ _); obtain ⟨o9a, o9b⟩ := (hv17_94 : In _ _ _); obtain ⟨o10a, o10b⟩ := (hv20_94 : In _ _ _); obtain ⟨o11a, o11b⟩ := (hv23_94 : In _ _ _); obtain ⟨o12a, o12b⟩ := (hv36_94 : In _ _ _); obtain ⟨o13a, o13b⟩ := (hv47_94 : In _ _ _); obtain ⟨o14a, o14b⟩ := (hv48_94 : In _ _ _); obtain ⟨o15a, o15b⟩ := (hv53_94 : In _ _ _); obtain ⟨o16a, o16b⟩ := (hv55_94 : In _ _ _); omega) (by obtain ⟨o0a, o0b⟩ := (hv2_94 : In _ _ _); obtain ⟨o1a, o1b⟩ := (hv3_94 : In _ _ _); obtain ⟨o2a, o2b⟩ := (hv4_94 : In _ _ _); obtain ⟨o3a, o3b⟩ := (hv5_94 : In _ _ _); obtain ⟨o4a, o4b⟩ := (hv6_94 : In _ _ _); obtain ⟨o5a, o5b⟩ := (hv9_94 : In _ _ _); obtain ⟨o6a, o6b⟩ := (hv13_94 : In _ _ _); obtain ⟨o7a, o7b⟩ := (hv14_94 : In _ _ _); obtain ⟨o8a, o8b⟩ := (hv15_94 : In _ _ _); obtain ⟨o9a, o9b⟩ := (hv17_94 : In _ _ _); obtain ⟨o10a, o10b⟩ := (hv20_94 : In _ _ _); obtain ⟨o11a, o11b⟩ := (hv23_94 : In _ _ _); obtain ⟨o12a, o12b⟩ := (hv36_94 : In _ _ _); obtain ⟨o13a, o13b⟩ := (hv47_94 : In _ _ _); obtain ⟨o14a, o14b⟩ := (hv48_94 : In _ _ _); obtain ⟨o15a, o15b⟩ := (hv53_94 : In _ _ _); obtain ⟨o16a, o16b⟩ := (hv55_94 : In _ _ _); omega)) dX11_brings_32 (fun H locs f101 r104 er104 hf102 ho103 hP hD hS => ?_)
                  have hc105 : ∀ i : Nat, i < 500 → In (r104 i) (-128) 127 := cont_upd er104 hc76 (nar_byte _)
                  have hf106 := (ho103 (ad 255) (hst.ne (by decide) (by decide) (by decide))).trans hf95
                  have hfr : (∀ b, b ≠ (ad 255) → b ≠ (ad 256) → f101 b = f b) := fun b z0_ z1_ => (ho103 b z1_).trans (hfr b z0_ z1_)
                  refine lv_aload_n hx hb dX11_brings_33 rfl (lv_at hl 2 rfl) ?_
                  refine lv_dup hx hb dX11_brings_34 rfl ?_
                  refine pl_get (v := .int v2_94) hx hb hts (fun w h => mT (inX11 w h)) hown hG.1 hP (hst.1 255 (by decide)) hf106 rfl 2 (by decide) (hts _ (mT wg_1338)) (fun _ h => h) rfl dX11_brings_35 ?_
                  refine lv_iconst (v := 1) hx hb dX11_brings_38 (by decide) ?_
                  refine lv_iadd hx hb dX11_brings_39 ?_
                  refine lv_topi (fun x107 ex107 => ?_)
                  have hb108 : In x107 1 501 := ex107 ▸ In.add hv2_94 (⟨by decide, by decide⟩ : In 1 1 1) (by decide) (by decide) (by decide) (by decide)
                  have et109 : x107.toInt = v2_94.toInt + 1 := In.adde ex107 hv2_94 (k := 1) (by decide) (by decide) (by decide)
                  have hT := TI.updM hT hst (k := 1) (by decide) hf102 ho103 ⟨r104, rfl, hc105⟩
                  refine pl_put (ty := .int) (v := .int x107) (fs' := [.int v0_94, .ref (ad 256), .int x107, .int v3_94, .int v4_94, .int v5_94, .int v6_94, .ref (ad 257), .int v8_94, .int v9_94, .ref (ad 258), .ref (ad 259), .int v12_94, .int v13_94, .int v14_94, .int v15_94, .int v16_94, .int v17_94, .int v18_94, .int v19_94, .int v20_94, .long v21_94, .long v22_94, .int v23_94, .ref (ad 260), .int v25_94, .ref (ad 261), .ref (ad 262), .ref (ad 263), .ref (ad 264), .ref (ad 265), .ref (ad 266), .ref (ad 267), .ref (ad 268), .ref (ad 269), .ref (ad 270), .int v36_94, .int v37_94, .int v38_94, .int v39_94, .int v40_94, .ref (ad 271), .ref (ad 272), .ref (ad 273), .ref (ad 274), .long v45_94, .long v46_94, .int v47_94, .int v48_94, .ref (ad 275), .int v50_94, .int v51_94, .ref (ad 276), .int v53_94, .ref (ad 277), .int v55_94]) hx hb hts (fun w h => mT (inX11 w h)) tyX11 tyX11_ok nmX11 hown hG.1 hP hD hS (hst.1 255 (by decide)) hf106 rfl 2 (by decide) (hts _ (mT wg_1338)) (fun _ h => h) rfl (by decide +kernel) (rfl) (rfl) (Nat.le_of_ble_eq_true rfl) rfl dX11_brings_40 (fun H locs f110 hf111 ho112 hP hD hS => ?_)
                  have hf113 := (ho112 (ad 256) (hst.ne (by decide) (by decide) (by decide))).trans hf102
                  have hfr : (∀ b, b ≠ (ad 255) → b ≠ (ad 256) → f110 b = f b) := fun b z0_ z1_ => (ho112 b z0_).trans (hfr b z0_ z1_)
                  refine lv_iinc (v := (-8)) (lv' := [(2, .int (-8)), (3, .int x89), (0, .ref (ad 255)), (1, .int z1)]) hx hb dX11_brings_43 hl (k := 1) rfl (by decide) (by decide) rfl (fun ls hl => ?_)
                  have hT := TI.updMG (th' := (gset (gset th 13 x78.toInt) 13 (x107.toInt))) hT hst (k := 0) (by decide) hf111 ho112 ⟨v0_94, x107, v3_94, v4_94, v5_94, v6_94, v8_94, v9_94, v12_94, v13_94, v14_94, v15_94, v16_94, v17_94, v18_94, v19_94, v20_94, v21_94, v22_94, v23_94, v25_94, v36_94, v37_94, v38_94, v39_94, v40_94, v45_94, v46_94, v47_94, v48_94, v50_94, v51_94, v53_94, v55_94, rfl, hv0_94, (In.mk (by obtain ⟨o0a, o0b⟩ := (hb108 : In _ _ _); obtain ⟨o1a, o1b⟩ := (hv3_94 : In _ _ _); obtain ⟨o2a, o2b⟩ := (hv4_94 : In _ _ _); obtain ⟨o3a, o3b⟩ := (hv5_94 : In _ _ _); obtain ⟨o4a, o4b⟩ := (hv6_94 : In _ _ _); obtain ⟨o5a, o5b⟩ := (hv9_94 : In _ _ _); obtain ⟨o6a, o6b⟩ := (hv13_94 : In _ _ _); obtain ⟨o7a, o7b⟩ := (hv14_94 : In _ _ _); obtain ⟨o8a, o8b⟩ := (hv15_94 : In _ _ _); obtain ⟨o9a, o9b⟩ := (hv17_94 : In _ _ _); obtain ⟨o10a, o10b⟩ := (hv20_94 : In _ _ _); obtain ⟨o11a, o11b⟩ := (hv23_94 : In _ _ _); obtain ⟨o12a, o12b⟩ := (hv36_94 : In _ _ _); obtain ⟨o13a, o13b⟩ := (hv47_94 : In _ _ _); obtain ⟨o14a, o14b⟩ := (hv48_94 : In _ _ _); obtain ⟨o15a, o15b⟩ := (hv53_94 : In _ _ _); obtain ⟨o16a, o16b⟩ := (hv55_94 : In _ _ _); obtain ⟨o17a, o17b⟩ := (hv2_94 : In _ _ _); omega) (by obtain ⟨o0a, o0b⟩ := (hb108 : In _ _ _); obtain ⟨o1a, o1b⟩ := (hv3_94 : In _ _ _); obtain ⟨o2a, o2b⟩ := (hv4_94 : In _ _ _); obtain ⟨o3a, o3b⟩ := (hv5_94 : In _ _ _); obtain ⟨o4a, o4b⟩ := (hv6_94 : In _ _ _); obtain ⟨o5a, o5b⟩ := (hv9_94 : In _ _ _); obtain ⟨o6a, o6b⟩ := (hv13_94 : In _ _ _); obtain ⟨o7a, o7b⟩ := (hv14_94 : In _ _ _); obtain ⟨o8a, o8b⟩ := (hv15_94 : In _ _ _); obtain ⟨o9a, o9b⟩ := (hv17_94 : In _ _ _); obtain ⟨o10a, o10b⟩ := (hv20_94 : In _ _ _); obtain ⟨o11a, o11b⟩ := (hv23_94 : In _ _ _); obtain ⟨o12a, o12b⟩ := (hv36_94 : In _ _ _); obtain ⟨o13a, o13b⟩ := (hv47_94 : In _ _ _); obtain ⟨o14a, o14b⟩ := (hv48_94 : In _ _ _); obtain ⟨o15a, o15b⟩ := (hv53_94 : In _ _ _); obtain ⟨o16a, o16b⟩ := (hv55_94 : In _ _ _); obtain ⟨o17a, o17b⟩ := (hv2_94 : In _ _ _); omega)), (by simp [gset]), hv3_94, (by rw [hg3_94]; simp [gset]), hv4_94, (by rw [hg4_94]; simp [gset]), hv5_94, (by rw [hg5_94]; simp [gset]), hv6_94, (by rw [hg6_94]; simp [gset]), hv8_94, hv9_94, (by rw [hg9_94]; simp [gset]), hv12_94, hv13_94, (by rw [hg13_94]; simp [gset]), hv14_94, (by rw [hg14_94]; simp [gset]), hv15_94, (by rw [hg15_94]; simp [gset]), hv17_94, (by rw [hg17_94]; simp [gset]), hv20_94, (by rw [hg20_94]; simp [gset]), hv23_94, (by rw [hg23_94]; simp [gset]), hv25_94, hv36_94, (by rw [hg36_94]; simp [gset]), hv47_94, (by rw [hg47_94]; simp [gset]), hv48_94, (by rw [hg48_94]; simp [gset]), hv53_94, (by rw [hg53_94]; simp [gset]), hv55_94, (by rw [hg55_94]; simp [gset]), hrel0_94⟩ (fun q hq => ((gset_ne (fun e => hq (by subst e; decide))).trans rfl))
                  have hT : TI g ad (gset th 13 x107.toInt) f110 := TI.cast hT (by funext q; simp only [gset]; (repeat' split); all_goals first | rfl | omega | (subst_vars; rfl) | (exfalso; omega))
                  refine lv_goto (tgt := 3) hx hb dX11_brings_46 (by decide) ?_
                  refine lv_iload_n hx hb dX11_brings_3 rfl (lv_at hl 0 rfl) ?_
                  refine lv_if_lt (tgt := 49) hx hb dX11_brings_4 (by decide) (fun c114 => ?_) (fun c114 => ?_)
                  ·
                    have ocm8 : ((-8) : Int32).toInt = (-8) := by decide
                    have oc0 : (0 : Int32).toInt = 0 := by decide
                    have cc115 : ((-8) : Int32).toInt < (0 : Int32).toInt := i32_lt.mp c114
                    have hby116 : b1 z1 24 = 1 := b1_1 (by rw [show byS z1 24 = x5 by rw [ex5, ex4]; rfl]; exact c7)
                    have hby117 : b1 z1 16 = 1 := b1_1 (by rw [show byS z1 16 = x34 by rw [ex34, ex33]; rfl]; exact c36)
                    have hby118 : b1 z1 8 = 1 := b1_1 (by rw [show byS z1 8 = x61 by rw [ex61, ex60]; rfl]; exact c63)
                    have hby119 : b1 z1 0 = 1 := b1_1 (by rw [show byS z1 0 = x89 by rw [ex89, ex88]; rfl]; exact c91)
                    exact ret_v hx hb hr hlocks hP hD hS (Nat.le_of_ble_eq_true rfl) (Nat.le_of_ble_eq_true rfl) (⟨rfl, ⟨x107.toInt, (show x107.toInt = th 13 + nb z1 from (by omega)), TI.cast hT (by funext q; simp only [gset]; (repeat' split); all_goals first | rfl | omega | (subst_vars; rfl) | (exfalso; omega))⟩, hfr⟩) dX11_brings_49
                  ·
                    have ocm8 : ((-8) : Int32).toInt = (-8) := by decide
                    have oc0 : (0 : Int32).toInt = 0 := by decide
                    have cc120 : (0 : Int32).toInt ≤ ((-8) : Int32).toInt := i32_nlt c114
                    exact In.empty (lo := 0) (hi := (-8)) (In.ge1 (⟨by decide, by decide⟩ : In (-8) (-8) (-8)) (⟨by decide, by decide⟩ : In 0 0 0) cc120 (by omega) (by omega)) (by decide)
                ·
                  have oc0 : (0 : Int32).toInt = 0 := by decide
                  have cc121 : x89.toInt = (0 : Int32).toInt := congrArg Int32.toInt c91
                  have hb122 : In x89 0 0 := In.eq1 hb90 (⟨by decide, by decide⟩ : In 0 0 0) cc121 (by omega) (by omega)
                  refine lv_goto (tgt := 43) hx hb dX11_brings_19 (by decide) ?_
                  refine lv_iinc (v := (-8)) (lv' := [(2, .int (-8)), (3, .int x89), (0, .ref (ad 255)), (1, .int z1)]) hx hb dX11_brings_43 hl (k := 1) rfl (by decide) (by decide) rfl (fun ls hl => ?_)
                  refine lv_goto (tgt := 3) hx hb dX11_brings_46 (by decide) ?_
                  refine lv_iload_n hx hb dX11_brings_3 rfl (lv_at hl 0 rfl) ?_
                  refine lv_if_lt (tgt := 49) hx hb dX11_brings_4 (by decide) (fun c123 => ?_) (fun c123 => ?_)
                  ·
                    have ocm8 : ((-8) : Int32).toInt = (-8) := by decide
                    have oc0 : (0 : Int32).toInt = 0 := by decide
                    have cc124 : ((-8) : Int32).toInt < (0 : Int32).toInt := i32_lt.mp c123
                    have hby125 : b1 z1 24 = 1 := b1_1 (by rw [show byS z1 24 = x5 by rw [ex5, ex4]; rfl]; exact c7)
                    have hby126 : b1 z1 16 = 1 := b1_1 (by rw [show byS z1 16 = x34 by rw [ex34, ex33]; rfl]; exact c36)
                    have hby127 : b1 z1 8 = 1 := b1_1 (by rw [show byS z1 8 = x61 by rw [ex61, ex60]; rfl]; exact c63)
                    have hby128 : b1 z1 0 = 0 := b1_0 (by rw [show byS z1 0 = x89 by rw [ex89, ex88]; rfl]; exact c91)
                    exact ret_v hx hb hr hlocks hP hD hS (Nat.le_of_ble_eq_true rfl) (Nat.le_of_ble_eq_true rfl) (⟨rfl, ⟨x78.toInt, (show x78.toInt = th 13 + nb z1 from (by omega)), TI.cast hT (by funext q; simp only [gset]; (repeat' split); all_goals first | rfl | omega | (subst_vars; rfl) | (exfalso; omega))⟩, hfr⟩) dX11_brings_49
                  ·
                    have ocm8 : ((-8) : Int32).toInt = (-8) := by decide
                    have oc0 : (0 : Int32).toInt = 0 := by decide
                    have cc129 : (0 : Int32).toInt ≤ ((-8) : Int32).toInt := i32_nlt c123
                    exact In.empty (lo := 0) (hi := (-8)) (In.ge1 (⟨by decide, by decide⟩ : In (-8) (-8) (-8)) (⟨by decide, by decide⟩ : In 0 0 0) cc129 (by omega) (by omega)) (by decide)
            ·
              have oc0 : (0 : Int32).toInt = 0 := by decide
              have cc130 : x61.toInt = (0 : Int32).toInt := congrArg Int32.toInt c63
              have hb131 : In x61 0 0 := In.eq1 hb62 (⟨by decide, by decide⟩ : In 0 0 0) cc130 (by omega) (by omega)
              refine lv_goto (tgt := 43) hx hb dX11_brings_19 (by decide) ?_
              refine lv_iinc (v := 0) (lv' := [(2, .int 0), (3, .int x61), (0, .ref (ad 255)), (1, .int z1)]) hx hb dX11_brings_43 hl (k := 1) rfl (by decide) (by decide) rfl (fun ls hl => ?_)
              refine lv_goto (tgt := 3) hx hb dX11_brings_46 (by decide) ?_
              refine lv_iload_n hx hb dX11_brings_3 rfl (lv_at hl 0 rfl) ?_
              refine lv_if_lt (tgt := 49) hx hb dX11_brings_4 (by decide) (fun c132 => ?_) (fun c132 => ?_)
              ·
                have oc0 : (0 : Int32).toInt = 0 := by decide
                have oc0 : (0 : Int32).toInt = 0 := by decide
                have cc133 : (0 : Int32).toInt < (0 : Int32).toInt := i32_lt.mp c132
                exact In.empty (lo := 0) (hi := (-1)) (In.lt1 (⟨by decide, by decide⟩ : In 0 0 0) (⟨by decide, by decide⟩ : In 0 0 0) cc133 (by omega) (by omega)) (by decide)
              ·
                have oc0 : (0 : Int32).toInt = 0 := by decide
                have oc0 : (0 : Int32).toInt = 0 := by decide
                have cc134 : (0 : Int32).toInt ≤ (0 : Int32).toInt := i32_nlt c132
                refine lv_iload_n hx hb dX11_brings_7 rfl (lv_at hl 3 rfl) ?_
                refine lv_iload_n hx hb dX11_brings_8 rfl (lv_at hl 0 rfl) ?_
                refine lv_ishr hx hb dX11_brings_9 ?_
                refine lv_topi (fun x135 ex135 => ?_)
                refine lv_sipush (v := 255) hx hb dX11_brings_10 (by decide) ?_
                refine lv_iand hx hb dX11_brings_13 ?_
                refine lv_topi (fun x136 ex136 => ?_)
                have hb137 : In x136 0 255 := ex136 ▸ In.andr (⟨by decide, by decide⟩ : In 255 255 255) (by decide)
                refine lv_istore_n (lv' := [(3, .int x136), (2, .int 0), (0, .ref (ad 255)), (1, .int z1)]) hx hb dX11_brings_14 rfl hl (by decide) rfl (fun ls hl => ?_)
                refine lv_iload_n hx hb dX11_brings_15 rfl (lv_at hl 0 rfl) ?_
                refine lv_if_ne (tgt := 22) hx hb dX11_brings_16 (by decide) (fun c138 => ?_) (fun c138 => ?_)
                ·
                  have oc0 : (0 : Int32).toInt = 0 := by decide
                  have cc139 : x136.toInt ≠ (0 : Int32).toInt := i32_ne c138
                  have hb140 : In x136 1 255 := In.ne1 hb137 (⟨by decide, by decide⟩ : In 0 0 0) cc139 (by omega) (by omega)
                  refine lv_aload_n hx hb dX11_brings_22 rfl (lv_at hl 2 rfl) ?_
                  obtain ⟨v0_141, v2_141, v3_141, v4_141, v5_141, v6_141, v8_141, v9_141, v12_141, v13_141, v14_141, v15_141, v16_141, v17_141, v18_141, v19_141, v20_141, v21_141, v22_141, v23_141, v25_141, v36_141, v37_141, v38_141, v39_141, v40_141, v45_141, v46_141, v47_141, v48_141, v50_141, v51_141, v53_141, v55_141, hf142, hv0_141, hv2_141, hg2_141, hv3_141, hg3_141, hv4_141, hg4_141, hv5_141, hg5_141, hv6_141, hg6_141, hv8_141, hv9_141, hg9_141, hv12_141, hv13_141, hg13_141, hv14_141, hg14_141, hv15_141, hg15_141, hv17_141, hg17_141, hv20_141, hg20_141, hv23_141, hg23_141, hv25_141, hv36_141, hg36_141, hv47_141, hg47_141, hv48_141, hg48_141, hv53_141, hg53_141, hv55_141, hg55_141, hrel0_141⟩ := hT.2.2 0 (by decide)
                  have hg2_141 : v2_141.toInt = x50.toInt := hg2_141
                  have hg3_141 : v3_141.toInt = th 37 := hg3_141
                  have hg4_141 : v4_141.toInt = th 42 := hg4_141
                  have hg5_141 : v5_141.toInt = th 40 := hg5_141
                  have hg6_141 : v6_141.toInt = th 41 := hg6_141
                  have hg9_141 : v9_141.toInt = th 35 := hg9_141
                  have hg13_141 : v13_141.toInt = th 36 := hg13_141
                  have hg14_141 : v14_141.toInt = th 10 := hg14_141
                  have hg15_141 : v15_141.toInt = th 11 := hg15_141
                  have hg17_141 : v17_141.toInt = th 12 := hg17_141
                  have hg20_141 : v20_141.toInt = th 14 := hg20_141
                  have hg23_141 : v23_141.toInt = th 15 := hg23_141
                  have hg36_141 : v36_141.toInt = th 18 := hg36_141
                  have hg47_141 : v47_141.toInt = th 16 := hg47_141
                  have hg48_141 : v48_141.toInt = th 17 := hg48_141
                  have hg53_141 : v53_141.toInt = th 38 := hg53_141
                  have hg55_141 : v55_141.toInt = th 39 := hg55_141
                  refine pl_get (v := .ref (ad 256)) hx hb hts (fun w h => mT (inX11 w h)) hown hG.1 hP (hst.1 255 (by decide)) hf142 rfl 1 (by decide) (hts _ (mT wg_1337)) (fun _ h => h) rfl dX11_brings_23 ?_
                  refine lv_aload_n hx hb dX11_brings_26 rfl (lv_at hl 2 rfl) ?_
                  refine pl_get (v := .int v2_141) hx hb hts (fun w h => mT (inX11 w h)) hown hG.1 hP (hst.1 255 (by decide)) hf142 rfl 2 (by decide) (hts _ (mT wg_1338)) (fun _ h => h) rfl dX11_brings_27 ?_
                  refine lv_iload_n hx hb dX11_brings_30 rfl (lv_at hl 0 rfl) ?_
                  refine lv_i2b hx hb dX11_brings_31 rfl ?_
                  refine lv_topi (fun x143 ex143 => ?_)
                  have hby144 : b1 z1 24 = 1 := b1_1 (by rw [show byS z1 24 = x5 by rw [ex5, ex4]; rfl]; exact c7)
                  have hby145 : b1 z1 16 = 1 := b1_1 (by rw [show byS z1 16 = x34 by rw [ex34, ex33]; rfl]; exact c36)
                  have hby146 : b1 z1 8 = 0 := b1_0 (by rw [show byS z1 8 = x61 by rw [ex61, ex60]; rfl]; exact c63)
                  have hby147 : b1 z1 0 = 1 := b1_1 (by rw [show byS z1 0 = x136 by rw [ex136, ex135]; rfl]; exact c138)
                  refine pl_bastE hx hb hG.1 hP hD hS (hst.1 256 (by decide)) 2 hf56 rfl (vp_of (by obtain ⟨o0a, o0b⟩ := (hv2_141 : In _ _ _); obtain ⟨o1a, o1b⟩ := (hv3_141 : In _ _ _); obtain ⟨o2a, o2b⟩ := (hv4_141 : In _ _ _); obtain ⟨o3a, o3b⟩ := (hv5_141 : In _ _ _); obtain ⟨o4a, o4b⟩ := (hv6_141 : In _ _ _); obtain ⟨o5a, o5b⟩ := (hv9_141 : In _ _ _); obtain ⟨o6a, o6b⟩ := (hv13_141 : In _ _ _); obtain ⟨o7a, o7b⟩ := (hv14_141 : In _ _ _); obtain ⟨o8a, o8b⟩ := (hv15_141 : In _ _ _); obtain ⟨o9a, o9b⟩ := (hv17_141 : In _ _ _); obtain ⟨o10a, o10b⟩ := (hv20_141 : In _ _ _); obtain ⟨o11a, o11b⟩ := (hv23_141 : In _ _ _); obtain ⟨o12a, o12b⟩ := (hv36_141 : In _ _ _); obtain ⟨o13a, o13b⟩ := (hv47_141 : In _ _ _); obtain ⟨o14a, o14b⟩ := (hv48_141 : In _ _ _); obtain ⟨o15a, o15b⟩ := (hv53_141 : In _ _ _); obtain ⟨o16a, o16b⟩ := (hv55_141 : In _ _ _); omega) (by obtain ⟨o0a, o0b⟩ := (hv2_141 : In _ _ _); obtain ⟨o1a, o1b⟩ := (hv3_141 : In _ _ _); obtain ⟨o2a, o2b⟩ := (hv4_141 : In _ _ _); obtain ⟨o3a, o3b⟩ := (hv5_141 : In _ _ _); obtain ⟨o4a, o4b⟩ := (hv6_141 : In _ _ _); obtain ⟨o5a, o5b⟩ := (hv9_141 : In _ _ _); obtain ⟨o6a, o6b⟩ := (hv13_141 : In _ _ _); obtain ⟨o7a, o7b⟩ := (hv14_141 : In _ _ _); obtain ⟨o8a, o8b⟩ := (hv15_141 : In _ _ _); obtain ⟨o9a, o9b⟩ := (hv17_141 : In _ _ _); obtain ⟨o10a, o10b⟩ := (hv20_141 : In _ _ _); obtain ⟨o11a, o11b⟩ := (hv23_141 : In _ _ _); obtain ⟨o12a, o12b⟩ := (hv36_141 : In _ _ _); obtain ⟨o13a, o13b⟩ := (hv47_141 : In _ _ _); obtain ⟨o14a, o14b⟩ := (hv48_141 : In _ _ _); obtain ⟨o15a, o15b⟩ := (hv53_141 : In _ _ _); obtain ⟨o16a, o16b⟩ := (hv55_141 : In _ _ _); omega)) dX11_brings_32 (fun H locs f148 r151 er151 hf149 ho150 hP hD hS => ?_)
                  have hc152 : ∀ i : Nat, i < 500 → In (r151 i) (-128) 127 := cont_upd er151 hc48 (nar_byte _)
                  have hf153 := (ho150 (ad 255) (hst.ne (by decide) (by decide) (by decide))).trans hf142
                  have hfr : (∀ b, b ≠ (ad 255) → b ≠ (ad 256) → f148 b = f b) := fun b z0_ z1_ => (ho150 b z1_).trans (hfr b z0_ z1_)
                  refine lv_aload_n hx hb dX11_brings_33 rfl (lv_at hl 2 rfl) ?_
                  refine lv_dup hx hb dX11_brings_34 rfl ?_
                  refine pl_get (v := .int v2_141) hx hb hts (fun w h => mT (inX11 w h)) hown hG.1 hP (hst.1 255 (by decide)) hf153 rfl 2 (by decide) (hts _ (mT wg_1338)) (fun _ h => h) rfl dX11_brings_35 ?_
                  refine lv_iconst (v := 1) hx hb dX11_brings_38 (by decide) ?_
                  refine lv_iadd hx hb dX11_brings_39 ?_
                  refine lv_topi (fun x154 ex154 => ?_)
                  have hb155 : In x154 1 501 := ex154 ▸ In.add hv2_141 (⟨by decide, by decide⟩ : In 1 1 1) (by decide) (by decide) (by decide) (by decide)
                  have et156 : x154.toInt = v2_141.toInt + 1 := In.adde ex154 hv2_141 (k := 1) (by decide) (by decide) (by decide)
                  have hT := TI.updM hT hst (k := 1) (by decide) hf149 ho150 ⟨r151, rfl, hc152⟩
                  refine pl_put (ty := .int) (v := .int x154) (fs' := [.int v0_141, .ref (ad 256), .int x154, .int v3_141, .int v4_141, .int v5_141, .int v6_141, .ref (ad 257), .int v8_141, .int v9_141, .ref (ad 258), .ref (ad 259), .int v12_141, .int v13_141, .int v14_141, .int v15_141, .int v16_141, .int v17_141, .int v18_141, .int v19_141, .int v20_141, .long v21_141, .long v22_141, .int v23_141, .ref (ad 260), .int v25_141, .ref (ad 261), .ref (ad 262), .ref (ad 263), .ref (ad 264), .ref (ad 265), .ref (ad 266), .ref (ad 267), .ref (ad 268), .ref (ad 269), .ref (ad 270), .int v36_141, .int v37_141, .int v38_141, .int v39_141, .int v40_141, .ref (ad 271), .ref (ad 272), .ref (ad 273), .ref (ad 274), .long v45_141, .long v46_141, .int v47_141, .int v48_141, .ref (ad 275), .int v50_141, .int v51_141, .ref (ad 276), .int v53_141, .ref (ad 277), .int v55_141]) hx hb hts (fun w h => mT (inX11 w h)) tyX11 tyX11_ok nmX11 hown hG.1 hP hD hS (hst.1 255 (by decide)) hf153 rfl 2 (by decide) (hts _ (mT wg_1338)) (fun _ h => h) rfl (by decide +kernel) (rfl) (rfl) (Nat.le_of_ble_eq_true rfl) rfl dX11_brings_40 (fun H locs f157 hf158 ho159 hP hD hS => ?_)
                  have hf160 := (ho159 (ad 256) (hst.ne (by decide) (by decide) (by decide))).trans hf149
                  have hfr : (∀ b, b ≠ (ad 255) → b ≠ (ad 256) → f157 b = f b) := fun b z0_ z1_ => (ho159 b z0_).trans (hfr b z0_ z1_)
                  refine lv_iinc (v := (-8)) (lv' := [(2, .int (-8)), (3, .int x136), (0, .ref (ad 255)), (1, .int z1)]) hx hb dX11_brings_43 hl (k := 1) rfl (by decide) (by decide) rfl (fun ls hl => ?_)
                  have hT := TI.updMG (th' := (gset (gset th 13 x50.toInt) 13 (x154.toInt))) hT hst (k := 0) (by decide) hf158 ho159 ⟨v0_141, x154, v3_141, v4_141, v5_141, v6_141, v8_141, v9_141, v12_141, v13_141, v14_141, v15_141, v16_141, v17_141, v18_141, v19_141, v20_141, v21_141, v22_141, v23_141, v25_141, v36_141, v37_141, v38_141, v39_141, v40_141, v45_141, v46_141, v47_141, v48_141, v50_141, v51_141, v53_141, v55_141, rfl, hv0_141, (In.mk (by obtain ⟨o0a, o0b⟩ := (hb155 : In _ _ _); obtain ⟨o1a, o1b⟩ := (hv3_141 : In _ _ _); obtain ⟨o2a, o2b⟩ := (hv4_141 : In _ _ _); obtain ⟨o3a, o3b⟩ := (hv5_141 : In _ _ _); obtain ⟨o4a, o4b⟩ := (hv6_141 : In _ _ _); obtain ⟨o5a, o5b⟩ := (hv9_141 : In _ _ _); obtain ⟨o6a, o6b⟩ := (hv13_141 : In _ _ _); obtain ⟨o7a, o7b⟩ := (hv14_141 : In _ _ _); obtain ⟨o8a, o8b⟩ := (hv15_141 : In _ _ _); obtain ⟨o9a, o9b⟩ := (hv17_141 : In _ _ _); obtain ⟨o10a, o10b⟩ := (hv20_141 : In _ _ _); obtain ⟨o11a, o11b⟩ := (hv23_141 : In _ _ _); obtain ⟨o12a, o12b⟩ := (hv36_141 : In _ _ _); obtain ⟨o13a, o13b⟩ := (hv47_141 : In _ _ _); obtain ⟨o14a, o14b⟩ := (hv48_141 : In _ _ _); obtain ⟨o15a, o15b⟩ := (hv53_141 : In _ _ _); obtain ⟨o16a, o16b⟩ := (hv55_141 : In _ _ _); obtain ⟨o17a, o17b⟩ := (hv2_141 : In _ _ _); omega) (by obtain ⟨o0a, o0b⟩ := (hb155 : In _ _ _); obtain ⟨o1a, o1b⟩ := (hv3_141 : In _ _ _); obtain ⟨o2a, o2b⟩ := (hv4_141 : In _ _ _); obtain ⟨o3a, o3b⟩ := (hv5_141 : In _ _ _); obtain ⟨o4a, o4b⟩ := (hv6_141 : In _ _ _); obtain ⟨o5a, o5b⟩ := (hv9_141 : In _ _ _); obtain ⟨o6a, o6b⟩ := (hv13_141 : In _ _ _); obtain ⟨o7a, o7b⟩ := (hv14_141 : In _ _ _); obtain ⟨o8a, o8b⟩ := (hv15_141 : In _ _ _); obtain ⟨o9a, o9b⟩ := (hv17_141 : In _ _ _); obtain ⟨o10a, o10b⟩ := (hv20_141 : In _ _ _); obtain ⟨o11a, o11b⟩ := (hv23_141 : In _ _ _); obtain ⟨o12a, o12b⟩ := (hv36_141 : In _ _ _); obtain ⟨o13a, o13b⟩ := (hv47_141 : In _ _ _); obtain ⟨o14a, o14b⟩ := (hv48_141 : In _ _ _); obtain ⟨o15a, o15b⟩ := (hv53_141 : In _ _ _); obtain ⟨o16a, o16b⟩ := (hv55_141 : In _ _ _); obtain ⟨o17a, o17b⟩ := (hv2_141 : In _ _ _); omega)), (by simp [gset]), hv3_141, (by rw [hg3_141]; simp [gset]), hv4_141, (by rw [hg4_141]; simp [gset]), hv5_141, (by rw [hg5_141]; simp [gset]), hv6_141, (by rw [hg6_141]; simp [gset]), hv8_141, hv9_141, (by rw [hg9_141]; simp [gset]), hv12_141, hv13_141, (by rw [hg13_141]; simp [gset]), hv14_141, (by rw [hg14_141]; simp [gset]), hv15_141, (by rw [hg15_141]; simp [gset]), hv17_141, (by rw [hg17_141]; simp [gset]), hv20_141, (by rw [hg20_141]; simp [gset]), hv23_141, (by rw [hg23_141]; simp [gset]), hv25_141, hv36_141, (by rw [hg36_141]; simp [gset]), hv47_141, (by rw [hg47_141]; simp [gset]), hv48_141, (by rw [hg48_141]; simp [gset]), hv53_141, (by rw [hg53_141]; simp [gset]), hv55_141, (by rw [hg55_141]; simp [gset]), hrel0_141⟩ (fun q hq => ((gset_ne (fun e => hq (by subst e; decide))).trans rfl))
                  have hT : TI g ad (gset th 13 x154.toInt) f157 := TI.cast hT (by funext q; simp only [gset]; (repeat' split); all_goals first | rfl | omega | (subst_vars; rfl) | (exfalso; omega))
                  refine lv_goto (tgt := 3) hx hb dX11_brings_46 (by decide) ?_
                  refine lv_iload_n hx hb dX11_brings_3 rfl (lv_at hl 0 rfl) ?_
                  refine lv_if_lt (tgt := 49) hx hb dX11_brings_4 (by decide) (fun c161 => ?_) (fun c161 => ?_)
                  ·
                    have ocm8 : ((-8) : Int32).toInt = (-8) := by decide
                    have oc0 : (0 : Int32).toInt = 0 := by decide
                    have cc162 : ((-8) : Int32).toInt < (0 : Int32).toInt := i32_lt.mp c161
                    have hby163 : b1 z1 24 = 1 := b1_1 (by rw [show byS z1 24 = x5 by rw [ex5, ex4]; rfl]; exact c7)
                    have hby164 : b1 z1 16 = 1 := b1_1 (by rw [show byS z1 16 = x34 by rw [ex34, ex33]; rfl]; exact c36)
                    have hby165 : b1 z1 8 = 0 := b1_0 (by rw [show byS z1 8 = x61 by rw [ex61, ex60]; rfl]; exact c63)
                    have hby166 : b1 z1 0 = 1 := b1_1 (by rw [show byS z1 0 = x136 by rw [ex136, ex135]; rfl]; exact c138)
                    exact ret_v hx hb hr hlocks hP hD hS (Nat.le_of_ble_eq_true rfl) (Nat.le_of_ble_eq_true rfl) (⟨rfl, ⟨x154.toInt, (show x154.toInt = th 13 + nb z1 from (by omega)), TI.cast hT (by funext q; simp only [gset]; (repeat' split); all_goals first | rfl | omega | (subst_vars; rfl) | (exfalso; omega))⟩, hfr⟩) dX11_brings_49
                  ·
                    have ocm8 : ((-8) : Int32).toInt = (-8) := by decide
                    have oc0 : (0 : Int32).toInt = 0 := by decide
                    have cc167 : (0 : Int32).toInt ≤ ((-8) : Int32).toInt := i32_nlt c161
                    exact In.empty (lo := 0) (hi := (-8)) (In.ge1 (⟨by decide, by decide⟩ : In (-8) (-8) (-8)) (⟨by decide, by decide⟩ : In 0 0 0) cc167 (by omega) (by omega)) (by decide)
                ·
                  have oc0 : (0 : Int32).toInt = 0 := by decide
                  have cc168 : x136.toInt = (0 : Int32).toInt := congrArg Int32.toInt c138
                  have hb169 : In x136 0 0 := In.eq1 hb137 (⟨by decide, by decide⟩ : In 0 0 0) cc168 (by omega) (by omega)
                  refine lv_goto (tgt := 43) hx hb dX11_brings_19 (by decide) ?_
                  refine lv_iinc (v := (-8)) (lv' := [(2, .int (-8)), (3, .int x136), (0, .ref (ad 255)), (1, .int z1)]) hx hb dX11_brings_43 hl (k := 1) rfl (by decide) (by decide) rfl (fun ls hl => ?_)
                  refine lv_goto (tgt := 3) hx hb dX11_brings_46 (by decide) ?_
                  refine lv_iload_n hx hb dX11_brings_3 rfl (lv_at hl 0 rfl) ?_
                  refine lv_if_lt (tgt := 49) hx hb dX11_brings_4 (by decide) (fun c170 => ?_) (fun c170 => ?_)
                  ·
                    have ocm8 : ((-8) : Int32).toInt = (-8) := by decide
                    have oc0 : (0 : Int32).toInt = 0 := by decide
                    have cc171 : ((-8) : Int32).toInt < (0 : Int32).toInt := i32_lt.mp c170
                    have hby172 : b1 z1 24 = 1 := b1_1 (by rw [show byS z1 24 = x5 by rw [ex5, ex4]; rfl]; exact c7)
                    have hby173 : b1 z1 16 = 1 := b1_1 (by rw [show byS z1 16 = x34 by rw [ex34, ex33]; rfl]; exact c36)
                    have hby174 : b1 z1 8 = 0 := b1_0 (by rw [show byS z1 8 = x61 by rw [ex61, ex60]; rfl]; exact c63)
                    have hby175 : b1 z1 0 = 0 := b1_0 (by rw [show byS z1 0 = x136 by rw [ex136, ex135]; rfl]; exact c138)
                    exact ret_v hx hb hr hlocks hP hD hS (Nat.le_of_ble_eq_true rfl) (Nat.le_of_ble_eq_true rfl) (⟨rfl, ⟨x50.toInt, (show x50.toInt = th 13 + nb z1 from (by omega)), TI.cast hT (by funext q; simp only [gset]; (repeat' split); all_goals first | rfl | omega | (subst_vars; rfl) | (exfalso; omega))⟩, hfr⟩) dX11_brings_49
                  ·
                    have ocm8 : ((-8) : Int32).toInt = (-8) := by decide
                    have oc0 : (0 : Int32).toInt = 0 := by decide
                    have cc176 : (0 : Int32).toInt ≤ ((-8) : Int32).toInt := i32_nlt c170
                    exact In.empty (lo := 0) (hi := (-8)) (In.ge1 (⟨by decide, by decide⟩ : In (-8) (-8) (-8)) (⟨by decide, by decide⟩ : In 0 0 0) cc176 (by omega) (by omega)) (by decide)
        ·
          have oc0 : (0 : Int32).toInt = 0 := by decide
          have cc177 : x34.toInt = (0 : Int32).toInt := congrArg Int32.toInt c36
          have hb178 : In x34 0 0 := In.eq1 hb35 (⟨by decide, by decide⟩ : In 0 0 0) cc177 (by omega) (by omega)
          refine lv_goto (tgt := 43) hx hb dX11_brings_19 (by decide) ?_
          refine lv_iinc (v := 8) (lv' := [(2, .int 8), (3, .int x34), (0, .ref (ad 255)), (1, .int z1)]) hx hb dX11_brings_43 hl (k := 1) rfl (by decide) (by decide) rfl (fun ls hl => ?_)
          refine lv_goto (tgt := 3) hx hb dX11_brings_46 (by decide) ?_
          refine lv_iload_n hx hb dX11_brings_3 rfl (lv_at hl 0 rfl) ?_
          refine lv_if_lt (tgt := 49) hx hb dX11_brings_4 (by decide) (fun c179 => ?_) (fun c179 => ?_)
          ·
            have oc8 : (8 : Int32).toInt = 8 := by decide
            have oc0 : (0 : Int32).toInt = 0 := by decide
            have cc180 : (8 : Int32).toInt < (0 : Int32).toInt := i32_lt.mp c179
            exact In.empty (lo := 8) (hi := (-1)) (In.lt1 (⟨by decide, by decide⟩ : In 8 8 8) (⟨by decide, by decide⟩ : In 0 0 0) cc180 (by omega) (by omega)) (by decide)
          ·
            have oc8 : (8 : Int32).toInt = 8 := by decide
            have oc0 : (0 : Int32).toInt = 0 := by decide
            have cc181 : (0 : Int32).toInt ≤ (8 : Int32).toInt := i32_nlt c179
            refine lv_iload_n hx hb dX11_brings_7 rfl (lv_at hl 3 rfl) ?_
            refine lv_iload_n hx hb dX11_brings_8 rfl (lv_at hl 0 rfl) ?_
            refine lv_ishr hx hb dX11_brings_9 ?_
            refine lv_topi (fun x182 ex182 => ?_)
            refine lv_sipush (v := 255) hx hb dX11_brings_10 (by decide) ?_
            refine lv_iand hx hb dX11_brings_13 ?_
            refine lv_topi (fun x183 ex183 => ?_)
            have hb184 : In x183 0 255 := ex183 ▸ In.andr (⟨by decide, by decide⟩ : In 255 255 255) (by decide)
            refine lv_istore_n (lv' := [(3, .int x183), (2, .int 8), (0, .ref (ad 255)), (1, .int z1)]) hx hb dX11_brings_14 rfl hl (by decide) rfl (fun ls hl => ?_)
            refine lv_iload_n hx hb dX11_brings_15 rfl (lv_at hl 0 rfl) ?_
            refine lv_if_ne (tgt := 22) hx hb dX11_brings_16 (by decide) (fun c185 => ?_) (fun c185 => ?_)
            ·
              have oc0 : (0 : Int32).toInt = 0 := by decide
              have cc186 : x183.toInt ≠ (0 : Int32).toInt := i32_ne c185
              have hb187 : In x183 1 255 := In.ne1 hb184 (⟨by decide, by decide⟩ : In 0 0 0) cc186 (by omega) (by omega)
              refine lv_aload_n hx hb dX11_brings_22 rfl (lv_at hl 2 rfl) ?_
              obtain ⟨v0_188, v2_188, v3_188, v4_188, v5_188, v6_188, v8_188, v9_188, v12_188, v13_188, v14_188, v15_188, v16_188, v17_188, v18_188, v19_188, v20_188, v21_188, v22_188, v23_188, v25_188, v36_188, v37_188, v38_188, v39_188, v40_188, v45_188, v46_188, v47_188, v48_188, v50_188, v51_188, v53_188, v55_188, hf189, hv0_188, hv2_188, hg2_188, hv3_188, hg3_188, hv4_188, hg4_188, hv5_188, hg5_188, hv6_188, hg6_188, hv8_188, hv9_188, hg9_188, hv12_188, hv13_188, hg13_188, hv14_188, hg14_188, hv15_188, hg15_188, hv17_188, hg17_188, hv20_188, hg20_188, hv23_188, hg23_188, hv25_188, hv36_188, hg36_188, hv47_188, hg47_188, hv48_188, hg48_188, hv53_188, hg53_188, hv55_188, hg55_188, hrel0_188⟩ := hT.2.2 0 (by decide)
              have hg2_188 : v2_188.toInt = x23.toInt := hg2_188
              have hg3_188 : v3_188.toInt = th 37 := hg3_188
              have hg4_188 : v4_188.toInt = th 42 := hg4_188
              have hg5_188 : v5_188.toInt = th 40 := hg5_188
              have hg6_188 : v6_188.toInt = th 41 := hg6_188
              have hg9_188 : v9_188.toInt = th 35 := hg9_188
              have hg13_188 : v13_188.toInt = th 36 := hg13_188
              have hg14_188 : v14_188.toInt = th 10 := hg14_188
              have hg15_188 : v15_188.toInt = th 11 := hg15_188
              have hg17_188 : v17_188.toInt = th 12 := hg17_188
              have hg20_188 : v20_188.toInt = th 14 := hg20_188
              have hg23_188 : v23_188.toInt = th 15 := hg23_188
              have hg36_188 : v36_188.toInt = th 18 := hg36_188
              have hg47_188 : v47_188.toInt = th 16 := hg47_188
              have hg48_188 : v48_188.toInt = th 17 := hg48_188
              have hg53_188 : v53_188.toInt = th 38 := hg53_188
              have hg55_188 : v55_188.toInt = th 39 := hg55_188
              refine pl_get (v := .ref (ad 256)) hx hb hts (fun w h => mT (inX11 w h)) hown hG.1 hP (hst.1 255 (by decide)) hf189 rfl 1 (by decide) (hts _ (mT wg_1337)) (fun _ h => h) rfl dX11_brings_23 ?_
              refine lv_aload_n hx hb dX11_brings_26 rfl (lv_at hl 2 rfl) ?_
              refine pl_get (v := .int v2_188) hx hb hts (fun w h => mT (inX11 w h)) hown hG.1 hP (hst.1 255 (by decide)) hf189 rfl 2 (by decide) (hts _ (mT wg_1338)) (fun _ h => h) rfl dX11_brings_27 ?_
              refine lv_iload_n hx hb dX11_brings_30 rfl (lv_at hl 0 rfl) ?_
              refine lv_i2b hx hb dX11_brings_31 rfl ?_
              refine lv_topi (fun x190 ex190 => ?_)
              have hby191 : b1 z1 24 = 1 := b1_1 (by rw [show byS z1 24 = x5 by rw [ex5, ex4]; rfl]; exact c7)
              have hby192 : b1 z1 16 = 0 := b1_0 (by rw [show byS z1 16 = x34 by rw [ex34, ex33]; rfl]; exact c36)
              have hby193 : b1 z1 8 = 1 := b1_1 (by rw [show byS z1 8 = x183 by rw [ex183, ex182]; rfl]; exact c185)
              refine pl_bastE hx hb hG.1 hP hD hS (hst.1 256 (by decide)) 2 hf29 rfl (vp_of (by obtain ⟨o0a, o0b⟩ := (hv2_188 : In _ _ _); obtain ⟨o1a, o1b⟩ := (hv3_188 : In _ _ _); obtain ⟨o2a, o2b⟩ := (hv4_188 : In _ _ _); obtain ⟨o3a, o3b⟩ := (hv5_188 : In _ _ _); obtain ⟨o4a, o4b⟩ := (hv6_188 : In _ _ _); obtain ⟨o5a, o5b⟩ := (hv9_188 : In _ _ _); obtain ⟨o6a, o6b⟩ := (hv13_188 : In _ _ _); obtain ⟨o7a, o7b⟩ := (hv14_188 : In _ _ _); obtain ⟨o8a, o8b⟩ := (hv15_188 : In _ _ _); obtain ⟨o9a, o9b⟩ := (hv17_188 : In _ _ _); obtain ⟨o10a, o10b⟩ := (hv20_188 : In _ _ _); obtain ⟨o11a, o11b⟩ := (hv23_188 : In _ _ _); obtain ⟨o12a, o12b⟩ := (hv36_188 : In _ _ _); obtain ⟨o13a, o13b⟩ := (hv47_188 : In _ _ _); obtain ⟨o14a, o14b⟩ := (hv48_188 : In _ _ _); obtain ⟨o15a, o15b⟩ := (hv53_188 : In _ _ _); obtain ⟨o16a, o16b⟩ := (hv55_188 : In _ _ _); omega) (by obtain ⟨o0a, o0b⟩ := (hv2_188 : In _ _ _); obtain ⟨o1a, o1b⟩ := (hv3_188 : In _ _ _); obtain ⟨o2a, o2b⟩ := (hv4_188 : In _ _ _); obtain ⟨o3a, o3b⟩ := (hv5_188 : In _ _ _); obtain ⟨o4a, o4b⟩ := (hv6_188 : In _ _ _); obtain ⟨o5a, o5b⟩ := (hv9_188 : In _ _ _); obtain ⟨o6a, o6b⟩ := (hv13_188 : In _ _ _); obtain ⟨o7a, o7b⟩ := (hv14_188 : In _ _ _); obtain ⟨o8a, o8b⟩ := (hv15_188 : In _ _ _); obtain ⟨o9a, o9b⟩ := (hv17_188 : In _ _ _); obtain ⟨o10a, o10b⟩ := (hv20_188 : In _ _ _); obtain ⟨o11a, o11b⟩ := (hv23_188 : In _ _ _); obtain ⟨o12a, o12b⟩ := (hv36_188 : In _ _ _); obtain ⟨o13a, o13b⟩ := (hv47_188 : In _ _ _); obtain ⟨o14a, o14b⟩ := (hv48_188 : In _ _ _); obtain ⟨o15a, o15b⟩ := (hv53_188 : In _ _ _); obtain ⟨o16a, o16b⟩ := (hv55_188 : In _ _ _); omega)) dX11_brings_32 (fun H locs f194 r197 er197 hf195 ho196 hP hD hS => ?_)
              have hc198 : ∀ i : Nat, i < 500 → In (r197 i) (-128) 127 := cont_upd er197 hc21 (nar_byte _)
              have hf199 := (ho196 (ad 255) (hst.ne (by decide) (by decide) (by decide))).trans hf189
              have hfr : (∀ b, b ≠ (ad 255) → b ≠ (ad 256) → f194 b = f b) := fun b z0_ z1_ => (ho196 b z1_).trans (hfr b z0_ z1_)
              refine lv_aload_n hx hb dX11_brings_33 rfl (lv_at hl 2 rfl) ?_
              refine lv_dup hx hb dX11_brings_34 rfl ?_
              refine pl_get (v := .int v2_188) hx hb hts (fun w h => mT (inX11 w h)) hown hG.1 hP (hst.1 255 (by decide)) hf199 rfl 2 (by decide) (hts _ (mT wg_1338)) (fun _ h => h) rfl dX11_brings_35 ?_
              refine lv_iconst (v := 1) hx hb dX11_brings_38 (by decide) ?_
              refine lv_iadd hx hb dX11_brings_39 ?_
              refine lv_topi (fun x200 ex200 => ?_)
              have hb201 : In x200 1 501 := ex200 ▸ In.add hv2_188 (⟨by decide, by decide⟩ : In 1 1 1) (by decide) (by decide) (by decide) (by decide)
              have et202 : x200.toInt = v2_188.toInt + 1 := In.adde ex200 hv2_188 (k := 1) (by decide) (by decide) (by decide)
              have hT := TI.updM hT hst (k := 1) (by decide) hf195 ho196 ⟨r197, rfl, hc198⟩
              refine pl_put (ty := .int) (v := .int x200) (fs' := [.int v0_188, .ref (ad 256), .int x200, .int v3_188, .int v4_188, .int v5_188, .int v6_188, .ref (ad 257), .int v8_188, .int v9_188, .ref (ad 258), .ref (ad 259), .int v12_188, .int v13_188, .int v14_188, .int v15_188, .int v16_188, .int v17_188, .int v18_188, .int v19_188, .int v20_188, .long v21_188, .long v22_188, .int v23_188, .ref (ad 260), .int v25_188, .ref (ad 261), .ref (ad 262), .ref (ad 263), .ref (ad 264), .ref (ad 265), .ref (ad 266), .ref (ad 267), .ref (ad 268), .ref (ad 269), .ref (ad 270), .int v36_188, .int v37_188, .int v38_188, .int v39_188, .int v40_188, .ref (ad 271), .ref (ad 272), .ref (ad 273), .ref (ad 274), .long v45_188, .long v46_188, .int v47_188, .int v48_188, .ref (ad 275), .int v50_188, .int v51_188, .ref (ad 276), .int v53_188, .ref (ad 277), .int v55_188]) hx hb hts (fun w h => mT (inX11 w h)) tyX11 tyX11_ok nmX11 hown hG.1 hP hD hS (hst.1 255 (by decide)) hf199 rfl 2 (by decide) (hts _ (mT wg_1338)) (fun _ h => h) rfl (by decide +kernel) (rfl) (rfl) (Nat.le_of_ble_eq_true rfl) rfl dX11_brings_40 (fun H locs f203 hf204 ho205 hP hD hS => ?_)
              have hf206 := (ho205 (ad 256) (hst.ne (by decide) (by decide) (by decide))).trans hf195
              have hfr : (∀ b, b ≠ (ad 255) → b ≠ (ad 256) → f203 b = f b) := fun b z0_ z1_ => (ho205 b z0_).trans (hfr b z0_ z1_)
              refine lv_iinc (v := 0) (lv' := [(2, .int 0), (3, .int x183), (0, .ref (ad 255)), (1, .int z1)]) hx hb dX11_brings_43 hl (k := 1) rfl (by decide) (by decide) rfl (fun ls hl => ?_)
              have hT := TI.updMG (th' := (gset (gset th 13 x23.toInt) 13 (x200.toInt))) hT hst (k := 0) (by decide) hf204 ho205 ⟨v0_188, x200, v3_188, v4_188, v5_188, v6_188, v8_188, v9_188, v12_188, v13_188, v14_188, v15_188, v16_188, v17_188, v18_188, v19_188, v20_188, v21_188, v22_188, v23_188, v25_188, v36_188, v37_188, v38_188, v39_188, v40_188, v45_188, v46_188, v47_188, v48_188, v50_188, v51_188, v53_188, v55_188, rfl, hv0_188, (In.mk (by obtain ⟨o0a, o0b⟩ := (hb201 : In _ _ _); obtain ⟨o1a, o1b⟩ := (hv3_188 : In _ _ _); obtain ⟨o2a, o2b⟩ := (hv4_188 : In _ _ _); obtain ⟨o3a, o3b⟩ := (hv5_188 : In _ _ _); obtain ⟨o4a, o4b⟩ := (hv6_188 : In _ _ _); obtain ⟨o5a, o5b⟩ := (hv9_188 : In _ _ _); obtain ⟨o6a, o6b⟩ := (hv13_188 : In _ _ _); obtain ⟨o7a, o7b⟩ := (hv14_188 : In _ _ _); obtain ⟨o8a, o8b⟩ := (hv15_188 : In _ _ _); obtain ⟨o9a, o9b⟩ := (hv17_188 : In _ _ _); obtain ⟨o10a, o10b⟩ := (hv20_188 : In _ _ _); obtain ⟨o11a, o11b⟩ := (hv23_188 : In _ _ _); obtain ⟨o12a, o12b⟩ := (hv36_188 : In _ _ _); obtain ⟨o13a, o13b⟩ := (hv47_188 : In _ _ _); obtain ⟨o14a, o14b⟩ := (hv48_188 : In _ _ _); obtain ⟨o15a, o15b⟩ := (hv53_188 : In _ _ _); obtain ⟨o16a, o16b⟩ := (hv55_188 : In _ _ _); obtain ⟨o17a, o17b⟩ := (hv2_188 : In _ _ _); omega) (by obtain ⟨o0a, o0b⟩ := (hb201 : In _ _ _); obtain ⟨o1a, o1b⟩ := (hv3_188 : In _ _ _); obtain ⟨o2a, o2b⟩ := (hv4_188 : In _ _ _); obtain ⟨o3a, o3b⟩ := (hv5_188 : In _ _ _); obtain ⟨o4a, o4b⟩ := (hv6_188 : In _ _ _); obtain ⟨o5a, o5b⟩ := (hv9_188 : In _ _ _); obtain ⟨o6a, o6b⟩ := (hv13_188 : In _ _ _); obtain ⟨o7a, o7b⟩ := (hv14_188 : In _ _ _); obtain ⟨o8a, o8b⟩ := (hv15_188 : In _ _ _); obtain ⟨o9a, o9b⟩ := (hv17_188 : In _ _ _); obtain ⟨o10a, o10b⟩ := (hv20_188 : In _ _ _); obtain ⟨o11a, o11b⟩ := (hv23_188 : In _ _ _); obtain ⟨o12a, o12b⟩ := (hv36_188 : In _ _ _); obtain ⟨o13a, o13b⟩ := (hv47_188 : In _ _ _); obtain ⟨o14a, o14b⟩ := (hv48_188 : In _ _ _); obtain ⟨o15a, o15b⟩ := (hv53_188 : In _ _ _); obtain ⟨o16a, o16b⟩ := (hv55_188 : In _ _ _); obtain ⟨o17a, o17b⟩ := (hv2_188 : In _ _ _); omega)), (by simp [gset]), hv3_188, (by rw [hg3_188]; simp [gset]), hv4_188, (by rw [hg4_188]; simp [gset]), hv5_188, (by rw [hg5_188]; simp [gset]), hv6_188, (by rw [hg6_188]; simp [gset]), hv8_188, hv9_188, (by rw [hg9_188]; simp [gset]), hv12_188, hv13_188, (by rw [hg13_188]; simp [gset]), hv14_188, (by rw [hg14_188]; simp [gset]), hv15_188, (by rw [hg15_188]; simp [gset]), hv17_188, (by rw [hg17_188]; simp [gset]), hv20_188, (by rw [hg20_188]; simp [gset]), hv23_188, (by rw [hg23_188]; simp [gset]), hv25_188, hv36_188, (by rw [hg36_188]; simp [gset]), hv47_188, (by rw [hg47_188]; simp [gset]), hv48_188, (by rw [hg48_188]; simp [gset]), hv53_188, (by rw [hg53_188]; simp [gset]), hv55_188, (by rw [hg55_188]; simp [gset]), hrel0_188⟩ (fun q hq => ((gset_ne (fun e => hq (by subst e; decide))).trans rfl))
              have hT : TI g ad (gset th 13 x200.toInt) f203 := TI.cast hT (by funext q; simp only [gset]; (repeat' split); all_goals first | rfl | omega | (subst_vars; rfl) | (exfalso; omega))
              refine lv_goto (tgt := 3) hx hb dX11_brings_46 (by decide) ?_
              refine lv_iload_n hx hb dX11_brings_3 rfl (lv_at hl 0 rfl) ?_
              refine lv_if_lt (tgt := 49) hx hb dX11_brings_4 (by decide) (fun c207 => ?_) (fun c207 => ?_)
              ·
                have oc0 : (0 : Int32).toInt = 0 := by decide
                have oc0 : (0 : Int32).toInt = 0 := by decide
                have cc208 : (0 : Int32).toInt < (0 : Int32).toInt := i32_lt.mp c207
                exact In.empty (lo := 0) (hi := (-1)) (In.lt1 (⟨by decide, by decide⟩ : In 0 0 0) (⟨by decide, by decide⟩ : In 0 0 0) cc208 (by omega) (by omega)) (by decide)
              ·
                have oc0 : (0 : Int32).toInt = 0 := by decide
                have oc0 : (0 : Int32).toInt = 0 := by decide
                have cc209 : (0 : Int32).toInt ≤ (0 : Int32).toInt := i32_nlt c207
                refine lv_iload_n hx hb dX11_brings_7 rfl (lv_at hl 3 rfl) ?_
                refine lv_iload_n hx hb dX11_brings_8 rfl (lv_at hl 0 rfl) ?_
                refine lv_ishr hx hb dX11_brings_9 ?_
                refine lv_topi (fun x210 ex210 => ?_)
                refine lv_sipush (v := 255) hx hb dX11_brings_10 (by decide) ?_
                refine lv_iand hx hb dX11_brings_13 ?_
                refine lv_topi (fun x211 ex211 => ?_)
                have hb212 : In x211 0 255 := ex211 ▸ In.andr (⟨by decide, by decide⟩ : In 255 255 255) (by decide)
                refine lv_istore_n (lv' := [(3, .int x211), (2, .int 0), (0, .ref (ad 255)), (1, .int z1)]) hx hb dX11_brings_14 rfl hl (by decide) rfl (fun ls hl => ?_)
                refine lv_iload_n hx hb dX11_brings_15 rfl (lv_at hl 0 rfl) ?_
                refine lv_if_ne (tgt := 22) hx hb dX11_brings_16 (by decide) (fun c213 => ?_) (fun c213 => ?_)
                ·
                  have oc0 : (0 : Int32).toInt = 0 := by decide
                  have cc214 : x211.toInt ≠ (0 : Int32).toInt := i32_ne c213
                  have hb215 : In x211 1 255 := In.ne1 hb212 (⟨by decide, by decide⟩ : In 0 0 0) cc214 (by omega) (by omega)
                  refine lv_aload_n hx hb dX11_brings_22 rfl (lv_at hl 2 rfl) ?_
                  obtain ⟨v0_216, v2_216, v3_216, v4_216, v5_216, v6_216, v8_216, v9_216, v12_216, v13_216, v14_216, v15_216, v16_216, v17_216, v18_216, v19_216, v20_216, v21_216, v22_216, v23_216, v25_216, v36_216, v37_216, v38_216, v39_216, v40_216, v45_216, v46_216, v47_216, v48_216, v50_216, v51_216, v53_216, v55_216, hf217, hv0_216, hv2_216, hg2_216, hv3_216, hg3_216, hv4_216, hg4_216, hv5_216, hg5_216, hv6_216, hg6_216, hv8_216, hv9_216, hg9_216, hv12_216, hv13_216, hg13_216, hv14_216, hg14_216, hv15_216, hg15_216, hv17_216, hg17_216, hv20_216, hg20_216, hv23_216, hg23_216, hv25_216, hv36_216, hg36_216, hv47_216, hg47_216, hv48_216, hg48_216, hv53_216, hg53_216, hv55_216, hg55_216, hrel0_216⟩ := hT.2.2 0 (by decide)
                  have hg2_216 : v2_216.toInt = x200.toInt := hg2_216
                  have hg3_216 : v3_216.toInt = th 37 := hg3_216
                  have hg4_216 : v4_216.toInt = th 42 := hg4_216
                  have hg5_216 : v5_216.toInt = th 40 := hg5_216
                  have hg6_216 : v6_216.toInt = th 41 := hg6_216
                  have hg9_216 : v9_216.toInt = th 35 := hg9_216
                  have hg13_216 : v13_216.toInt = th 36 := hg13_216
                  have hg14_216 : v14_216.toInt = th 10 := hg14_216
                  have hg15_216 : v15_216.toInt = th 11 := hg15_216
                  have hg17_216 : v17_216.toInt = th 12 := hg17_216
                  have hg20_216 : v20_216.toInt = th 14 := hg20_216
                  have hg23_216 : v23_216.toInt = th 15 := hg23_216
                  have hg36_216 : v36_216.toInt = th 18 := hg36_216
                  have hg47_216 : v47_216.toInt = th 16 := hg47_216
                  have hg48_216 : v48_216.toInt = th 17 := hg48_216
                  have hg53_216 : v53_216.toInt = th 38 := hg53_216
                  have hg55_216 : v55_216.toInt = th 39 := hg55_216
                  refine pl_get (v := .ref (ad 256)) hx hb hts (fun w h => mT (inX11 w h)) hown hG.1 hP (hst.1 255 (by decide)) hf217 rfl 1 (by decide) (hts _ (mT wg_1337)) (fun _ h => h) rfl dX11_brings_23 ?_
                  refine lv_aload_n hx hb dX11_brings_26 rfl (lv_at hl 2 rfl) ?_
                  refine pl_get (v := .int v2_216) hx hb hts (fun w h => mT (inX11 w h)) hown hG.1 hP (hst.1 255 (by decide)) hf217 rfl 2 (by decide) (hts _ (mT wg_1338)) (fun _ h => h) rfl dX11_brings_27 ?_
                  refine lv_iload_n hx hb dX11_brings_30 rfl (lv_at hl 0 rfl) ?_
                  refine lv_i2b hx hb dX11_brings_31 rfl ?_
                  refine lv_topi (fun x218 ex218 => ?_)
                  have hby219 : b1 z1 24 = 1 := b1_1 (by rw [show byS z1 24 = x5 by rw [ex5, ex4]; rfl]; exact c7)
                  have hby220 : b1 z1 16 = 0 := b1_0 (by rw [show byS z1 16 = x34 by rw [ex34, ex33]; rfl]; exact c36)
                  have hby221 : b1 z1 8 = 1 := b1_1 (by rw [show byS z1 8 = x183 by rw [ex183, ex182]; rfl]; exact c185)
                  have hby222 : b1 z1 0 = 1 := b1_1 (by rw [show byS z1 0 = x211 by rw [ex211, ex210]; rfl]; exact c213)
                  refine pl_bastE hx hb hG.1 hP hD hS (hst.1 256 (by decide)) 2 hf206 rfl (vp_of (by obtain ⟨o0a, o0b⟩ := (hv2_216 : In _ _ _); obtain ⟨o1a, o1b⟩ := (hv3_216 : In _ _ _); obtain ⟨o2a, o2b⟩ := (hv4_216 : In _ _ _); obtain ⟨o3a, o3b⟩ := (hv5_216 : In _ _ _); obtain ⟨o4a, o4b⟩ := (hv6_216 : In _ _ _); obtain ⟨o5a, o5b⟩ := (hv9_216 : In _ _ _); obtain ⟨o6a, o6b⟩ := (hv13_216 : In _ _ _); obtain ⟨o7a, o7b⟩ := (hv14_216 : In _ _ _); obtain ⟨o8a, o8b⟩ := (hv15_216 : In _ _ _); obtain ⟨o9a, o9b⟩ := (hv17_216 : In _ _ _); obtain ⟨o10a, o10b⟩ := (hv20_216 : In _ _ _); obtain ⟨o11a, o11b⟩ := (hv23_216 : In _ _ _); obtain ⟨o12a, o12b⟩ := (hv36_216 : In _ _ _); obtain ⟨o13a, o13b⟩ := (hv47_216 : In _ _ _); obtain ⟨o14a, o14b⟩ := (hv48_216 : In _ _ _); obtain ⟨o15a, o15b⟩ := (hv53_216 : In _ _ _); obtain ⟨o16a, o16b⟩ := (hv55_216 : In _ _ _); omega) (by obtain ⟨o0a, o0b⟩ := (hv2_216 : In _ _ _); obtain ⟨o1a, o1b⟩ := (hv3_216 : In _ _ _); obtain ⟨o2a, o2b⟩ := (hv4_216 : In _ _ _); obtain ⟨o3a, o3b⟩ := (hv5_216 : In _ _ _); obtain ⟨o4a, o4b⟩ := (hv6_216 : In _ _ _); obtain ⟨o5a, o5b⟩ := (hv9_216 : In _ _ _); obtain ⟨o6a, o6b⟩ := (hv13_216 : In _ _ _); obtain ⟨o7a, o7b⟩ := (hv14_216 : In _ _ _); obtain ⟨o8a, o8b⟩ := (hv15_216 : In _ _ _); obtain ⟨o9a, o9b⟩ := (hv17_216 : In _ _ _); obtain ⟨o10a, o10b⟩ := (hv20_216 : In _ _ _); obtain ⟨o11a, o11b⟩ := (hv23_216 : In _ _ _); obtain ⟨o12a, o12b⟩ := (hv36_216 : In _ _ _); obtain ⟨o13a, o13b⟩ := (hv47_216 : In _ _ _); obtain ⟨o14a, o14b⟩ := (hv48_216 : In _ _ _); obtain ⟨o15a, o15b⟩ := (hv53_216 : In _ _ _); obtain ⟨o16a, o16b⟩ := (hv55_216 : In _ _ _); omega)) dX11_brings_32 (fun H locs f223 r226 er226 hf224 ho225 hP hD hS => ?_)
                  have hc227 : ∀ i : Nat, i < 500 → In (r226 i) (-128) 127 := cont_upd er226 hc198 (nar_byte _)
                  have hf228 := (ho225 (ad 255) (hst.ne (by decide) (by decide) (by decide))).trans hf217
                  have hfr : (∀ b, b ≠ (ad 255) → b ≠ (ad 256) → f223 b = f b) := fun b z0_ z1_ => (ho225 b z1_).trans (hfr b z0_ z1_)
                  refine lv_aload_n hx hb dX11_brings_33 rfl (lv_at hl 2 rfl) ?_
                  refine lv_dup hx hb dX11_brings_34 rfl ?_
                  refine pl_get (v := .int v2_216) hx hb hts (fun w h => mT (inX11 w h)) hown hG.1 hP (hst.1 255 (by decide)) hf228 rfl 2 (by decide) (hts _ (mT wg_1338)) (fun _ h => h) rfl dX11_brings_35 ?_
                  refine lv_iconst (v := 1) hx hb dX11_brings_38 (by decide) ?_
                  refine lv_iadd hx hb dX11_brings_39 ?_
                  refine lv_topi (fun x229 ex229 => ?_)
                  have hb230 : In x229 1 501 := ex229 ▸ In.add hv2_216 (⟨by decide, by decide⟩ : In 1 1 1) (by decide) (by decide) (by decide) (by decide)
                  have et231 : x229.toInt = v2_216.toInt + 1 := In.adde ex229 hv2_216 (k := 1) (by decide) (by decide) (by decide)
                  have hT := TI.updM hT hst (k := 1) (by decide) hf224 ho225 ⟨r226, rfl, hc227⟩
                  refine pl_put (ty := .int) (v := .int x229) (fs' := [.int v0_216, .ref (ad 256), .int x229, .int v3_216, .int v4_216, .int v5_216, .int v6_216, .ref (ad 257), .int v8_216, .int v9_216, .ref (ad 258), .ref (ad 259), .int v12_216, .int v13_216, .int v14_216, .int v15_216, .int v16_216, .int v17_216, .int v18_216, .int v19_216, .int v20_216, .long v21_216, .long v22_216, .int v23_216, .ref (ad 260), .int v25_216, .ref (ad 261), .ref (ad 262), .ref (ad 263), .ref (ad 264), .ref (ad 265), .ref (ad 266), .ref (ad 267), .ref (ad 268), .ref (ad 269), .ref (ad 270), .int v36_216, .int v37_216, .int v38_216, .int v39_216, .int v40_216, .ref (ad 271), .ref (ad 272), .ref (ad 273), .ref (ad 274), .long v45_216, .long v46_216, .int v47_216, .int v48_216, .ref (ad 275), .int v50_216, .int v51_216, .ref (ad 276), .int v53_216, .ref (ad 277), .int v55_216]) hx hb hts (fun w h => mT (inX11 w h)) tyX11 tyX11_ok nmX11 hown hG.1 hP hD hS (hst.1 255 (by decide)) hf228 rfl 2 (by decide) (hts _ (mT wg_1338)) (fun _ h => h) rfl (by decide +kernel) (rfl) (rfl) (Nat.le_of_ble_eq_true rfl) rfl dX11_brings_40 (fun H locs f232 hf233 ho234 hP hD hS => ?_)
                  have hf235 := (ho234 (ad 256) (hst.ne (by decide) (by decide) (by decide))).trans hf224
                  have hfr : (∀ b, b ≠ (ad 255) → b ≠ (ad 256) → f232 b = f b) := fun b z0_ z1_ => (ho234 b z0_).trans (hfr b z0_ z1_)
                  refine lv_iinc (v := (-8)) (lv' := [(2, .int (-8)), (3, .int x211), (0, .ref (ad 255)), (1, .int z1)]) hx hb dX11_brings_43 hl (k := 1) rfl (by decide) (by decide) rfl (fun ls hl => ?_)
                  have hT := TI.updMG (th' := (gset (gset th 13 x200.toInt) 13 (x229.toInt))) hT hst (k := 0) (by decide) hf233 ho234 ⟨v0_216, x229, v3_216, v4_216, v5_216, v6_216, v8_216, v9_216, v12_216, v13_216, v14_216, v15_216, v16_216, v17_216, v18_216, v19_216, v20_216, v21_216, v22_216, v23_216, v25_216, v36_216, v37_216, v38_216, v39_216, v40_216, v45_216, v46_216, v47_216, v48_216, v50_216, v51_216, v53_216, v55_216, rfl, hv0_216, (In.mk (by obtain ⟨o0a, o0b⟩ := (hb230 : In _ _ _); obtain ⟨o1a, o1b⟩ := (hv3_216 : In _ _ _); obtain ⟨o2a, o2b⟩ := (hv4_216 : In _ _ _); obtain ⟨o3a, o3b⟩ := (hv5_216 : In _ _ _); obtain ⟨o4a, o4b⟩ := (hv6_216 : In _ _ _); obtain ⟨o5a, o5b⟩ := (hv9_216 : In _ _ _); obtain ⟨o6a, o6b⟩ := (hv13_216 : In _ _ _); obtain ⟨o7a, o7b⟩ := (hv14_216 : In _ _ _); obtain ⟨o8a, o8b⟩ := (hv15_216 : In _ _ _); obtain ⟨o9a, o9b⟩ := (hv17_216 : In _ _ _); obtain ⟨o10a, o10b⟩ := (hv20_216 : In _ _ _); obtain ⟨o11a, o11b⟩ := (hv23_216 : In _ _ _); obtain ⟨o12a, o12b⟩ := (hv36_216 : In _ _ _); obtain ⟨o13a, o13b⟩ := (hv47_216 : In _ _ _); obtain ⟨o14a, o14b⟩ := (hv48_216 : In _ _ _); obtain ⟨o15a, o15b⟩ := (hv53_216 : In _ _ _); obtain ⟨o16a, o16b⟩ := (hv55_216 : In _ _ _); obtain ⟨o17a, o17b⟩ := (hv2_216 : In _ _ _); omega) (by obtain ⟨o0a, o0b⟩ := (hb230 : In _ _ _); obtain ⟨o1a, o1b⟩ := (hv3_216 : In _ _ _); obtain ⟨o2a, o2b⟩ := (hv4_216 : In _ _ _); obtain ⟨o3a, o3b⟩ := (hv5_216 : In _ _ _); obtain ⟨o4a, o4b⟩ := (hv6_216 : In _ _ _); obtain ⟨o5a, o5b⟩ := (hv9_216 : In _ _ _); obtain ⟨o6a, o6b⟩ := (hv13_216 : In _ _ _); obtain ⟨o7a, o7b⟩ := (hv14_216 : In _ _ _); obtain ⟨o8a, o8b⟩ := (hv15_216 : In _ _ _); obtain ⟨o9a, o9b⟩ := (hv17_216 : In _ _ _); obtain ⟨o10a, o10b⟩ := (hv20_216 : In _ _ _); obtain ⟨o11a, o11b⟩ := (hv23_216 : In _ _ _); obtain ⟨o12a, o12b⟩ := (hv36_216 : In _ _ _); obtain ⟨o13a, o13b⟩ := (hv47_216 : In _ _ _); obtain ⟨o14a, o14b⟩ := (hv48_216 : In _ _ _); obtain ⟨o15a, o15b⟩ := (hv53_216 : In _ _ _); obtain ⟨o16a, o16b⟩ := (hv55_216 : In _ _ _); obtain ⟨o17a, o17b⟩ := (hv2_216 : In _ _ _); omega)), (by simp [gset]), hv3_216, (by rw [hg3_216]; simp [gset]), hv4_216, (by rw [hg4_216]; simp [gset]), hv5_216, (by rw [hg5_216]; simp [gset]), hv6_216, (by rw [hg6_216]; simp [gset]), hv8_216, hv9_216, (by rw [hg9_216]; simp [gset]), hv12_216, hv13_216, (by rw [hg13_216]; simp [gset]), hv14_216, (by rw [hg14_216]; simp [gset]), hv15_216, (by rw [hg15_216]; simp [gset]), hv17_216, (by rw [hg17_216]; simp [gset]), hv20_216, (by rw [hg20_216]; simp [gset]), hv23_216, (by rw [hg23_216]; simp [gset]), hv25_216, hv36_216, (by rw [hg36_216]; simp [gset]), hv47_216, (by rw [hg47_216]; simp [gset]), hv48_216, (by rw [hg48_216]; simp [gset]), hv53_216, (by rw [hg53_216]; simp [gset]), hv55_216, (by rw [hg55_216]; simp [gset]), hrel0_216⟩ (fun q hq => ((gset_ne (fun e => hq (by subst e; decide))).trans rfl))
                  have hT : TI g ad (gset th 13 x229.toInt) f232 := TI.cast hT (by funext q; simp only [gset]; (repeat' split); all_goals first | rfl | omega | (subst_vars; rfl) | (exfalso; omega))
                  refine lv_goto (tgt := 3) hx hb dX11_brings_46 (by decide) ?_
                  refine lv_iload_n hx hb dX11_brings_3 rfl (lv_at hl 0 rfl) ?_
                  refine lv_if_lt (tgt := 49) hx hb dX11_brings_4 (by decide) (fun c236 => ?_) (fun c236 => ?_)
                  ·
                    have ocm8 : ((-8) : Int32).toInt = (-8) := by decide
                    have oc0 : (0 : Int32).toInt = 0 := by decide
                    have cc237 : ((-8) : Int32).toInt < (0 : Int32).toInt := i32_lt.mp c236
                    have hby238 : b1 z1 24 = 1 := b1_1 (by rw [show byS z1 24 = x5 by rw [ex5, ex4]; rfl]; exact c7)
                    have hby239 : b1 z1 16 = 0 := b1_0 (by rw [show byS z1 16 = x34 by rw [ex34, ex33]; rfl]; exact c36)
                    have hby240 : b1 z1 8 = 1 := b1_1 (by rw [show byS z1 8 = x183 by rw [ex183, ex182]; rfl]; exact c185)
                    have hby241 : b1 z1 0 = 1 := b1_1 (by rw [show byS z1 0 = x211 by rw [ex211, ex210]; rfl]; exact c213)
                    exact ret_v hx hb hr hlocks hP hD hS (Nat.le_of_ble_eq_true rfl) (Nat.le_of_ble_eq_true rfl) (⟨rfl, ⟨x229.toInt, (show x229.toInt = th 13 + nb z1 from (by omega)), TI.cast hT (by funext q; simp only [gset]; (repeat' split); all_goals first | rfl | omega | (subst_vars; rfl) | (exfalso; omega))⟩, hfr⟩) dX11_brings_49
                  ·
                    have ocm8 : ((-8) : Int32).toInt = (-8) := by decide
                    have oc0 : (0 : Int32).toInt = 0 := by decide
                    have cc242 : (0 : Int32).toInt ≤ ((-8) : Int32).toInt := i32_nlt c236
                    exact In.empty (lo := 0) (hi := (-8)) (In.ge1 (⟨by decide, by decide⟩ : In (-8) (-8) (-8)) (⟨by decide, by decide⟩ : In 0 0 0) cc242 (by omega) (by omega)) (by decide)
                ·
                  have oc0 : (0 : Int32).toInt = 0 := by decide
                  have cc243 : x211.toInt = (0 : Int32).toInt := congrArg Int32.toInt c213
                  have hb244 : In x211 0 0 := In.eq1 hb212 (⟨by decide, by decide⟩ : In 0 0 0) cc243 (by omega) (by omega)
                  refine lv_goto (tgt := 43) hx hb dX11_brings_19 (by decide) ?_
                  refine lv_iinc (v := (-8)) (lv' := [(2, .int (-8)), (3, .int x211), (0, .ref (ad 255)), (1, .int z1)]) hx hb dX11_brings_43 hl (k := 1) rfl (by decide) (by decide) rfl (fun ls hl => ?_)
                  refine lv_goto (tgt := 3) hx hb dX11_brings_46 (by decide) ?_
                  refine lv_iload_n hx hb dX11_brings_3 rfl (lv_at hl 0 rfl) ?_
                  refine lv_if_lt (tgt := 49) hx hb dX11_brings_4 (by decide) (fun c245 => ?_) (fun c245 => ?_)
                  ·
                    have ocm8 : ((-8) : Int32).toInt = (-8) := by decide
                    have oc0 : (0 : Int32).toInt = 0 := by decide
                    have cc246 : ((-8) : Int32).toInt < (0 : Int32).toInt := i32_lt.mp c245
                    have hby247 : b1 z1 24 = 1 := b1_1 (by rw [show byS z1 24 = x5 by rw [ex5, ex4]; rfl]; exact c7)
                    have hby248 : b1 z1 16 = 0 := b1_0 (by rw [show byS z1 16 = x34 by rw [ex34, ex33]; rfl]; exact c36)
                    have hby249 : b1 z1 8 = 1 := b1_1 (by rw [show byS z1 8 = x183 by rw [ex183, ex182]; rfl]; exact c185)
                    have hby250 : b1 z1 0 = 0 := b1_0 (by rw [show byS z1 0 = x211 by rw [ex211, ex210]; rfl]; exact c213)
                    exact ret_v hx hb hr hlocks hP hD hS (Nat.le_of_ble_eq_true rfl) (Nat.le_of_ble_eq_true rfl) (⟨rfl, ⟨x200.toInt, (show x200.toInt = th 13 + nb z1 from (by omega)), TI.cast hT (by funext q; simp only [gset]; (repeat' split); all_goals first | rfl | omega | (subst_vars; rfl) | (exfalso; omega))⟩, hfr⟩) dX11_brings_49
                  ·
                    have ocm8 : ((-8) : Int32).toInt = (-8) := by decide
                    have oc0 : (0 : Int32).toInt = 0 := by decide
                    have cc251 : (0 : Int32).toInt ≤ ((-8) : Int32).toInt := i32_nlt c245
                    exact In.empty (lo := 0) (hi := (-8)) (In.ge1 (⟨by decide, by decide⟩ : In (-8) (-8) (-8)) (⟨by decide, by decide⟩ : In 0 0 0) cc251 (by omega) (by omega)) (by decide)
            ·
              have oc0 : (0 : Int32).toInt = 0 := by decide
              have cc252 : x183.toInt = (0 : Int32).toInt := congrArg Int32.toInt c185
              have hb253 : In x183 0 0 := In.eq1 hb184 (⟨by decide, by decide⟩ : In 0 0 0) cc252 (by omega) (by omega)
              refine lv_goto (tgt := 43) hx hb dX11_brings_19 (by decide) ?_
              refine lv_iinc (v := 0) (lv' := [(2, .int 0), (3, .int x183), (0, .ref (ad 255)), (1, .int z1)]) hx hb dX11_brings_43 hl (k := 1) rfl (by decide) (by decide) rfl (fun ls hl => ?_)
              refine lv_goto (tgt := 3) hx hb dX11_brings_46 (by decide) ?_
              refine lv_iload_n hx hb dX11_brings_3 rfl (lv_at hl 0 rfl) ?_
              refine lv_if_lt (tgt := 49) hx hb dX11_brings_4 (by decide) (fun c254 => ?_) (fun c254 => ?_)
              ·
                have oc0 : (0 : Int32).toInt = 0 := by decide
                have oc0 : (0 : Int32).toInt = 0 := by decide
                have cc255 : (0 : Int32).toInt < (0 : Int32).toInt := i32_lt.mp c254
                exact In.empty (lo := 0) (hi := (-1)) (In.lt1 (⟨by decide, by decide⟩ : In 0 0 0) (⟨by decide, by decide⟩ : In 0 0 0) cc255 (by omega) (by omega)) (by decide)
              ·
                have oc0 : (0 : Int32).toInt = 0 := by decide
                have oc0 : (0 : Int32).toInt = 0 := by decide
                have cc256 : (0 : Int32).toInt ≤ (0 : Int32).toInt := i32_nlt c254
                refine lv_iload_n hx hb dX11_brings_7 rfl (lv_at hl 3 rfl) ?_
                refine lv_iload_n hx hb dX11_brings_8 rfl (lv_at hl 0 rfl) ?_
                refine lv_ishr hx hb dX11_brings_9 ?_
                refine lv_topi (fun x257 ex257 => ?_)
                refine lv_sipush (v := 255) hx hb dX11_brings_10 (by decide) ?_
                refine lv_iand hx hb dX11_brings_13 ?_
                refine lv_topi (fun x258 ex258 => ?_)
                have hb259 : In x258 0 255 := ex258 ▸ In.andr (⟨by decide, by decide⟩ : In 255 255 255) (by decide)
                refine lv_istore_n (lv' := [(3, .int x258), (2, .int 0), (0, .ref (ad 255)), (1, .int z1)]) hx hb dX11_brings_14 rfl hl (by decide) rfl (fun ls hl => ?_)
                refine lv_iload_n hx hb dX11_brings_15 rfl (lv_at hl 0 rfl) ?_
                refine lv_if_ne (tgt := 22) hx hb dX11_brings_16 (by decide) (fun c260 => ?_) (fun c260 => ?_)
                ·
                  have oc0 : (0 : Int32).toInt = 0 := by decide
                  have cc261 : x258.toInt ≠ (0 : Int32).toInt := i32_ne c260
                  have hb262 : In x258 1 255 := In.ne1 hb259 (⟨by decide, by decide⟩ : In 0 0 0) cc261 (by omega) (by omega)
                  refine lv_aload_n hx hb dX11_brings_22 rfl (lv_at hl 2 rfl) ?_
                  obtain ⟨v0_263, v2_263, v3_263, v4_263, v5_263, v6_263, v8_263, v9_263, v12_263, v13_263, v14_263, v15_263, v16_263, v17_263, v18_263, v19_263, v20_263, v21_263, v22_263, v23_263, v25_263, v36_263, v37_263, v38_263, v39_263, v40_263, v45_263, v46_263, v47_263, v48_263, v50_263, v51_263, v53_263, v55_263, hf264, hv0_263, hv2_263, hg2_263, hv3_263, hg3_263, hv4_263, hg4_263, hv5_263, hg5_263, hv6_263, hg6_263, hv8_263, hv9_263, hg9_263, hv12_263, hv13_263, hg13_263, hv14_263, hg14_263, hv15_263, hg15_263, hv17_263, hg17_263, hv20_263, hg20_263, hv23_263, hg23_263, hv25_263, hv36_263, hg36_263, hv47_263, hg47_263, hv48_263, hg48_263, hv53_263, hg53_263, hv55_263, hg55_263, hrel0_263⟩ := hT.2.2 0 (by decide)
                  have hg2_263 : v2_263.toInt = x23.toInt := hg2_263
                  have hg3_263 : v3_263.toInt = th 37 := hg3_263
                  have hg4_263 : v4_263.toInt = th 42 := hg4_263
                  have hg5_263 : v5_263.toInt = th 40 := hg5_263
                  have hg6_263 : v6_263.toInt = th 41 := hg6_263
                  have hg9_263 : v9_263.toInt = th 35 := hg9_263
                  have hg13_263 : v13_263.toInt = th 36 := hg13_263
                  have hg14_263 : v14_263.toInt = th 10 := hg14_263
                  have hg15_263 : v15_263.toInt = th 11 := hg15_263
                  have hg17_263 : v17_263.toInt = th 12 := hg17_263
                  have hg20_263 : v20_263.toInt = th 14 := hg20_263
                  have hg23_263 : v23_263.toInt = th 15 := hg23_263
                  have hg36_263 : v36_263.toInt = th 18 := hg36_263
                  have hg47_263 : v47_263.toInt = th 16 := hg47_263
                  have hg48_263 : v48_263.toInt = th 17 := hg48_263
                  have hg53_263 : v53_263.toInt = th 38 := hg53_263
                  have hg55_263 : v55_263.toInt = th 39 := hg55_263
                  refine pl_get (v := .ref (ad 256)) hx hb hts (fun w h => mT (inX11 w h)) hown hG.1 hP (hst.1 255 (by decide)) hf264 rfl 1 (by decide) (hts _ (mT wg_1337)) (fun _ h => h) rfl dX11_brings_23 ?_
                  refine lv_aload_n hx hb dX11_brings_26 rfl (lv_at hl 2 rfl) ?_
                  refine pl_get (v := .int v2_263) hx hb hts (fun w h => mT (inX11 w h)) hown hG.1 hP (hst.1 255 (by decide)) hf264 rfl 2 (by decide) (hts _ (mT wg_1338)) (fun _ h => h) rfl dX11_brings_27 ?_
                  refine lv_iload_n hx hb dX11_brings_30 rfl (lv_at hl 0 rfl) ?_
                  refine lv_i2b hx hb dX11_brings_31 rfl ?_
                  refine lv_topi (fun x265 ex265 => ?_)
                  have hby266 : b1 z1 24 = 1 := b1_1 (by rw [show byS z1 24 = x5 by rw [ex5, ex4]; rfl]; exact c7)
                  have hby267 : b1 z1 16 = 0 := b1_0 (by rw [show byS z1 16 = x34 by rw [ex34, ex33]; rfl]; exact c36)
                  have hby268 : b1 z1 8 = 0 := b1_0 (by rw [show byS z1 8 = x183 by rw [ex183, ex182]; rfl]; exact c185)
                  have hby269 : b1 z1 0 = 1 := b1_1 (by rw [show byS z1 0 = x258 by rw [ex258, ex257]; rfl]; exact c260)
                  refine pl_bastE hx hb hG.1 hP hD hS (hst.1 256 (by decide)) 2 hf29 rfl (vp_of (by obtain ⟨o0a, o0b⟩ := (hv2_263 : In _ _ _); obtain ⟨o1a, o1b⟩ := (hv3_263 : In _ _ _); obtain ⟨o2a, o2b⟩ := (hv4_263 : In _ _ _); obtain ⟨o3a, o3b⟩ := (hv5_263 : In _ _ _); obtain ⟨o4a, o4b⟩ := (hv6_263 : In _ _ _); obtain ⟨o5a, o5b⟩ := (hv9_263 : In _ _ _); obtain ⟨o6a, o6b⟩ := (hv13_263 : In _ _ _); obtain ⟨o7a, o7b⟩ := (hv14_263 : In _ _ _); obtain ⟨o8a, o8b⟩ := (hv15_263 : In _ _ _); obtain ⟨o9a, o9b⟩ := (hv17_263 : In _ _ _); obtain ⟨o10a, o10b⟩ := (hv20_263 : In _ _ _); obtain ⟨o11a, o11b⟩ := (hv23_263 : In _ _ _); obtain ⟨o12a, o12b⟩ := (hv36_263 : In _ _ _); obtain ⟨o13a, o13b⟩ := (hv47_263 : In _ _ _); obtain ⟨o14a, o14b⟩ := (hv48_263 : In _ _ _); obtain ⟨o15a, o15b⟩ := (hv53_263 : In _ _ _); obtain ⟨o16a, o16b⟩ := (hv55_263 : In _ _ _); omega) (by obtain ⟨o0a, o0b⟩ := (hv2_263 : In _ _ _); obtain ⟨o1a, o1b⟩ := (hv3_263 : In _ _ _); obtain ⟨o2a, o2b⟩ := (hv4_263 : In _ _ _); obtain ⟨o3a, o3b⟩ := (hv5_263 : In _ _ _); obtain ⟨o4a, o4b⟩ := (hv6_263 : In _ _ _); obtain ⟨o5a, o5b⟩ := (hv9_263 : In _ _ _); obtain ⟨o6a, o6b⟩ := (hv13_263 : In _ _ _); obtain ⟨o7a, o7b⟩ := (hv14_263 : In _ _ _); obtain ⟨o8a, o8b⟩ := (hv15_263 : In _ _ _); obtain ⟨o9a, o9b⟩ := (hv17_263 : In _ _ _); obtain ⟨o10a, o10b⟩ := (hv20_263 : In _ _ _); obtain ⟨o11a, o11b⟩ := (hv23_263 : In _ _ _); obtain ⟨o12a, o12b⟩ := (hv36_263 : In _ _ _); obtain ⟨o13a, o13b⟩ := (hv47_263 : In _ _ _); obtain ⟨o14a, o14b⟩ := (hv48_263 : In _ _ _); obtain ⟨o15a, o15b⟩ := (hv53_263 : In _ _ _); obtain ⟨o16a, o16b⟩ := (hv55_263 : In _ _ _); omega)) dX11_brings_32 (fun H locs f270 r273 er273 hf271 ho272 hP hD hS => ?_)
                  have hc274 : ∀ i : Nat, i < 500 → In (r273 i) (-128) 127 := cont_upd er273 hc21 (nar_byte _)
                  have hf275 := (ho272 (ad 255) (hst.ne (by decide) (by decide) (by decide))).trans hf264
                  have hfr : (∀ b, b ≠ (ad 255) → b ≠ (ad 256) → f270 b = f b) := fun b z0_ z1_ => (ho272 b z1_).trans (hfr b z0_ z1_)
                  refine lv_aload_n hx hb dX11_brings_33 rfl (lv_at hl 2 rfl) ?_
                  refine lv_dup hx hb dX11_brings_34 rfl ?_
                  refine pl_get (v := .int v2_263) hx hb hts (fun w h => mT (inX11 w h)) hown hG.1 hP (hst.1 255 (by decide)) hf275 rfl 2 (by decide) (hts _ (mT wg_1338)) (fun _ h => h) rfl dX11_brings_35 ?_
                  refine lv_iconst (v := 1) hx hb dX11_brings_38 (by decide) ?_
                  refine lv_iadd hx hb dX11_brings_39 ?_
                  refine lv_topi (fun x276 ex276 => ?_)
                  have hb277 : In x276 1 501 := ex276 ▸ In.add hv2_263 (⟨by decide, by decide⟩ : In 1 1 1) (by decide) (by decide) (by decide) (by decide)
                  have et278 : x276.toInt = v2_263.toInt + 1 := In.adde ex276 hv2_263 (k := 1) (by decide) (by decide) (by decide)
                  have hT := TI.updM hT hst (k := 1) (by decide) hf271 ho272 ⟨r273, rfl, hc274⟩
                  refine pl_put (ty := .int) (v := .int x276) (fs' := [.int v0_263, .ref (ad 256), .int x276, .int v3_263, .int v4_263, .int v5_263, .int v6_263, .ref (ad 257), .int v8_263, .int v9_263, .ref (ad 258), .ref (ad 259), .int v12_263, .int v13_263, .int v14_263, .int v15_263, .int v16_263, .int v17_263, .int v18_263, .int v19_263, .int v20_263, .long v21_263, .long v22_263, .int v23_263, .ref (ad 260), .int v25_263, .ref (ad 261), .ref (ad 262), .ref (ad 263), .ref (ad 264), .ref (ad 265), .ref (ad 266), .ref (ad 267), .ref (ad 268), .ref (ad 269), .ref (ad 270), .int v36_263, .int v37_263, .int v38_263, .int v39_263, .int v40_263, .ref (ad 271), .ref (ad 272), .ref (ad 273), .ref (ad 274), .long v45_263, .long v46_263, .int v47_263, .int v48_263, .ref (ad 275), .int v50_263, .int v51_263, .ref (ad 276), .int v53_263, .ref (ad 277), .int v55_263]) hx hb hts (fun w h => mT (inX11 w h)) tyX11 tyX11_ok nmX11 hown hG.1 hP hD hS (hst.1 255 (by decide)) hf275 rfl 2 (by decide) (hts _ (mT wg_1338)) (fun _ h => h) rfl (by decide +kernel) (rfl) (rfl) (Nat.le_of_ble_eq_true rfl) rfl dX11_brings_40 (fun H locs f279 hf280 ho281 hP hD hS => ?_)
                  have hf282 := (ho281 (ad 256) (hst.ne (by decide) (by decide) (by decide))).trans hf271
                  have hfr : (∀ b, b ≠ (ad 255) → b ≠ (ad 256) → f279 b = f b) := fun b z0_ z1_ => (ho281 b z0_).trans (hfr b z0_ z1_)
                  refine lv_iinc (v := (-8)) (lv' := [(2, .int (-8)), (3, .int x258), (0, .ref (ad 255)), (1, .int z1)]) hx hb dX11_brings_43 hl (k := 1) rfl (by decide) (by decide) rfl (fun ls hl => ?_)
                  have hT := TI.updMG (th' := (gset (gset th 13 x23.toInt) 13 (x276.toInt))) hT hst (k := 0) (by decide) hf280 ho281 ⟨v0_263, x276, v3_263, v4_263, v5_263, v6_263, v8_263, v9_263, v12_263, v13_263, v14_263, v15_263, v16_263, v17_263, v18_263, v19_263, v20_263, v21_263, v22_263, v23_263, v25_263, v36_263, v37_263, v38_263, v39_263, v40_263, v45_263, v46_263, v47_263, v48_263, v50_263, v51_263, v53_263, v55_263, rfl, hv0_263, (In.mk (by obtain ⟨o0a, o0b⟩ := (hb277 : In _ _ _); obtain ⟨o1a, o1b⟩ := (hv3_263 : In _ _ _); obtain ⟨o2a, o2b⟩ := (hv4_263 : In _ _ _); obtain ⟨o3a, o3b⟩ := (hv5_263 : In _ _ _); obtain ⟨o4a, o4b⟩ := (hv6_263 : In _ _ _); obtain ⟨o5a, o5b⟩ := (hv9_263 : In _ _ _); obtain ⟨o6a, o6b⟩ := (hv13_263 : In _ _ _); obtain ⟨o7a, o7b⟩ := (hv14_263 : In _ _ _); obtain ⟨o8a, o8b⟩ := (hv15_263 : In _ _ _); obtain ⟨o9a, o9b⟩ := (hv17_263 : In _ _ _); obtain ⟨o10a, o10b⟩ := (hv20_263 : In _ _ _); obtain ⟨o11a, o11b⟩ := (hv23_263 : In _ _ _); obtain ⟨o12a, o12b⟩ := (hv36_263 : In _ _ _); obtain ⟨o13a, o13b⟩ := (hv47_263 : In _ _ _); obtain ⟨o14a, o14b⟩ := (hv48_263 : In _ _ _); obtain ⟨o15a, o15b⟩ := (hv53_263 : In _ _ _); obtain ⟨o16a, o16b⟩ := (hv55_263 : In _ _ _); obtain ⟨o17a, o17b⟩ := (hv2_263 : In _ _ _); omega) (by obtain ⟨o0a, o0b⟩ := (hb277 : In _ _ _); obtain ⟨o1a, o1b⟩ := (hv3_263 : In _ _ _); obtain ⟨o2a, o2b⟩ := (hv4_263 : In _ _ _); obtain ⟨o3a, o3b⟩ := (hv5_263 : In _ _ _); obtain ⟨o4a, o4b⟩ := (hv6_263 : In _ _ _); obtain ⟨o5a, o5b⟩ := (hv9_263 : In _ _ _); obtain ⟨o6a, o6b⟩ := (hv13_263 : In _ _ _); obtain ⟨o7a, o7b⟩ := (hv14_263 : In _ _ _); obtain ⟨o8a, o8b⟩ := (hv15_263 : In _ _ _); obtain ⟨o9a, o9b⟩ := (hv17_263 : In _ _ _); obtain ⟨o10a, o10b⟩ := (hv20_263 : In _ _ _); obtain ⟨o11a, o11b⟩ := (hv23_263 : In _ _ _); obtain ⟨o12a, o12b⟩ := (hv36_263 : In _ _ _); obtain ⟨o13a, o13b⟩ := (hv47_263 : In _ _ _); obtain ⟨o14a, o14b⟩ := (hv48_263 : In _ _ _); obtain ⟨o15a, o15b⟩ := (hv53_263 : In _ _ _); obtain ⟨o16a, o16b⟩ := (hv55_263 : In _ _ _); obtain ⟨o17a, o17b⟩ := (hv2_263 : In _ _ _); omega)), (by simp [gset]), hv3_263, (by rw [hg3_263]; simp [gset]), hv4_263, (by rw [hg4_263]; simp [gset]), hv5_263, (by rw [hg5_263]; simp [gset]), hv6_263, (by rw [hg6_263]; simp [gset]), hv8_263, hv9_263, (by rw [hg9_263]; simp [gset]), hv12_263, hv13_263, (by rw [hg13_263]; simp [gset]), hv14_263, (by rw [hg14_263]; simp [gset]), hv15_263, (by rw [hg15_263]; simp [gset]), hv17_263, (by rw [hg17_263]; simp [gset]), hv20_263, (by rw [hg20_263]; simp [gset]), hv23_263, (by rw [hg23_263]; simp [gset]), hv25_263, hv36_263, (by rw [hg36_263]; simp [gset]), hv47_263, (by rw [hg47_263]; simp [gset]), hv48_263, (by rw [hg48_263]; simp [gset]), hv53_263, (by rw [hg53_263]; simp [gset]), hv55_263, (by rw [hg55_263]; simp [gset]), hrel0_263⟩ (fun q hq => ((gset_ne (fun e => hq (by subst e; decide))).trans rfl))
                  have hT : TI g ad (gset th 13 x276.toInt) f279 := TI.cast hT (by funext q; simp only [gset]; (repeat' split); all_goals first | rfl | omega | (subst_vars; rfl) | (exfalso; omega))
                  refine lv_goto (tgt := 3) hx hb dX11_brings_46 (by decide) ?_
                  refine lv_iload_n hx hb dX11_brings_3 rfl (lv_at hl 0 rfl) ?_
                  refine lv_if_lt (tgt := 49) hx hb dX11_brings_4 (by decide) (fun c283 => ?_) (fun c283 => ?_)
                  ·
                    have ocm8 : ((-8) : Int32).toInt = (-8) := by decide
                    have oc0 : (0 : Int32).toInt = 0 := by decide
                    have cc284 : ((-8) : Int32).toInt < (0 : Int32).toInt := i32_lt.mp c283
                    have hby285 : b1 z1 24 = 1 := b1_1 (by rw [show byS z1 24 = x5 by rw [ex5, ex4]; rfl]; exact c7)
                    have hby286 : b1 z1 16 = 0 := b1_0 (by rw [show byS z1 16 = x34 by rw [ex34, ex33]; rfl]; exact c36)
                    have hby287 : b1 z1 8 = 0 := b1_0 (by rw [show byS z1 8 = x183 by rw [ex183, ex182]; rfl]; exact c185)
                    have hby288 : b1 z1 0 = 1 := b1_1 (by rw [show byS z1 0 = x258 by rw [ex258, ex257]; rfl]; exact c260)
                    exact ret_v hx hb hr hlocks hP hD hS (Nat.le_of_ble_eq_true rfl) (Nat.le_of_ble_eq_true rfl) (⟨rfl, ⟨x276.toInt, (show x276.toInt = th 13 + nb z1 from (by omega)), TI.cast hT (by funext q; simp only [gset]; (repeat' split); all_goals first | rfl | omega | (subst_vars; rfl) | (exfalso; omega))⟩, hfr⟩) dX11_brings_49
                  ·
                    have ocm8 : ((-8) : Int32).toInt = (-8) := by decide
                    have oc0 : (0 : Int32).toInt = 0 := by decide
                    have cc289 : (0 : Int32).toInt ≤ ((-8) : Int32).toInt := i32_nlt c283
                    exact In.empty (lo := 0) (hi := (-8)) (In.ge1 (⟨by decide, by decide⟩ : In (-8) (-8) (-8)) (⟨by decide, by decide⟩ : In 0 0 0) cc289 (by omega) (by omega)) (by decide)
                ·
                  have oc0 : (0 : Int32).toInt = 0 := by decide
                  have cc290 : x258.toInt = (0 : Int32).toInt := congrArg Int32.toInt c260
                  have hb291 : In x258 0 0 := In.eq1 hb259 (⟨by decide, by decide⟩ : In 0 0 0) cc290 (by omega) (by omega)
                  refine lv_goto (tgt := 43) hx hb dX11_brings_19 (by decide) ?_
                  refine lv_iinc (v := (-8)) (lv' := [(2, .int (-8)), (3, .int x258), (0, .ref (ad 255)), (1, .int z1)]) hx hb dX11_brings_43 hl (k := 1) rfl (by decide) (by decide) rfl (fun ls hl => ?_)
                  refine lv_goto (tgt := 3) hx hb dX11_brings_46 (by decide) ?_
                  refine lv_iload_n hx hb dX11_brings_3 rfl (lv_at hl 0 rfl) ?_
                  refine lv_if_lt (tgt := 49) hx hb dX11_brings_4 (by decide) (fun c292 => ?_) (fun c292 => ?_)
                  ·
                    have ocm8 : ((-8) : Int32).toInt = (-8) := by decide
                    have oc0 : (0 : Int32).toInt = 0 := by decide
                    have cc293 : ((-8) : Int32).toInt < (0 : Int32).toInt := i32_lt.mp c292
                    have hby294 : b1 z1 24 = 1 := b1_1 (by rw [show byS z1 24 = x5 by rw [ex5, ex4]; rfl]; exact c7)
                    have hby295 : b1 z1 16 = 0 := b1_0 (by rw [show byS z1 16 = x34 by rw [ex34, ex33]; rfl]; exact c36)
                    have hby296 : b1 z1 8 = 0 := b1_0 (by rw [show byS z1 8 = x183 by rw [ex183, ex182]; rfl]; exact c185)
                    have hby297 : b1 z1 0 = 0 := b1_0 (by rw [show byS z1 0 = x258 by rw [ex258, ex257]; rfl]; exact c260)
                    exact ret_v hx hb hr hlocks hP hD hS (Nat.le_of_ble_eq_true rfl) (Nat.le_of_ble_eq_true rfl) (⟨rfl, ⟨x23.toInt, (show x23.toInt = th 13 + nb z1 from (by omega)), TI.cast hT (by funext q; simp only [gset]; (repeat' split); all_goals first | rfl | omega | (subst_vars; rfl) | (exfalso; omega))⟩, hfr⟩) dX11_brings_49
                  ·
                    have ocm8 : ((-8) : Int32).toInt = (-8) := by decide
                    have oc0 : (0 : Int32).toInt = 0 := by decide
                    have cc298 : (0 : Int32).toInt ≤ ((-8) : Int32).toInt := i32_nlt c292
                    exact In.empty (lo := 0) (hi := (-8)) (In.ge1 (⟨by decide, by decide⟩ : In (-8) (-8) (-8)) (⟨by decide, by decide⟩ : In 0 0 0) cc298 (by omega) (by omega)) (by decide)
    ·
      have oc0 : (0 : Int32).toInt = 0 := by decide
      have cc299 : x5.toInt = (0 : Int32).toInt := congrArg Int32.toInt c7
      have hb300 : In x5 0 0 := In.eq1 hb6 (⟨by decide, by decide⟩ : In 0 0 0) cc299 (by omega) (by omega)
      refine lv_goto (tgt := 43) hx hb dX11_brings_19 (by decide) ?_
      refine lv_iinc (v := 16) (lv' := [(2, .int 16), (3, .int x5), (0, .ref (ad 255)), (1, .int z1)]) hx hb dX11_brings_43 hl (k := 1) rfl (by decide) (by decide) rfl (fun ls hl => ?_)
      refine lv_goto (tgt := 3) hx hb dX11_brings_46 (by decide) ?_
      refine lv_iload_n hx hb dX11_brings_3 rfl (lv_at hl 0 rfl) ?_
      refine lv_if_lt (tgt := 49) hx hb dX11_brings_4 (by decide) (fun c301 => ?_) (fun c301 => ?_)
      ·
        have oc16 : (16 : Int32).toInt = 16 := by decide
        have oc0 : (0 : Int32).toInt = 0 := by decide
        have cc302 : (16 : Int32).toInt < (0 : Int32).toInt := i32_lt.mp c301
        exact In.empty (lo := 16) (hi := (-1)) (In.lt1 (⟨by decide, by decide⟩ : In 16 16 16) (⟨by decide, by decide⟩ : In 0 0 0) cc302 (by omega) (by omega)) (by decide)
      ·
        have oc16 : (16 : Int32).toInt = 16 := by decide
        have oc0 : (0 : Int32).toInt = 0 := by decide
        have cc303 : (0 : Int32).toInt ≤ (16 : Int32).toInt := i32_nlt c301
        refine lv_iload_n hx hb dX11_brings_7 rfl (lv_at hl 3 rfl) ?_
        refine lv_iload_n hx hb dX11_brings_8 rfl (lv_at hl 0 rfl) ?_
        refine lv_ishr hx hb dX11_brings_9 ?_
        refine lv_topi (fun x304 ex304 => ?_)
        refine lv_sipush (v := 255) hx hb dX11_brings_10 (by decide) ?_
        refine lv_iand hx hb dX11_brings_13 ?_
        refine lv_topi (fun x305 ex305 => ?_)
        have hb306 : In x305 0 255 := ex305 ▸ In.andr (⟨by decide, by decide⟩ : In 255 255 255) (by decide)
        refine lv_istore_n (lv' := [(3, .int x305), (2, .int 16), (0, .ref (ad 255)), (1, .int z1)]) hx hb dX11_brings_14 rfl hl (by decide) rfl (fun ls hl => ?_)
        refine lv_iload_n hx hb dX11_brings_15 rfl (lv_at hl 0 rfl) ?_
        refine lv_if_ne (tgt := 22) hx hb dX11_brings_16 (by decide) (fun c307 => ?_) (fun c307 => ?_)
        ·
          have oc0 : (0 : Int32).toInt = 0 := by decide
          have cc308 : x305.toInt ≠ (0 : Int32).toInt := i32_ne c307
          have hb309 : In x305 1 255 := In.ne1 hb306 (⟨by decide, by decide⟩ : In 0 0 0) cc308 (by omega) (by omega)
          refine lv_aload_n hx hb dX11_brings_22 rfl (lv_at hl 2 rfl) ?_
          obtain ⟨v0_310, v2_310, v3_310, v4_310, v5_310, v6_310, v8_310, v9_310, v12_310, v13_310, v14_310, v15_310, v16_310, v17_310, v18_310, v19_310, v20_310, v21_310, v22_310, v23_310, v25_310, v36_310, v37_310, v38_310, v39_310, v40_310, v45_310, v46_310, v47_310, v48_310, v50_310, v51_310, v53_310, v55_310, hf311, hv0_310, hv2_310, hg2_310, hv3_310, hg3_310, hv4_310, hg4_310, hv5_310, hg5_310, hv6_310, hg6_310, hv8_310, hv9_310, hg9_310, hv12_310, hv13_310, hg13_310, hv14_310, hg14_310, hv15_310, hg15_310, hv17_310, hg17_310, hv20_310, hg20_310, hv23_310, hg23_310, hv25_310, hv36_310, hg36_310, hv47_310, hg47_310, hv48_310, hg48_310, hv53_310, hg53_310, hv55_310, hg55_310, hrel0_310⟩ := hT.2.2 0 (by decide)
          refine pl_get (v := .ref (ad 256)) hx hb hts (fun w h => mT (inX11 w h)) hown hG.1 hP (hst.1 255 (by decide)) hf311 rfl 1 (by decide) (hts _ (mT wg_1337)) (fun _ h => h) rfl dX11_brings_23 ?_
          refine lv_aload_n hx hb dX11_brings_26 rfl (lv_at hl 2 rfl) ?_
          refine pl_get (v := .int v2_310) hx hb hts (fun w h => mT (inX11 w h)) hown hG.1 hP (hst.1 255 (by decide)) hf311 rfl 2 (by decide) (hts _ (mT wg_1338)) (fun _ h => h) rfl dX11_brings_27 ?_
          refine lv_iload_n hx hb dX11_brings_30 rfl (lv_at hl 0 rfl) ?_
          refine lv_i2b hx hb dX11_brings_31 rfl ?_
          refine lv_topi (fun x312 ex312 => ?_)
          have hby313 : b1 z1 24 = 0 := b1_0 (by rw [show byS z1 24 = x5 by rw [ex5, ex4]; rfl]; exact c7)
          have hby314 : b1 z1 16 = 1 := b1_1 (by rw [show byS z1 16 = x305 by rw [ex305, ex304]; rfl]; exact c307)
          obtain ⟨rw315, hf316, hc317⟩ := hT.2.2 1 (by decide)
          refine pl_bastE hx hb hG.1 hP hD hS (hst.1 256 (by decide)) 2 hf316 rfl (vp_of (by obtain ⟨o0a, o0b⟩ := (hv2_310 : In _ _ _); obtain ⟨o1a, o1b⟩ := (hv3_310 : In _ _ _); obtain ⟨o2a, o2b⟩ := (hv4_310 : In _ _ _); obtain ⟨o3a, o3b⟩ := (hv5_310 : In _ _ _); obtain ⟨o4a, o4b⟩ := (hv6_310 : In _ _ _); obtain ⟨o5a, o5b⟩ := (hv9_310 : In _ _ _); obtain ⟨o6a, o6b⟩ := (hv13_310 : In _ _ _); obtain ⟨o7a, o7b⟩ := (hv14_310 : In _ _ _); obtain ⟨o8a, o8b⟩ := (hv15_310 : In _ _ _); obtain ⟨o9a, o9b⟩ := (hv17_310 : In _ _ _); obtain ⟨o10a, o10b⟩ := (hv20_310 : In _ _ _); obtain ⟨o11a, o11b⟩ := (hv23_310 : In _ _ _); obtain ⟨o12a, o12b⟩ := (hv36_310 : In _ _ _); obtain ⟨o13a, o13b⟩ := (hv47_310 : In _ _ _); obtain ⟨o14a, o14b⟩ := (hv48_310 : In _ _ _); obtain ⟨o15a, o15b⟩ := (hv53_310 : In _ _ _); obtain ⟨o16a, o16b⟩ := (hv55_310 : In _ _ _); omega) (by obtain ⟨o0a, o0b⟩ := (hv2_310 : In _ _ _); obtain ⟨o1a, o1b⟩ := (hv3_310 : In _ _ _); obtain ⟨o2a, o2b⟩ := (hv4_310 : In _ _ _); obtain ⟨o3a, o3b⟩ := (hv5_310 : In _ _ _); obtain ⟨o4a, o4b⟩ := (hv6_310 : In _ _ _); obtain ⟨o5a, o5b⟩ := (hv9_310 : In _ _ _); obtain ⟨o6a, o6b⟩ := (hv13_310 : In _ _ _); obtain ⟨o7a, o7b⟩ := (hv14_310 : In _ _ _); obtain ⟨o8a, o8b⟩ := (hv15_310 : In _ _ _); obtain ⟨o9a, o9b⟩ := (hv17_310 : In _ _ _); obtain ⟨o10a, o10b⟩ := (hv20_310 : In _ _ _); obtain ⟨o11a, o11b⟩ := (hv23_310 : In _ _ _); obtain ⟨o12a, o12b⟩ := (hv36_310 : In _ _ _); obtain ⟨o13a, o13b⟩ := (hv47_310 : In _ _ _); obtain ⟨o14a, o14b⟩ := (hv48_310 : In _ _ _); obtain ⟨o15a, o15b⟩ := (hv53_310 : In _ _ _); obtain ⟨o16a, o16b⟩ := (hv55_310 : In _ _ _); omega)) dX11_brings_32 (fun H locs f318 r321 er321 hf319 ho320 hP hD hS => ?_)
          have hc322 : ∀ i : Nat, i < 500 → In (r321 i) (-128) 127 := cont_upd er321 hc317 (nar_byte _)
          have hf323 := (ho320 (ad 255) (hst.ne (by decide) (by decide) (by decide))).trans hf311
          have hfr : (∀ b, b ≠ (ad 255) → b ≠ (ad 256) → f318 b = f b) := fun b z0_ z1_ => (ho320 b z1_).trans (hfr b z0_ z1_)
          refine lv_aload_n hx hb dX11_brings_33 rfl (lv_at hl 2 rfl) ?_
          refine lv_dup hx hb dX11_brings_34 rfl ?_
          refine pl_get (v := .int v2_310) hx hb hts (fun w h => mT (inX11 w h)) hown hG.1 hP (hst.1 255 (by decide)) hf323 rfl 2 (by decide) (hts _ (mT wg_1338)) (fun _ h => h) rfl dX11_brings_35 ?_
          refine lv_iconst (v := 1) hx hb dX11_brings_38 (by decide) ?_
          refine lv_iadd hx hb dX11_brings_39 ?_
          refine lv_topi (fun x324 ex324 => ?_)
          have hb325 : In x324 1 501 := ex324 ▸ In.add hv2_310 (⟨by decide, by decide⟩ : In 1 1 1) (by decide) (by decide) (by decide) (by decide)
          have et326 : x324.toInt = v2_310.toInt + 1 := In.adde ex324 hv2_310 (k := 1) (by decide) (by decide) (by decide)
          have hT := TI.updM hT hst (k := 1) (by decide) hf319 ho320 ⟨r321, rfl, hc322⟩
          refine pl_put (ty := .int) (v := .int x324) (fs' := [.int v0_310, .ref (ad 256), .int x324, .int v3_310, .int v4_310, .int v5_310, .int v6_310, .ref (ad 257), .int v8_310, .int v9_310, .ref (ad 258), .ref (ad 259), .int v12_310, .int v13_310, .int v14_310, .int v15_310, .int v16_310, .int v17_310, .int v18_310, .int v19_310, .int v20_310, .long v21_310, .long v22_310, .int v23_310, .ref (ad 260), .int v25_310, .ref (ad 261), .ref (ad 262), .ref (ad 263), .ref (ad 264), .ref (ad 265), .ref (ad 266), .ref (ad 267), .ref (ad 268), .ref (ad 269), .ref (ad 270), .int v36_310, .int v37_310, .int v38_310, .int v39_310, .int v40_310, .ref (ad 271), .ref (ad 272), .ref (ad 273), .ref (ad 274), .long v45_310, .long v46_310, .int v47_310, .int v48_310, .ref (ad 275), .int v50_310, .int v51_310, .ref (ad 276), .int v53_310, .ref (ad 277), .int v55_310]) hx hb hts (fun w h => mT (inX11 w h)) tyX11 tyX11_ok nmX11 hown hG.1 hP hD hS (hst.1 255 (by decide)) hf323 rfl 2 (by decide) (hts _ (mT wg_1338)) (fun _ h => h) rfl (by decide +kernel) (rfl) (rfl) (Nat.le_of_ble_eq_true rfl) rfl dX11_brings_40 (fun H locs f327 hf328 ho329 hP hD hS => ?_)
          have hf330 := (ho329 (ad 256) (hst.ne (by decide) (by decide) (by decide))).trans hf319
          have hfr : (∀ b, b ≠ (ad 255) → b ≠ (ad 256) → f327 b = f b) := fun b z0_ z1_ => (ho329 b z0_).trans (hfr b z0_ z1_)
          refine lv_iinc (v := 8) (lv' := [(2, .int 8), (3, .int x305), (0, .ref (ad 255)), (1, .int z1)]) hx hb dX11_brings_43 hl (k := 1) rfl (by decide) (by decide) rfl (fun ls hl => ?_)
          have hT := TI.updMG (th' := (gset th 13 (x324.toInt))) hT hst (k := 0) (by decide) hf328 ho329 ⟨v0_310, x324, v3_310, v4_310, v5_310, v6_310, v8_310, v9_310, v12_310, v13_310, v14_310, v15_310, v16_310, v17_310, v18_310, v19_310, v20_310, v21_310, v22_310, v23_310, v25_310, v36_310, v37_310, v38_310, v39_310, v40_310, v45_310, v46_310, v47_310, v48_310, v50_310, v51_310, v53_310, v55_310, rfl, hv0_310, (In.mk (by obtain ⟨o0a, o0b⟩ := (hb325 : In _ _ _); obtain ⟨o1a, o1b⟩ := (hv3_310 : In _ _ _); obtain ⟨o2a, o2b⟩ := (hv4_310 : In _ _ _); obtain ⟨o3a, o3b⟩ := (hv5_310 : In _ _ _); obtain ⟨o4a, o4b⟩ := (hv6_310 : In _ _ _); obtain ⟨o5a, o5b⟩ := (hv9_310 : In _ _ _); obtain ⟨o6a, o6b⟩ := (hv13_310 : In _ _ _); obtain ⟨o7a, o7b⟩ := (hv14_310 : In _ _ _); obtain ⟨o8a, o8b⟩ := (hv15_310 : In _ _ _); obtain ⟨o9a, o9b⟩ := (hv17_310 : In _ _ _); obtain ⟨o10a, o10b⟩ := (hv20_310 : In _ _ _); obtain ⟨o11a, o11b⟩ := (hv23_310 : In _ _ _); obtain ⟨o12a, o12b⟩ := (hv36_310 : In _ _ _); obtain ⟨o13a, o13b⟩ := (hv47_310 : In _ _ _); obtain ⟨o14a, o14b⟩ := (hv48_310 : In _ _ _); obtain ⟨o15a, o15b⟩ := (hv53_310 : In _ _ _); obtain ⟨o16a, o16b⟩ := (hv55_310 : In _ _ _); obtain ⟨o17a, o17b⟩ := (hv2_310 : In _ _ _); omega) (by obtain ⟨o0a, o0b⟩ := (hb325 : In _ _ _); obtain ⟨o1a, o1b⟩ := (hv3_310 : In _ _ _); obtain ⟨o2a, o2b⟩ := (hv4_310 : In _ _ _); obtain ⟨o3a, o3b⟩ := (hv5_310 : In _ _ _); obtain ⟨o4a, o4b⟩ := (hv6_310 : In _ _ _); obtain ⟨o5a, o5b⟩ := (hv9_310 : In _ _ _); obtain ⟨o6a, o6b⟩ := (hv13_310 : In _ _ _); obtain ⟨o7a, o7b⟩ := (hv14_310 : In _ _ _); obtain ⟨o8a, o8b⟩ := (hv15_310 : In _ _ _); obtain ⟨o9a, o9b⟩ := (hv17_310 : In _ _ _); obtain ⟨o10a, o10b⟩ := (hv20_310 : In _ _ _); obtain ⟨o11a, o11b⟩ := (hv23_310 : In _ _ _); obtain ⟨o12a, o12b⟩ := (hv36_310 : In _ _ _); obtain ⟨o13a, o13b⟩ := (hv47_310 : In _ _ _); obtain ⟨o14a, o14b⟩ := (hv48_310 : In _ _ _); obtain ⟨o15a, o15b⟩ := (hv53_310 : In _ _ _); obtain ⟨o16a, o16b⟩ := (hv55_310 : In _ _ _); obtain ⟨o17a, o17b⟩ := (hv2_310 : In _ _ _); omega)), (by simp [gset]), hv3_310, (by rw [hg3_310]; simp [gset]), hv4_310, (by rw [hg4_310]; simp [gset]), hv5_310, (by rw [hg5_310]; simp [gset]), hv6_310, (by rw [hg6_310]; simp [gset]), hv8_310, hv9_310, (by rw [hg9_310]; simp [gset]), hv12_310, hv13_310, (by rw [hg13_310]; simp [gset]), hv14_310, (by rw [hg14_310]; simp [gset]), hv15_310, (by rw [hg15_310]; simp [gset]), hv17_310, (by rw [hg17_310]; simp [gset]), hv20_310, (by rw [hg20_310]; simp [gset]), hv23_310, (by rw [hg23_310]; simp [gset]), hv25_310, hv36_310, (by rw [hg36_310]; simp [gset]), hv47_310, (by rw [hg47_310]; simp [gset]), hv48_310, (by rw [hg48_310]; simp [gset]), hv53_310, (by rw [hg53_310]; simp [gset]), hv55_310, (by rw [hg55_310]; simp [gset]), hrel0_310⟩ (fun q hq => ((gset_ne (fun e => hq (by subst e; decide))).trans rfl))
          have hT : TI g ad (gset th 13 x324.toInt) f327 := TI.cast hT (by funext q; simp only [gset]; (repeat' split); all_goals first | rfl | omega | (subst_vars; rfl) | (exfalso; omega))
          refine lv_goto (tgt := 3) hx hb dX11_brings_46 (by decide) ?_
          refine lv_iload_n hx hb dX11_brings_3 rfl (lv_at hl 0 rfl) ?_
          refine lv_if_lt (tgt := 49) hx hb dX11_brings_4 (by decide) (fun c331 => ?_) (fun c331 => ?_)
          ·
            have oc8 : (8 : Int32).toInt = 8 := by decide
            have oc0 : (0 : Int32).toInt = 0 := by decide
            have cc332 : (8 : Int32).toInt < (0 : Int32).toInt := i32_lt.mp c331
            exact In.empty (lo := 8) (hi := (-1)) (In.lt1 (⟨by decide, by decide⟩ : In 8 8 8) (⟨by decide, by decide⟩ : In 0 0 0) cc332 (by omega) (by omega)) (by decide)
          ·
            have oc8 : (8 : Int32).toInt = 8 := by decide
            have oc0 : (0 : Int32).toInt = 0 := by decide
            have cc333 : (0 : Int32).toInt ≤ (8 : Int32).toInt := i32_nlt c331
            refine lv_iload_n hx hb dX11_brings_7 rfl (lv_at hl 3 rfl) ?_
            refine lv_iload_n hx hb dX11_brings_8 rfl (lv_at hl 0 rfl) ?_
            refine lv_ishr hx hb dX11_brings_9 ?_
            refine lv_topi (fun x334 ex334 => ?_)
            refine lv_sipush (v := 255) hx hb dX11_brings_10 (by decide) ?_
            refine lv_iand hx hb dX11_brings_13 ?_
            refine lv_topi (fun x335 ex335 => ?_)
            have hb336 : In x335 0 255 := ex335 ▸ In.andr (⟨by decide, by decide⟩ : In 255 255 255) (by decide)
            refine lv_istore_n (lv' := [(3, .int x335), (2, .int 8), (0, .ref (ad 255)), (1, .int z1)]) hx hb dX11_brings_14 rfl hl (by decide) rfl (fun ls hl => ?_)
            refine lv_iload_n hx hb dX11_brings_15 rfl (lv_at hl 0 rfl) ?_
            refine lv_if_ne (tgt := 22) hx hb dX11_brings_16 (by decide) (fun c337 => ?_) (fun c337 => ?_)
            ·
              have oc0 : (0 : Int32).toInt = 0 := by decide
              have cc338 : x335.toInt ≠ (0 : Int32).toInt := i32_ne c337
              have hb339 : In x335 1 255 := In.ne1 hb336 (⟨by decide, by decide⟩ : In 0 0 0) cc338 (by omega) (by omega)
              refine lv_aload_n hx hb dX11_brings_22 rfl (lv_at hl 2 rfl) ?_
              obtain ⟨v0_340, v2_340, v3_340, v4_340, v5_340, v6_340, v8_340, v9_340, v12_340, v13_340, v14_340, v15_340, v16_340, v17_340, v18_340, v19_340, v20_340, v21_340, v22_340, v23_340, v25_340, v36_340, v37_340, v38_340, v39_340, v40_340, v45_340, v46_340, v47_340, v48_340, v50_340, v51_340, v53_340, v55_340, hf341, hv0_340, hv2_340, hg2_340, hv3_340, hg3_340, hv4_340, hg4_340, hv5_340, hg5_340, hv6_340, hg6_340, hv8_340, hv9_340, hg9_340, hv12_340, hv13_340, hg13_340, hv14_340, hg14_340, hv15_340, hg15_340, hv17_340, hg17_340, hv20_340, hg20_340, hv23_340, hg23_340, hv25_340, hv36_340, hg36_340, hv47_340, hg47_340, hv48_340, hg48_340, hv53_340, hg53_340, hv55_340, hg55_340, hrel0_340⟩ := hT.2.2 0 (by decide)
              have hg2_340 : v2_340.toInt = x324.toInt := hg2_340
              have hg3_340 : v3_340.toInt = th 37 := hg3_340
              have hg4_340 : v4_340.toInt = th 42 := hg4_340
              have hg5_340 : v5_340.toInt = th 40 := hg5_340
              have hg6_340 : v6_340.toInt = th 41 := hg6_340
              have hg9_340 : v9_340.toInt = th 35 := hg9_340
              have hg13_340 : v13_340.toInt = th 36 := hg13_340
              have hg14_340 : v14_340.toInt = th 10 := hg14_340
              have hg15_340 : v15_340.toInt = th 11 := hg15_340
              have hg17_340 : v17_340.toInt = th 12 := hg17_340
              have hg20_340 : v20_340.toInt = th 14 := hg20_340
              have hg23_340 : v23_340.toInt = th 15 := hg23_340
              have hg36_340 : v36_340.toInt = th 18 := hg36_340
              have hg47_340 : v47_340.toInt = th 16 := hg47_340
              have hg48_340 : v48_340.toInt = th 17 := hg48_340
              have hg53_340 : v53_340.toInt = th 38 := hg53_340
              have hg55_340 : v55_340.toInt = th 39 := hg55_340
              refine pl_get (v := .ref (ad 256)) hx hb hts (fun w h => mT (inX11 w h)) hown hG.1 hP (hst.1 255 (by decide)) hf341 rfl 1 (by decide) (hts _ (mT wg_1337)) (fun _ h => h) rfl dX11_brings_23 ?_
              refine lv_aload_n hx hb dX11_brings_26 rfl (lv_at hl 2 rfl) ?_
              refine pl_get (v := .int v2_340) hx hb hts (fun w h => mT (inX11 w h)) hown hG.1 hP (hst.1 255 (by decide)) hf341 rfl 2 (by decide) (hts _ (mT wg_1338)) (fun _ h => h) rfl dX11_brings_27 ?_
              refine lv_iload_n hx hb dX11_brings_30 rfl (lv_at hl 0 rfl) ?_
              refine lv_i2b hx hb dX11_brings_31 rfl ?_
              refine lv_topi (fun x342 ex342 => ?_)
              have hby343 : b1 z1 24 = 0 := b1_0 (by rw [show byS z1 24 = x5 by rw [ex5, ex4]; rfl]; exact c7)
              have hby344 : b1 z1 16 = 1 := b1_1 (by rw [show byS z1 16 = x305 by rw [ex305, ex304]; rfl]; exact c307)
              have hby345 : b1 z1 8 = 1 := b1_1 (by rw [show byS z1 8 = x335 by rw [ex335, ex334]; rfl]; exact c337)
              refine pl_bastE hx hb hG.1 hP hD hS (hst.1 256 (by decide)) 2 hf330 rfl (vp_of (by obtain ⟨o0a, o0b⟩ := (hv2_340 : In _ _ _); obtain ⟨o1a, o1b⟩ := (hv3_340 : In _ _ _); obtain ⟨o2a, o2b⟩ := (hv4_340 : In _ _ _); obtain ⟨o3a, o3b⟩ := (hv5_340 : In _ _ _); obtain ⟨o4a, o4b⟩ := (hv6_340 : In _ _ _); obtain ⟨o5a, o5b⟩ := (hv9_340 : In _ _ _); obtain ⟨o6a, o6b⟩ := (hv13_340 : In _ _ _); obtain ⟨o7a, o7b⟩ := (hv14_340 : In _ _ _); obtain ⟨o8a, o8b⟩ := (hv15_340 : In _ _ _); obtain ⟨o9a, o9b⟩ := (hv17_340 : In _ _ _); obtain ⟨o10a, o10b⟩ := (hv20_340 : In _ _ _); obtain ⟨o11a, o11b⟩ := (hv23_340 : In _ _ _); obtain ⟨o12a, o12b⟩ := (hv36_340 : In _ _ _); obtain ⟨o13a, o13b⟩ := (hv47_340 : In _ _ _); obtain ⟨o14a, o14b⟩ := (hv48_340 : In _ _ _); obtain ⟨o15a, o15b⟩ := (hv53_340 : In _ _ _); obtain ⟨o16a, o16b⟩ := (hv55_340 : In _ _ _); omega) (by obtain ⟨o0a, o0b⟩ := (hv2_340 : In _ _ _); obtain ⟨o1a, o1b⟩ := (hv3_340 : In _ _ _); obtain ⟨o2a, o2b⟩ := (hv4_340 : In _ _ _); obtain ⟨o3a, o3b⟩ := (hv5_340 : In _ _ _); obtain ⟨o4a, o4b⟩ := (hv6_340 : In _ _ _); obtain ⟨o5a, o5b⟩ := (hv9_340 : In _ _ _); obtain ⟨o6a, o6b⟩ := (hv13_340 : In _ _ _); obtain ⟨o7a, o7b⟩ := (hv14_340 : In _ _ _); obtain ⟨o8a, o8b⟩ := (hv15_340 : In _ _ _); obtain ⟨o9a, o9b⟩ := (hv17_340 : In _ _ _); obtain ⟨o10a, o10b⟩ := (hv20_340 : In _ _ _); obtain ⟨o11a, o11b⟩ := (hv23_340 : In _ _ _); obtain ⟨o12a, o12b⟩ := (hv36_340 : In _ _ _); obtain ⟨o13a, o13b⟩ := (hv47_340 : In _ _ _); obtain ⟨o14a, o14b⟩ := (hv48_340 : In _ _ _); obtain ⟨o15a, o15b⟩ := (hv53_340 : In _ _ _); obtain ⟨o16a, o16b⟩ := (hv55_340 : In _ _ _); omega)) dX11_brings_32 (fun H locs f346 r349 er349 hf347 ho348 hP hD hS => ?_)
              have hc350 : ∀ i : Nat, i < 500 → In (r349 i) (-128) 127 := cont_upd er349 hc322 (nar_byte _)
              have hf351 := (ho348 (ad 255) (hst.ne (by decide) (by decide) (by decide))).trans hf341
              have hfr : (∀ b, b ≠ (ad 255) → b ≠ (ad 256) → f346 b = f b) := fun b z0_ z1_ => (ho348 b z1_).trans (hfr b z0_ z1_)
              refine lv_aload_n hx hb dX11_brings_33 rfl (lv_at hl 2 rfl) ?_
              refine lv_dup hx hb dX11_brings_34 rfl ?_
              refine pl_get (v := .int v2_340) hx hb hts (fun w h => mT (inX11 w h)) hown hG.1 hP (hst.1 255 (by decide)) hf351 rfl 2 (by decide) (hts _ (mT wg_1338)) (fun _ h => h) rfl dX11_brings_35 ?_
              refine lv_iconst (v := 1) hx hb dX11_brings_38 (by decide) ?_
              refine lv_iadd hx hb dX11_brings_39 ?_
              refine lv_topi (fun x352 ex352 => ?_)
              have hb353 : In x352 1 501 := ex352 ▸ In.add hv2_340 (⟨by decide, by decide⟩ : In 1 1 1) (by decide) (by decide) (by decide) (by decide)
              have et354 : x352.toInt = v2_340.toInt + 1 := In.adde ex352 hv2_340 (k := 1) (by decide) (by decide) (by decide)
              have hT := TI.updM hT hst (k := 1) (by decide) hf347 ho348 ⟨r349, rfl, hc350⟩
              refine pl_put (ty := .int) (v := .int x352) (fs' := [.int v0_340, .ref (ad 256), .int x352, .int v3_340, .int v4_340, .int v5_340, .int v6_340, .ref (ad 257), .int v8_340, .int v9_340, .ref (ad 258), .ref (ad 259), .int v12_340, .int v13_340, .int v14_340, .int v15_340, .int v16_340, .int v17_340, .int v18_340, .int v19_340, .int v20_340, .long v21_340, .long v22_340, .int v23_340, .ref (ad 260), .int v25_340, .ref (ad 261), .ref (ad 262), .ref (ad 263), .ref (ad 264), .ref (ad 265), .ref (ad 266), .ref (ad 267), .ref (ad 268), .ref (ad 269), .ref (ad 270), .int v36_340, .int v37_340, .int v38_340, .int v39_340, .int v40_340, .ref (ad 271), .ref (ad 272), .ref (ad 273), .ref (ad 274), .long v45_340, .long v46_340, .int v47_340, .int v48_340, .ref (ad 275), .int v50_340, .int v51_340, .ref (ad 276), .int v53_340, .ref (ad 277), .int v55_340]) hx hb hts (fun w h => mT (inX11 w h)) tyX11 tyX11_ok nmX11 hown hG.1 hP hD hS (hst.1 255 (by decide)) hf351 rfl 2 (by decide) (hts _ (mT wg_1338)) (fun _ h => h) rfl (by decide +kernel) (rfl) (rfl) (Nat.le_of_ble_eq_true rfl) rfl dX11_brings_40 (fun H locs f355 hf356 ho357 hP hD hS => ?_)
              have hf358 := (ho357 (ad 256) (hst.ne (by decide) (by decide) (by decide))).trans hf347
              have hfr : (∀ b, b ≠ (ad 255) → b ≠ (ad 256) → f355 b = f b) := fun b z0_ z1_ => (ho357 b z0_).trans (hfr b z0_ z1_)
              refine lv_iinc (v := 0) (lv' := [(2, .int 0), (3, .int x335), (0, .ref (ad 255)), (1, .int z1)]) hx hb dX11_brings_43 hl (k := 1) rfl (by decide) (by decide) rfl (fun ls hl => ?_)
              have hT := TI.updMG (th' := (gset (gset th 13 x324.toInt) 13 (x352.toInt))) hT hst (k := 0) (by decide) hf356 ho357 ⟨v0_340, x352, v3_340, v4_340, v5_340, v6_340, v8_340, v9_340, v12_340, v13_340, v14_340, v15_340, v16_340, v17_340, v18_340, v19_340, v20_340, v21_340, v22_340, v23_340, v25_340, v36_340, v37_340, v38_340, v39_340, v40_340, v45_340, v46_340, v47_340, v48_340, v50_340, v51_340, v53_340, v55_340, rfl, hv0_340, (In.mk (by obtain ⟨o0a, o0b⟩ := (hb353 : In _ _ _); obtain ⟨o1a, o1b⟩ := (hv3_340 : In _ _ _); obtain ⟨o2a, o2b⟩ := (hv4_340 : In _ _ _); obtain ⟨o3a, o3b⟩ := (hv5_340 : In _ _ _); obtain ⟨o4a, o4b⟩ := (hv6_340 : In _ _ _); obtain ⟨o5a, o5b⟩ := (hv9_340 : In _ _ _); obtain ⟨o6a, o6b⟩ := (hv13_340 : In _ _ _); obtain ⟨o7a, o7b⟩ := (hv14_340 : In _ _ _); obtain ⟨o8a, o8b⟩ := (hv15_340 : In _ _ _); obtain ⟨o9a, o9b⟩ := (hv17_340 : In _ _ _); obtain ⟨o10a, o10b⟩ := (hv20_340 : In _ _ _); obtain ⟨o11a, o11b⟩ := (hv23_340 : In _ _ _); obtain ⟨o12a, o12b⟩ := (hv36_340 : In _ _ _); obtain ⟨o13a, o13b⟩ := (hv47_340 : In _ _ _); obtain ⟨o14a, o14b⟩ := (hv48_340 : In _ _ _); obtain ⟨o15a, o15b⟩ := (hv53_340 : In _ _ _); obtain ⟨o16a, o16b⟩ := (hv55_340 : In _ _ _); obtain ⟨o17a, o17b⟩ := (hv2_340 : In _ _ _); omega) (by obtain ⟨o0a, o0b⟩ := (hb353 : In _ _ _); obtain ⟨o1a, o1b⟩ := (hv3_340 : In _ _ _); obtain ⟨o2a, o2b⟩ := (hv4_340 : In _ _ _); obtain ⟨o3a, o3b⟩ := (hv5_340 : In _ _ _); obtain ⟨o4a, o4b⟩ := (hv6_340 : In _ _ _); obtain ⟨o5a, o5b⟩ := (hv9_340 : In _ _ _); obtain ⟨o6a, o6b⟩ := (hv13_340 : In _ _ _); obtain ⟨o7a, o7b⟩ := (hv14_340 : In _ _ _); obtain ⟨o8a, o8b⟩ := (hv15_340 : In _ _ _); obtain ⟨o9a, o9b⟩ := (hv17_340 : In _ _ _); obtain ⟨o10a, o10b⟩ := (hv20_340 : In _ _ _); obtain ⟨o11a, o11b⟩ := (hv23_340 : In _ _ _); obtain ⟨o12a, o12b⟩ := (hv36_340 : In _ _ _); obtain ⟨o13a, o13b⟩ := (hv47_340 : In _ _ _); obtain ⟨o14a, o14b⟩ := (hv48_340 : In _ _ _); obtain ⟨o15a, o15b⟩ := (hv53_340 : In _ _ _); obtain ⟨o16a, o16b⟩ := (hv55_340 : In _ _ _); obtain ⟨o17a, o17b⟩ := (hv2_340 : In _ _ _); omega)), (by simp [gset]), hv3_340, (by rw [hg3_340]; simp [gset]), hv4_340, (by rw [hg4_340]; simp [gset]), hv5_340, (by rw [hg5_340]; simp [gset]), hv6_340, (by rw [hg6_340]; simp [gset]), hv8_340, hv9_340, (by rw [hg9_340]; simp [gset]), hv12_340, hv13_340, (by rw [hg13_340]; simp [gset]), hv14_340, (by rw [hg14_340]; simp [gset]), hv15_340, (by rw [hg15_340]; simp [gset]), hv17_340, (by rw [hg17_340]; simp [gset]), hv20_340, (by rw [hg20_340]; simp [gset]), hv23_340, (by rw [hg23_340]; simp [gset]), hv25_340, hv36_340, (by rw [hg36_340]; simp [gset]), hv47_340, (by rw [hg47_340]; simp [gset]), hv48_340, (by rw [hg48_340]; simp [gset]), hv53_340, (by rw [hg53_340]; simp [gset]), hv55_340, (by rw [hg55_340]; simp [gset]), hrel0_340⟩ (fun q hq => ((gset_ne (fun e => hq (by subst e; decide))).trans rfl))
              have hT : TI g ad (gset th 13 x352.toInt) f355 := TI.cast hT (by funext q; simp only [gset]; (repeat' split); all_goals first | rfl | omega | (subst_vars; rfl) | (exfalso; omega))
              refine lv_goto (tgt := 3) hx hb dX11_brings_46 (by decide) ?_
              refine lv_iload_n hx hb dX11_brings_3 rfl (lv_at hl 0 rfl) ?_
              refine lv_if_lt (tgt := 49) hx hb dX11_brings_4 (by decide) (fun c359 => ?_) (fun c359 => ?_)
              ·
                have oc0 : (0 : Int32).toInt = 0 := by decide
                have oc0 : (0 : Int32).toInt = 0 := by decide
                have cc360 : (0 : Int32).toInt < (0 : Int32).toInt := i32_lt.mp c359
                exact In.empty (lo := 0) (hi := (-1)) (In.lt1 (⟨by decide, by decide⟩ : In 0 0 0) (⟨by decide, by decide⟩ : In 0 0 0) cc360 (by omega) (by omega)) (by decide)
              ·
                have oc0 : (0 : Int32).toInt = 0 := by decide
                have oc0 : (0 : Int32).toInt = 0 := by decide
                have cc361 : (0 : Int32).toInt ≤ (0 : Int32).toInt := i32_nlt c359
                refine lv_iload_n hx hb dX11_brings_7 rfl (lv_at hl 3 rfl) ?_
                refine lv_iload_n hx hb dX11_brings_8 rfl (lv_at hl 0 rfl) ?_
                refine lv_ishr hx hb dX11_brings_9 ?_
                refine lv_topi (fun x362 ex362 => ?_)
                refine lv_sipush (v := 255) hx hb dX11_brings_10 (by decide) ?_
                refine lv_iand hx hb dX11_brings_13 ?_
                refine lv_topi (fun x363 ex363 => ?_)
                have hb364 : In x363 0 255 := ex363 ▸ In.andr (⟨by decide, by decide⟩ : In 255 255 255) (by decide)
                refine lv_istore_n (lv' := [(3, .int x363), (2, .int 0), (0, .ref (ad 255)), (1, .int z1)]) hx hb dX11_brings_14 rfl hl (by decide) rfl (fun ls hl => ?_)
                refine lv_iload_n hx hb dX11_brings_15 rfl (lv_at hl 0 rfl) ?_
                refine lv_if_ne (tgt := 22) hx hb dX11_brings_16 (by decide) (fun c365 => ?_) (fun c365 => ?_)
                ·
                  have oc0 : (0 : Int32).toInt = 0 := by decide
                  have cc366 : x363.toInt ≠ (0 : Int32).toInt := i32_ne c365
                  have hb367 : In x363 1 255 := In.ne1 hb364 (⟨by decide, by decide⟩ : In 0 0 0) cc366 (by omega) (by omega)
                  refine lv_aload_n hx hb dX11_brings_22 rfl (lv_at hl 2 rfl) ?_
                  obtain ⟨v0_368, v2_368, v3_368, v4_368, v5_368, v6_368, v8_368, v9_368, v12_368, v13_368, v14_368, v15_368, v16_368, v17_368, v18_368, v19_368, v20_368, v21_368, v22_368, v23_368, v25_368, v36_368, v37_368, v38_368, v39_368, v40_368, v45_368, v46_368, v47_368, v48_368, v50_368, v51_368, v53_368, v55_368, hf369, hv0_368, hv2_368, hg2_368, hv3_368, hg3_368, hv4_368, hg4_368, hv5_368, hg5_368, hv6_368, hg6_368, hv8_368, hv9_368, hg9_368, hv12_368, hv13_368, hg13_368, hv14_368, hg14_368, hv15_368, hg15_368, hv17_368, hg17_368, hv20_368, hg20_368, hv23_368, hg23_368, hv25_368, hv36_368, hg36_368, hv47_368, hg47_368, hv48_368, hg48_368, hv53_368, hg53_368, hv55_368, hg55_368, hrel0_368⟩ := hT.2.2 0 (by decide)
                  have hg2_368 : v2_368.toInt = x352.toInt := hg2_368
                  have hg3_368 : v3_368.toInt = th 37 := hg3_368
                  have hg4_368 : v4_368.toInt = th 42 := hg4_368
                  have hg5_368 : v5_368.toInt = th 40 := hg5_368
                  have hg6_368 : v6_368.toInt = th 41 := hg6_368
                  have hg9_368 : v9_368.toInt = th 35 := hg9_368
                  have hg13_368 : v13_368.toInt = th 36 := hg13_368
                  have hg14_368 : v14_368.toInt = th 10 := hg14_368
                  have hg15_368 : v15_368.toInt = th 11 := hg15_368
                  have hg17_368 : v17_368.toInt = th 12 := hg17_368
                  have hg20_368 : v20_368.toInt = th 14 := hg20_368
                  have hg23_368 : v23_368.toInt = th 15 := hg23_368
                  have hg36_368 : v36_368.toInt = th 18 := hg36_368
                  have hg47_368 : v47_368.toInt = th 16 := hg47_368
                  have hg48_368 : v48_368.toInt = th 17 := hg48_368
                  have hg53_368 : v53_368.toInt = th 38 := hg53_368
                  have hg55_368 : v55_368.toInt = th 39 := hg55_368
                  refine pl_get (v := .ref (ad 256)) hx hb hts (fun w h => mT (inX11 w h)) hown hG.1 hP (hst.1 255 (by decide)) hf369 rfl 1 (by decide) (hts _ (mT wg_1337)) (fun _ h => h) rfl dX11_brings_23 ?_
                  refine lv_aload_n hx hb dX11_brings_26 rfl (lv_at hl 2 rfl) ?_
                  refine pl_get (v := .int v2_368) hx hb hts (fun w h => mT (inX11 w h)) hown hG.1 hP (hst.1 255 (by decide)) hf369 rfl 2 (by decide) (hts _ (mT wg_1338)) (fun _ h => h) rfl dX11_brings_27 ?_
                  refine lv_iload_n hx hb dX11_brings_30 rfl (lv_at hl 0 rfl) ?_
                  refine lv_i2b hx hb dX11_brings_31 rfl ?_
                  refine lv_topi (fun x370 ex370 => ?_)
                  have hby371 : b1 z1 24 = 0 := b1_0 (by rw [show byS z1 24 = x5 by rw [ex5, ex4]; rfl]; exact c7)
                  have hby372 : b1 z1 16 = 1 := b1_1 (by rw [show byS z1 16 = x305 by rw [ex305, ex304]; rfl]; exact c307)
                  have hby373 : b1 z1 8 = 1 := b1_1 (by rw [show byS z1 8 = x335 by rw [ex335, ex334]; rfl]; exact c337)
                  have hby374 : b1 z1 0 = 1 := b1_1 (by rw [show byS z1 0 = x363 by rw [ex363, ex362]; rfl]; exact c365)
                  refine pl_bastE hx hb hG.1 hP hD hS (hst.1 256 (by decide)) 2 hf358 rfl (vp_of (by obtain ⟨o0a, o0b⟩ := (hv2_368 : In _ _ _); obtain ⟨o1a, o1b⟩ := (hv3_368 : In _ _ _); obtain ⟨o2a, o2b⟩ := (hv4_368 : In _ _ _); obtain ⟨o3a, o3b⟩ := (hv5_368 : In _ _ _); obtain ⟨o4a, o4b⟩ := (hv6_368 : In _ _ _); obtain ⟨o5a, o5b⟩ := (hv9_368 : In _ _ _); obtain ⟨o6a, o6b⟩ := (hv13_368 : In _ _ _); obtain ⟨o7a, o7b⟩ := (hv14_368 : In _ _ _); obtain ⟨o8a, o8b⟩ := (hv15_368 : In _ _ _); obtain ⟨o9a, o9b⟩ := (hv17_368 : In _ _ _); obtain ⟨o10a, o10b⟩ := (hv20_368 : In _ _ _); obtain ⟨o11a, o11b⟩ := (hv23_368 : In _ _ _); obtain ⟨o12a, o12b⟩ := (hv36_368 : In _ _ _); obtain ⟨o13a, o13b⟩ := (hv47_368 : In _ _ _); obtain ⟨o14a, o14b⟩ := (hv48_368 : In _ _ _); obtain ⟨o15a, o15b⟩ := (hv53_368 : In _ _ _); obtain ⟨o16a, o16b⟩ := (hv55_368 : In _ _ _); omega) (by obtain ⟨o0a, o0b⟩ := (hv2_368 : In _ _ _); obtain ⟨o1a, o1b⟩ := (hv3_368 : In _ _ _); obtain ⟨o2a, o2b⟩ := (hv4_368 : In _ _ _); obtain ⟨o3a, o3b⟩ := (hv5_368 : In _ _ _); obtain ⟨o4a, o4b⟩ := (hv6_368 : In _ _ _); obtain ⟨o5a, o5b⟩ := (hv9_368 : In _ _ _); obtain ⟨o6a, o6b⟩ := (hv13_368 : In _ _ _); obtain ⟨o7a, o7b⟩ := (hv14_368 : In _ _ _); obtain ⟨o8a, o8b⟩ := (hv15_368 : In _ _ _); obtain ⟨o9a, o9b⟩ := (hv17_368 : In _ _ _); obtain ⟨o10a, o10b⟩ := (hv20_368 : In _ _ _); obtain ⟨o11a, o11b⟩ := (hv23_368 : In _ _ _); obtain ⟨o12a, o12b⟩ := (hv36_368 : In _ _ _); obtain ⟨o13a, o13b⟩ := (hv47_368 : In _ _ _); obtain ⟨o14a, o14b⟩ := (hv48_368 : In _ _ _); obtain ⟨o15a, o15b⟩ := (hv53_368 : In _ _ _); obtain ⟨o16a, o16b⟩ := (hv55_368 : In _ _ _); omega)) dX11_brings_32 (fun H locs f375 r378 er378 hf376 ho377 hP hD hS => ?_)
                  have hc379 : ∀ i : Nat, i < 500 → In (r378 i) (-128) 127 := cont_upd er378 hc350 (nar_byte _)
                  have hf380 := (ho377 (ad 255) (hst.ne (by decide) (by decide) (by decide))).trans hf369
                  have hfr : (∀ b, b ≠ (ad 255) → b ≠ (ad 256) → f375 b = f b) := fun b z0_ z1_ => (ho377 b z1_).trans (hfr b z0_ z1_)
                  refine lv_aload_n hx hb dX11_brings_33 rfl (lv_at hl 2 rfl) ?_
                  refine lv_dup hx hb dX11_brings_34 rfl ?_
                  refine pl_get (v := .int v2_368) hx hb hts (fun w h => mT (inX11 w h)) hown hG.1 hP (hst.1 255 (by decide)) hf380 rfl 2 (by decide) (hts _ (mT wg_1338)) (fun _ h => h) rfl dX11_brings_35 ?_
                  refine lv_iconst (v := 1) hx hb dX11_brings_38 (by decide) ?_
                  refine lv_iadd hx hb dX11_brings_39 ?_
                  refine lv_topi (fun x381 ex381 => ?_)
                  have hb382 : In x381 1 501 := ex381 ▸ In.add hv2_368 (⟨by decide, by decide⟩ : In 1 1 1) (by decide) (by decide) (by decide) (by decide)
                  have et383 : x381.toInt = v2_368.toInt + 1 := In.adde ex381 hv2_368 (k := 1) (by decide) (by decide) (by decide)
                  have hT := TI.updM hT hst (k := 1) (by decide) hf376 ho377 ⟨r378, rfl, hc379⟩
                  refine pl_put (ty := .int) (v := .int x381) (fs' := [.int v0_368, .ref (ad 256), .int x381, .int v3_368, .int v4_368, .int v5_368, .int v6_368, .ref (ad 257), .int v8_368, .int v9_368, .ref (ad 258), .ref (ad 259), .int v12_368, .int v13_368, .int v14_368, .int v15_368, .int v16_368, .int v17_368, .int v18_368, .int v19_368, .int v20_368, .long v21_368, .long v22_368, .int v23_368, .ref (ad 260), .int v25_368, .ref (ad 261), .ref (ad 262), .ref (ad 263), .ref (ad 264), .ref (ad 265), .ref (ad 266), .ref (ad 267), .ref (ad 268), .ref (ad 269), .ref (ad 270), .int v36_368, .int v37_368, .int v38_368, .int v39_368, .int v40_368, .ref (ad 271), .ref (ad 272), .ref (ad 273), .ref (ad 274), .long v45_368, .long v46_368, .int v47_368, .int v48_368, .ref (ad 275), .int v50_368, .int v51_368, .ref (ad 276), .int v53_368, .ref (ad 277), .int v55_368]) hx hb hts (fun w h => mT (inX11 w h)) tyX11 tyX11_ok nmX11 hown hG.1 hP hD hS (hst.1 255 (by decide)) hf380 rfl 2 (by decide) (hts _ (mT wg_1338)) (fun _ h => h) rfl (by decide +kernel) (rfl) (rfl) (Nat.le_of_ble_eq_true rfl) rfl dX11_brings_40 (fun H locs f384 hf385 ho386 hP hD hS => ?_)
                  have hf387 := (ho386 (ad 256) (hst.ne (by decide) (by decide) (by decide))).trans hf376
                  have hfr : (∀ b, b ≠ (ad 255) → b ≠ (ad 256) → f384 b = f b) := fun b z0_ z1_ => (ho386 b z0_).trans (hfr b z0_ z1_)
                  refine lv_iinc (v := (-8)) (lv' := [(2, .int (-8)), (3, .int x363), (0, .ref (ad 255)), (1, .int z1)]) hx hb dX11_brings_43 hl (k := 1) rfl (by decide) (by decide) rfl (fun ls hl => ?_)
                  have hT := TI.updMG (th' := (gset (gset th 13 x352.toInt) 13 (x381.toInt))) hT hst (k := 0) (by decide) hf385 ho386 ⟨v0_368, x381, v3_368, v4_368, v5_368, v6_368, v8_368, v9_368, v12_368, v13_368, v14_368, v15_368, v16_368, v17_368, v18_368, v19_368, v20_368, v21_368, v22_368, v23_368, v25_368, v36_368, v37_368, v38_368, v39_368, v40_368, v45_368, v46_368, v47_368, v48_368, v50_368, v51_368, v53_368, v55_368, rfl, hv0_368, (In.mk (by obtain ⟨o0a, o0b⟩ := (hb382 : In _ _ _); obtain ⟨o1a, o1b⟩ := (hv3_368 : In _ _ _); obtain ⟨o2a, o2b⟩ := (hv4_368 : In _ _ _); obtain ⟨o3a, o3b⟩ := (hv5_368 : In _ _ _); obtain ⟨o4a, o4b⟩ := (hv6_368 : In _ _ _); obtain ⟨o5a, o5b⟩ := (hv9_368 : In _ _ _); obtain ⟨o6a, o6b⟩ := (hv13_368 : In _ _ _); obtain ⟨o7a, o7b⟩ := (hv14_368 : In _ _ _); obtain ⟨o8a, o8b⟩ := (hv15_368 : In _ _ _); obtain ⟨o9a, o9b⟩ := (hv17_368 : In _ _ _); obtain ⟨o10a, o10b⟩ := (hv20_368 : In _ _ _); obtain ⟨o11a, o11b⟩ := (hv23_368 : In _ _ _); obtain ⟨o12a, o12b⟩ := (hv36_368 : In _ _ _); obtain ⟨o13a, o13b⟩ := (hv47_368 : In _ _ _); obtain ⟨o14a, o14b⟩ := (hv48_368 : In _ _ _); obtain ⟨o15a, o15b⟩ := (hv53_368 : In _ _ _); obtain ⟨o16a, o16b⟩ := (hv55_368 : In _ _ _); obtain ⟨o17a, o17b⟩ := (hv2_368 : In _ _ _); omega) (by obtain ⟨o0a, o0b⟩ := (hb382 : In _ _ _); obtain ⟨o1a, o1b⟩ := (hv3_368 : In _ _ _); obtain ⟨o2a, o2b⟩ := (hv4_368 : In _ _ _); obtain ⟨o3a, o3b⟩ := (hv5_368 : In _ _ _); obtain ⟨o4a, o4b⟩ := (hv6_368 : In _ _ _); obtain ⟨o5a, o5b⟩ := (hv9_368 : In _ _ _); obtain ⟨o6a, o6b⟩ := (hv13_368 : In _ _ _); obtain ⟨o7a, o7b⟩ := (hv14_368 : In _ _ _); obtain ⟨o8a, o8b⟩ := (hv15_368 : In _ _ _); obtain ⟨o9a, o9b⟩ := (hv17_368 : In _ _ _); obtain ⟨o10a, o10b⟩ := (hv20_368 : In _ _ _); obtain ⟨o11a, o11b⟩ := (hv23_368 : In _ _ _); obtain ⟨o12a, o12b⟩ := (hv36_368 : In _ _ _); obtain ⟨o13a, o13b⟩ := (hv47_368 : In _ _ _); obtain ⟨o14a, o14b⟩ := (hv48_368 : In _ _ _); obtain ⟨o15a, o15b⟩ := (hv53_368 : In _ _ _); obtain ⟨o16a, o16b⟩ := (hv55_368 : In _ _ _); obtain ⟨o17a, o17b⟩ := (hv2_368 : In _ _ _); omega)), (by simp [gset]), hv3_368, (by rw [hg3_368]; simp [gset]), hv4_368, (by rw [hg4_368]; simp [gset]), hv5_368, (by rw [hg5_368]; simp [gset]), hv6_368, (by rw [hg6_368]; simp [gset]), hv8_368, hv9_368, (by rw [hg9_368]; simp [gset]), hv12_368, hv13_368, (by rw [hg13_368]; simp [gset]), hv14_368, (by rw [hg14_368]; simp [gset]), hv15_368, (by rw [hg15_368]; simp [gset]), hv17_368, (by rw [hg17_368]; simp [gset]), hv20_368, (by rw [hg20_368]; simp [gset]), hv23_368, (by rw [hg23_368]; simp [gset]), hv25_368, hv36_368, (by rw [hg36_368]; simp [gset]), hv47_368, (by rw [hg47_368]; simp [gset]), hv48_368, (by rw [hg48_368]; simp [gset]), hv53_368, (by rw [hg53_368]; simp [gset]), hv55_368, (by rw [hg55_368]; simp [gset]), hrel0_368⟩ (fun q hq => ((gset_ne (fun e => hq (by subst e; decide))).trans rfl))
                  have hT : TI g ad (gset th 13 x381.toInt) f384 := TI.cast hT (by funext q; simp only [gset]; (repeat' split); all_goals first | rfl | omega | (subst_vars; rfl) | (exfalso; omega))
                  refine lv_goto (tgt := 3) hx hb dX11_brings_46 (by decide) ?_
                  refine lv_iload_n hx hb dX11_brings_3 rfl (lv_at hl 0 rfl) ?_
                  refine lv_if_lt (tgt := 49) hx hb dX11_brings_4 (by decide) (fun c388 => ?_) (fun c388 => ?_)
                  ·
                    have ocm8 : ((-8) : Int32).toInt = (-8) := by decide
                    have oc0 : (0 : Int32).toInt = 0 := by decide
                    have cc389 : ((-8) : Int32).toInt < (0 : Int32).toInt := i32_lt.mp c388
                    have hby390 : b1 z1 24 = 0 := b1_0 (by rw [show byS z1 24 = x5 by rw [ex5, ex4]; rfl]; exact c7)
                    have hby391 : b1 z1 16 = 1 := b1_1 (by rw [show byS z1 16 = x305 by rw [ex305, ex304]; rfl]; exact c307)
                    have hby392 : b1 z1 8 = 1 := b1_1 (by rw [show byS z1 8 = x335 by rw [ex335, ex334]; rfl]; exact c337)
                    have hby393 : b1 z1 0 = 1 := b1_1 (by rw [show byS z1 0 = x363 by rw [ex363, ex362]; rfl]; exact c365)
                    exact ret_v hx hb hr hlocks hP hD hS (Nat.le_of_ble_eq_true rfl) (Nat.le_of_ble_eq_true rfl) (⟨rfl, ⟨x381.toInt, (show x381.toInt = th 13 + nb z1 from (by omega)), TI.cast hT (by funext q; simp only [gset]; (repeat' split); all_goals first | rfl | omega | (subst_vars; rfl) | (exfalso; omega))⟩, hfr⟩) dX11_brings_49
                  ·
                    have ocm8 : ((-8) : Int32).toInt = (-8) := by decide
                    have oc0 : (0 : Int32).toInt = 0 := by decide
                    have cc394 : (0 : Int32).toInt ≤ ((-8) : Int32).toInt := i32_nlt c388
                    exact In.empty (lo := 0) (hi := (-8)) (In.ge1 (⟨by decide, by decide⟩ : In (-8) (-8) (-8)) (⟨by decide, by decide⟩ : In 0 0 0) cc394 (by omega) (by omega)) (by decide)
                ·
                  have oc0 : (0 : Int32).toInt = 0 := by decide
                  have cc395 : x363.toInt = (0 : Int32).toInt := congrArg Int32.toInt c365
                  have hb396 : In x363 0 0 := In.eq1 hb364 (⟨by decide, by decide⟩ : In 0 0 0) cc395 (by omega) (by omega)
                  refine lv_goto (tgt := 43) hx hb dX11_brings_19 (by decide) ?_
                  refine lv_iinc (v := (-8)) (lv' := [(2, .int (-8)), (3, .int x363), (0, .ref (ad 255)), (1, .int z1)]) hx hb dX11_brings_43 hl (k := 1) rfl (by decide) (by decide) rfl (fun ls hl => ?_)
                  refine lv_goto (tgt := 3) hx hb dX11_brings_46 (by decide) ?_
                  refine lv_iload_n hx hb dX11_brings_3 rfl (lv_at hl 0 rfl) ?_
                  refine lv_if_lt (tgt := 49) hx hb dX11_brings_4 (by decide) (fun c397 => ?_) (fun c397 => ?_)
                  ·
                    have ocm8 : ((-8) : Int32).toInt = (-8) := by decide
                    have oc0 : (0 : Int32).toInt = 0 := by decide
                    have cc398 : ((-8) : Int32).toInt < (0 : Int32).toInt := i32_lt.mp c397
                    have hby399 : b1 z1 24 = 0 := b1_0 (by rw [show byS z1 24 = x5 by rw [ex5, ex4]; rfl]; exact c7)
                    have hby400 : b1 z1 16 = 1 := b1_1 (by rw [show byS z1 16 = x305 by rw [ex305, ex304]; rfl]; exact c307)
                    have hby401 : b1 z1 8 = 1 := b1_1 (by rw [show byS z1 8 = x335 by rw [ex335, ex334]; rfl]; exact c337)
                    have hby402 : b1 z1 0 = 0 := b1_0 (by rw [show byS z1 0 = x363 by rw [ex363, ex362]; rfl]; exact c365)
                    exact ret_v hx hb hr hlocks hP hD hS (Nat.le_of_ble_eq_true rfl) (Nat.le_of_ble_eq_true rfl) (⟨rfl, ⟨x352.toInt, (show x352.toInt = th 13 + nb z1 from (by omega)), TI.cast hT (by funext q; simp only [gset]; (repeat' split); all_goals first | rfl | omega | (subst_vars; rfl) | (exfalso; omega))⟩, hfr⟩) dX11_brings_49
                  ·
                    have ocm8 : ((-8) : Int32).toInt = (-8) := by decide
                    have oc0 : (0 : Int32).toInt = 0 := by decide
                    have cc403 : (0 : Int32).toInt ≤ ((-8) : Int32).toInt := i32_nlt c397
                    exact In.empty (lo := 0) (hi := (-8)) (In.ge1 (⟨by decide, by decide⟩ : In (-8) (-8) (-8)) (⟨by decide, by decide⟩ : In 0 0 0) cc403 (by omega) (by omega)) (by decide)
            ·
              have oc0 : (0 : Int32).toInt = 0 := by decide
              have cc404 : x335.toInt = (0 : Int32).toInt := congrArg Int32.toInt c337
              have hb405 : In x335 0 0 := In.eq1 hb336 (⟨by decide, by decide⟩ : In 0 0 0) cc404 (by omega) (by omega)
              refine lv_goto (tgt := 43) hx hb dX11_brings_19 (by decide) ?_
              refine lv_iinc (v := 0) (lv' := [(2, .int 0), (3, .int x335), (0, .ref (ad 255)), (1, .int z1)]) hx hb dX11_brings_43 hl (k := 1) rfl (by decide) (by decide) rfl (fun ls hl => ?_)
              refine lv_goto (tgt := 3) hx hb dX11_brings_46 (by decide) ?_
              refine lv_iload_n hx hb dX11_brings_3 rfl (lv_at hl 0 rfl) ?_
              refine lv_if_lt (tgt := 49) hx hb dX11_brings_4 (by decide) (fun c406 => ?_) (fun c406 => ?_)
              ·
                have oc0 : (0 : Int32).toInt = 0 := by decide
                have oc0 : (0 : Int32).toInt = 0 := by decide
                have cc407 : (0 : Int32).toInt < (0 : Int32).toInt := i32_lt.mp c406
                exact In.empty (lo := 0) (hi := (-1)) (In.lt1 (⟨by decide, by decide⟩ : In 0 0 0) (⟨by decide, by decide⟩ : In 0 0 0) cc407 (by omega) (by omega)) (by decide)
              ·
                have oc0 : (0 : Int32).toInt = 0 := by decide
                have oc0 : (0 : Int32).toInt = 0 := by decide
                have cc408 : (0 : Int32).toInt ≤ (0 : Int32).toInt := i32_nlt c406
                refine lv_iload_n hx hb dX11_brings_7 rfl (lv_at hl 3 rfl) ?_
                refine lv_iload_n hx hb dX11_brings_8 rfl (lv_at hl 0 rfl) ?_
                refine lv_ishr hx hb dX11_brings_9 ?_
                refine lv_topi (fun x409 ex409 => ?_)
                refine lv_sipush (v := 255) hx hb dX11_brings_10 (by decide) ?_
                refine lv_iand hx hb dX11_brings_13 ?_
                refine lv_topi (fun x410 ex410 => ?_)
                have hb411 : In x410 0 255 := ex410 ▸ In.andr (⟨by decide, by decide⟩ : In 255 255 255) (by decide)
                refine lv_istore_n (lv' := [(3, .int x410), (2, .int 0), (0, .ref (ad 255)), (1, .int z1)]) hx hb dX11_brings_14 rfl hl (by decide) rfl (fun ls hl => ?_)
                refine lv_iload_n hx hb dX11_brings_15 rfl (lv_at hl 0 rfl) ?_
                refine lv_if_ne (tgt := 22) hx hb dX11_brings_16 (by decide) (fun c412 => ?_) (fun c412 => ?_)
                ·
                  have oc0 : (0 : Int32).toInt = 0 := by decide
                  have cc413 : x410.toInt ≠ (0 : Int32).toInt := i32_ne c412
                  have hb414 : In x410 1 255 := In.ne1 hb411 (⟨by decide, by decide⟩ : In 0 0 0) cc413 (by omega) (by omega)
                  refine lv_aload_n hx hb dX11_brings_22 rfl (lv_at hl 2 rfl) ?_
                  obtain ⟨v0_415, v2_415, v3_415, v4_415, v5_415, v6_415, v8_415, v9_415, v12_415, v13_415, v14_415, v15_415, v16_415, v17_415, v18_415, v19_415, v20_415, v21_415, v22_415, v23_415, v25_415, v36_415, v37_415, v38_415, v39_415, v40_415, v45_415, v46_415, v47_415, v48_415, v50_415, v51_415, v53_415, v55_415, hf416, hv0_415, hv2_415, hg2_415, hv3_415, hg3_415, hv4_415, hg4_415, hv5_415, hg5_415, hv6_415, hg6_415, hv8_415, hv9_415, hg9_415, hv12_415, hv13_415, hg13_415, hv14_415, hg14_415, hv15_415, hg15_415, hv17_415, hg17_415, hv20_415, hg20_415, hv23_415, hg23_415, hv25_415, hv36_415, hg36_415, hv47_415, hg47_415, hv48_415, hg48_415, hv53_415, hg53_415, hv55_415, hg55_415, hrel0_415⟩ := hT.2.2 0 (by decide)
                  have hg2_415 : v2_415.toInt = x324.toInt := hg2_415
                  have hg3_415 : v3_415.toInt = th 37 := hg3_415
                  have hg4_415 : v4_415.toInt = th 42 := hg4_415
                  have hg5_415 : v5_415.toInt = th 40 := hg5_415
                  have hg6_415 : v6_415.toInt = th 41 := hg6_415
                  have hg9_415 : v9_415.toInt = th 35 := hg9_415
                  have hg13_415 : v13_415.toInt = th 36 := hg13_415
                  have hg14_415 : v14_415.toInt = th 10 := hg14_415
                  have hg15_415 : v15_415.toInt = th 11 := hg15_415
                  have hg17_415 : v17_415.toInt = th 12 := hg17_415
                  have hg20_415 : v20_415.toInt = th 14 := hg20_415
                  have hg23_415 : v23_415.toInt = th 15 := hg23_415
                  have hg36_415 : v36_415.toInt = th 18 := hg36_415
                  have hg47_415 : v47_415.toInt = th 16 := hg47_415
                  have hg48_415 : v48_415.toInt = th 17 := hg48_415
                  have hg53_415 : v53_415.toInt = th 38 := hg53_415
                  have hg55_415 : v55_415.toInt = th 39 := hg55_415
                  refine pl_get (v := .ref (ad 256)) hx hb hts (fun w h => mT (inX11 w h)) hown hG.1 hP (hst.1 255 (by decide)) hf416 rfl 1 (by decide) (hts _ (mT wg_1337)) (fun _ h => h) rfl dX11_brings_23 ?_
                  refine lv_aload_n hx hb dX11_brings_26 rfl (lv_at hl 2 rfl) ?_
                  refine pl_get (v := .int v2_415) hx hb hts (fun w h => mT (inX11 w h)) hown hG.1 hP (hst.1 255 (by decide)) hf416 rfl 2 (by decide) (hts _ (mT wg_1338)) (fun _ h => h) rfl dX11_brings_27 ?_
                  refine lv_iload_n hx hb dX11_brings_30 rfl (lv_at hl 0 rfl) ?_
                  refine lv_i2b hx hb dX11_brings_31 rfl ?_
                  refine lv_topi (fun x417 ex417 => ?_)
                  have hby418 : b1 z1 24 = 0 := b1_0 (by rw [show byS z1 24 = x5 by rw [ex5, ex4]; rfl]; exact c7)
                  have hby419 : b1 z1 16 = 1 := b1_1 (by rw [show byS z1 16 = x305 by rw [ex305, ex304]; rfl]; exact c307)
                  have hby420 : b1 z1 8 = 0 := b1_0 (by rw [show byS z1 8 = x335 by rw [ex335, ex334]; rfl]; exact c337)
                  have hby421 : b1 z1 0 = 1 := b1_1 (by rw [show byS z1 0 = x410 by rw [ex410, ex409]; rfl]; exact c412)
                  refine pl_bastE hx hb hG.1 hP hD hS (hst.1 256 (by decide)) 2 hf330 rfl (vp_of (by obtain ⟨o0a, o0b⟩ := (hv2_415 : In _ _ _); obtain ⟨o1a, o1b⟩ := (hv3_415 : In _ _ _); obtain ⟨o2a, o2b⟩ := (hv4_415 : In _ _ _); obtain ⟨o3a, o3b⟩ := (hv5_415 : In _ _ _); obtain ⟨o4a, o4b⟩ := (hv6_415 : In _ _ _); obtain ⟨o5a, o5b⟩ := (hv9_415 : In _ _ _); obtain ⟨o6a, o6b⟩ := (hv13_415 : In _ _ _); obtain ⟨o7a, o7b⟩ := (hv14_415 : In _ _ _); obtain ⟨o8a, o8b⟩ := (hv15_415 : In _ _ _); obtain ⟨o9a, o9b⟩ := (hv17_415 : In _ _ _); obtain ⟨o10a, o10b⟩ := (hv20_415 : In _ _ _); obtain ⟨o11a, o11b⟩ := (hv23_415 : In _ _ _); obtain ⟨o12a, o12b⟩ := (hv36_415 : In _ _ _); obtain ⟨o13a, o13b⟩ := (hv47_415 : In _ _ _); obtain ⟨o14a, o14b⟩ := (hv48_415 : In _ _ _); obtain ⟨o15a, o15b⟩ := (hv53_415 : In _ _ _); obtain ⟨o16a, o16b⟩ := (hv55_415 : In _ _ _); omega) (by obtain ⟨o0a, o0b⟩ := (hv2_415 : In _ _ _); obtain ⟨o1a, o1b⟩ := (hv3_415 : In _ _ _); obtain ⟨o2a, o2b⟩ := (hv4_415 : In _ _ _); obtain ⟨o3a, o3b⟩ := (hv5_415 : In _ _ _); obtain ⟨o4a, o4b⟩ := (hv6_415 : In _ _ _); obtain ⟨o5a, o5b⟩ := (hv9_415 : In _ _ _); obtain ⟨o6a, o6b⟩ := (hv13_415 : In _ _ _); obtain ⟨o7a, o7b⟩ := (hv14_415 : In _ _ _); obtain ⟨o8a, o8b⟩ := (hv15_415 : In _ _ _); obtain ⟨o9a, o9b⟩ := (hv17_415 : In _ _ _); obtain ⟨o10a, o10b⟩ := (hv20_415 : In _ _ _); obtain ⟨o11a, o11b⟩ := (hv23_415 : In _ _ _); obtain ⟨o12a, o12b⟩ := (hv36_415 : In _ _ _); obtain ⟨o13a, o13b⟩ := (hv47_415 : In _ _ _); obtain ⟨o14a, o14b⟩ := (hv48_415 : In _ _ _); obtain ⟨o15a, o15b⟩ := (hv53_415 : In _ _ _); obtain ⟨o16a, o16b⟩ := (hv55_415 : In _ _ _); omega)) dX11_brings_32 (fun H locs f422 r425 er425 hf423 ho424 hP hD hS => ?_)
                  have hc426 : ∀ i : Nat, i < 500 → In (r425 i) (-128) 127 := cont_upd er425 hc322 (nar_byte _)
                  have hf427 := (ho424 (ad 255) (hst.ne (by decide) (by decide) (by decide))).trans hf416
                  have hfr : (∀ b, b ≠ (ad 255) → b ≠ (ad 256) → f422 b = f b) := fun b z0_ z1_ => (ho424 b z1_).trans (hfr b z0_ z1_)
                  refine lv_aload_n hx hb dX11_brings_33 rfl (lv_at hl 2 rfl) ?_
                  refine lv_dup hx hb dX11_brings_34 rfl ?_
                  refine pl_get (v := .int v2_415) hx hb hts (fun w h => mT (inX11 w h)) hown hG.1 hP (hst.1 255 (by decide)) hf427 rfl 2 (by decide) (hts _ (mT wg_1338)) (fun _ h => h) rfl dX11_brings_35 ?_
                  refine lv_iconst (v := 1) hx hb dX11_brings_38 (by decide) ?_
                  refine lv_iadd hx hb dX11_brings_39 ?_
                  refine lv_topi (fun x428 ex428 => ?_)
                  have hb429 : In x428 1 501 := ex428 ▸ In.add hv2_415 (⟨by decide, by decide⟩ : In 1 1 1) (by decide) (by decide) (by decide) (by decide)
                  have et430 : x428.toInt = v2_415.toInt + 1 := In.adde ex428 hv2_415 (k := 1) (by decide) (by decide) (by decide)
                  have hT := TI.updM hT hst (k := 1) (by decide) hf423 ho424 ⟨r425, rfl, hc426⟩
                  refine pl_put (ty := .int) (v := .int x428) (fs' := [.int v0_415, .ref (ad 256), .int x428, .int v3_415, .int v4_415, .int v5_415, .int v6_415, .ref (ad 257), .int v8_415, .int v9_415, .ref (ad 258), .ref (ad 259), .int v12_415, .int v13_415, .int v14_415, .int v15_415, .int v16_415, .int v17_415, .int v18_415, .int v19_415, .int v20_415, .long v21_415, .long v22_415, .int v23_415, .ref (ad 260), .int v25_415, .ref (ad 261), .ref (ad 262), .ref (ad 263), .ref (ad 264), .ref (ad 265), .ref (ad 266), .ref (ad 267), .ref (ad 268), .ref (ad 269), .ref (ad 270), .int v36_415, .int v37_415, .int v38_415, .int v39_415, .int v40_415, .ref (ad 271), .ref (ad 272), .ref (ad 273), .ref (ad 274), .long v45_415, .long v46_415, .int v47_415, .int v48_415, .ref (ad 275), .int v50_415, .int v51_415, .ref (ad 276), .int v53_415, .ref (ad 277), .int v55_415]) hx hb hts (fun w h => mT (inX11 w h)) tyX11 tyX11_ok nmX11 hown hG.1 hP hD hS (hst.1 255 (by decide)) hf427 rfl 2 (by decide) (hts _ (mT wg_1338)) (fun _ h => h) rfl (by decide +kernel) (rfl) (rfl) (Nat.le_of_ble_eq_true rfl) rfl dX11_brings_40 (fun H locs f431 hf432 ho433 hP hD hS => ?_)
                  have hf434 := (ho433 (ad 256) (hst.ne (by decide) (by decide) (by decide))).trans hf423
                  have hfr : (∀ b, b ≠ (ad 255) → b ≠ (ad 256) → f431 b = f b) := fun b z0_ z1_ => (ho433 b z0_).trans (hfr b z0_ z1_)
                  refine lv_iinc (v := (-8)) (lv' := [(2, .int (-8)), (3, .int x410), (0, .ref (ad 255)), (1, .int z1)]) hx hb dX11_brings_43 hl (k := 1) rfl (by decide) (by decide) rfl (fun ls hl => ?_)
                  have hT := TI.updMG (th' := (gset (gset th 13 x324.toInt) 13 (x428.toInt))) hT hst (k := 0) (by decide) hf432 ho433 ⟨v0_415, x428, v3_415, v4_415, v5_415, v6_415, v8_415, v9_415, v12_415, v13_415, v14_415, v15_415, v16_415, v17_415, v18_415, v19_415, v20_415, v21_415, v22_415, v23_415, v25_415, v36_415, v37_415, v38_415, v39_415, v40_415, v45_415, v46_415, v47_415, v48_415, v50_415, v51_415, v53_415, v55_415, rfl, hv0_415, (In.mk (by obtain ⟨o0a, o0b⟩ := (hb429 : In _ _ _); obtain ⟨o1a, o1b⟩ := (hv3_415 : In _ _ _); obtain ⟨o2a, o2b⟩ := (hv4_415 : In _ _ _); obtain ⟨o3a, o3b⟩ := (hv5_415 : In _ _ _); obtain ⟨o4a, o4b⟩ := (hv6_415 : In _ _ _); obtain ⟨o5a, o5b⟩ := (hv9_415 : In _ _ _); obtain ⟨o6a, o6b⟩ := (hv13_415 : In _ _ _); obtain ⟨o7a, o7b⟩ := (hv14_415 : In _ _ _); obtain ⟨o8a, o8b⟩ := (hv15_415 : In _ _ _); obtain ⟨o9a, o9b⟩ := (hv17_415 : In _ _ _); obtain ⟨o10a, o10b⟩ := (hv20_415 : In _ _ _); obtain ⟨o11a, o11b⟩ := (hv23_415 : In _ _ _); obtain ⟨o12a, o12b⟩ := (hv36_415 : In _ _ _); obtain ⟨o13a, o13b⟩ := (hv47_415 : In _ _ _); obtain ⟨o14a, o14b⟩ := (hv48_415 : In _ _ _); obtain ⟨o15a, o15b⟩ := (hv53_415 : In _ _ _); obtain ⟨o16a, o16b⟩ := (hv55_415 : In _ _ _); obtain ⟨o17a, o17b⟩ := (hv2_415 : In _ _ _); omega) (by obtain ⟨o0a, o0b⟩ := (hb429 : In _ _ _); obtain ⟨o1a, o1b⟩ := (hv3_415 : In _ _ _); obtain ⟨o2a, o2b⟩ := (hv4_415 : In _ _ _); obtain ⟨o3a, o3b⟩ := (hv5_415 : In _ _ _); obtain ⟨o4a, o4b⟩ := (hv6_415 : In _ _ _); obtain ⟨o5a, o5b⟩ := (hv9_415 : In _ _ _); obtain ⟨o6a, o6b⟩ := (hv13_415 : In _ _ _); obtain ⟨o7a, o7b⟩ := (hv14_415 : In _ _ _); obtain ⟨o8a, o8b⟩ := (hv15_415 : In _ _ _); obtain ⟨o9a, o9b⟩ := (hv17_415 : In _ _ _); obtain ⟨o10a, o10b⟩ := (hv20_415 : In _ _ _); obtain ⟨o11a, o11b⟩ := (hv23_415 : In _ _ _); obtain ⟨o12a, o12b⟩ := (hv36_415 : In _ _ _); obtain ⟨o13a, o13b⟩ := (hv47_415 : In _ _ _); obtain ⟨o14a, o14b⟩ := (hv48_415 : In _ _ _); obtain ⟨o15a, o15b⟩ := (hv53_415 : In _ _ _); obtain ⟨o16a, o16b⟩ := (hv55_415 : In _ _ _); obtain ⟨o17a, o17b⟩ := (hv2_415 : In _ _ _); omega)), (by simp [gset]), hv3_415, (by rw [hg3_415]; simp [gset]), hv4_415, (by rw [hg4_415]; simp [gset]), hv5_415, (by rw [hg5_415]; simp [gset]), hv6_415, (by rw [hg6_415]; simp [gset]), hv8_415, hv9_415, (by rw [hg9_415]; simp [gset]), hv12_415, hv13_415, (by rw [hg13_415]; simp [gset]), hv14_415, (by rw [hg14_415]; simp [gset]), hv15_415, (by rw [hg15_415]; simp [gset]), hv17_415, (by rw [hg17_415]; simp [gset]), hv20_415, (by rw [hg20_415]; simp [gset]), hv23_415, (by rw [hg23_415]; simp [gset]), hv25_415, hv36_415, (by rw [hg36_415]; simp [gset]), hv47_415, (by rw [hg47_415]; simp [gset]), hv48_415, (by rw [hg48_415]; simp [gset]), hv53_415, (by rw [hg53_415]; simp [gset]), hv55_415, (by rw [hg55_415]; simp [gset]), hrel0_415⟩ (fun q hq => ((gset_ne (fun e => hq (by subst e; decide))).trans rfl))
                  have hT : TI g ad (gset th 13 x428.toInt) f431 := TI.cast hT (by funext q; simp only [gset]; (repeat' split); all_goals first | rfl | omega | (subst_vars; rfl) | (exfalso; omega))
                  refine lv_goto (tgt := 3) hx hb dX11_brings_46 (by decide) ?_
                  refine lv_iload_n hx hb dX11_brings_3 rfl (lv_at hl 0 rfl) ?_
                  refine lv_if_lt (tgt := 49) hx hb dX11_brings_4 (by decide) (fun c435 => ?_) (fun c435 => ?_)
                  ·
                    have ocm8 : ((-8) : Int32).toInt = (-8) := by decide
                    have oc0 : (0 : Int32).toInt = 0 := by decide
                    have cc436 : ((-8) : Int32).toInt < (0 : Int32).toInt := i32_lt.mp c435
                    have hby437 : b1 z1 24 = 0 := b1_0 (by rw [show byS z1 24 = x5 by rw [ex5, ex4]; rfl]; exact c7)
                    have hby438 : b1 z1 16 = 1 := b1_1 (by rw [show byS z1 16 = x305 by rw [ex305, ex304]; rfl]; exact c307)
                    have hby439 : b1 z1 8 = 0 := b1_0 (by rw [show byS z1 8 = x335 by rw [ex335, ex334]; rfl]; exact c337)
                    have hby440 : b1 z1 0 = 1 := b1_1 (by rw [show byS z1 0 = x410 by rw [ex410, ex409]; rfl]; exact c412)
                    exact ret_v hx hb hr hlocks hP hD hS (Nat.le_of_ble_eq_true rfl) (Nat.le_of_ble_eq_true rfl) (⟨rfl, ⟨x428.toInt, (show x428.toInt = th 13 + nb z1 from (by omega)), TI.cast hT (by funext q; simp only [gset]; (repeat' split); all_goals first | rfl | omega | (subst_vars; rfl) | (exfalso; omega))⟩, hfr⟩) dX11_brings_49
                  ·
                    have ocm8 : ((-8) : Int32).toInt = (-8) := by decide
                    have oc0 : (0 : Int32).toInt = 0 := by decide
                    have cc441 : (0 : Int32).toInt ≤ ((-8) : Int32).toInt := i32_nlt c435
                    exact In.empty (lo := 0) (hi := (-8)) (In.ge1 (⟨by decide, by decide⟩ : In (-8) (-8) (-8)) (⟨by decide, by decide⟩ : In 0 0 0) cc441 (by omega) (by omega)) (by decide)
                ·
                  have oc0 : (0 : Int32).toInt = 0 := by decide
                  have cc442 : x410.toInt = (0 : Int32).toInt := congrArg Int32.toInt c412
                  have hb443 : In x410 0 0 := In.eq1 hb411 (⟨by decide, by decide⟩ : In 0 0 0) cc442 (by omega) (by omega)
                  refine lv_goto (tgt := 43) hx hb dX11_brings_19 (by decide) ?_
                  refine lv_iinc (v := (-8)) (lv' := [(2, .int (-8)), (3, .int x410), (0, .ref (ad 255)), (1, .int z1)]) hx hb dX11_brings_43 hl (k := 1) rfl (by decide) (by decide) rfl (fun ls hl => ?_)
                  refine lv_goto (tgt := 3) hx hb dX11_brings_46 (by decide) ?_
                  refine lv_iload_n hx hb dX11_brings_3 rfl (lv_at hl 0 rfl) ?_
                  refine lv_if_lt (tgt := 49) hx hb dX11_brings_4 (by decide) (fun c444 => ?_) (fun c444 => ?_)
                  ·
                    have ocm8 : ((-8) : Int32).toInt = (-8) := by decide
                    have oc0 : (0 : Int32).toInt = 0 := by decide
                    have cc445 : ((-8) : Int32).toInt < (0 : Int32).toInt := i32_lt.mp c444
                    have hby446 : b1 z1 24 = 0 := b1_0 (by rw [show byS z1 24 = x5 by rw [ex5, ex4]; rfl]; exact c7)
                    have hby447 : b1 z1 16 = 1 := b1_1 (by rw [show byS z1 16 = x305 by rw [ex305, ex304]; rfl]; exact c307)
                    have hby448 : b1 z1 8 = 0 := b1_0 (by rw [show byS z1 8 = x335 by rw [ex335, ex334]; rfl]; exact c337)
                    have hby449 : b1 z1 0 = 0 := b1_0 (by rw [show byS z1 0 = x410 by rw [ex410, ex409]; rfl]; exact c412)
                    exact ret_v hx hb hr hlocks hP hD hS (Nat.le_of_ble_eq_true rfl) (Nat.le_of_ble_eq_true rfl) (⟨rfl, ⟨x324.toInt, (show x324.toInt = th 13 + nb z1 from (by omega)), TI.cast hT (by funext q; simp only [gset]; (repeat' split); all_goals first | rfl | omega | (subst_vars; rfl) | (exfalso; omega))⟩, hfr⟩) dX11_brings_49
                  ·
                    have ocm8 : ((-8) : Int32).toInt = (-8) := by decide
                    have oc0 : (0 : Int32).toInt = 0 := by decide
                    have cc450 : (0 : Int32).toInt ≤ ((-8) : Int32).toInt := i32_nlt c444
                    exact In.empty (lo := 0) (hi := (-8)) (In.ge1 (⟨by decide, by decide⟩ : In (-8) (-8) (-8)) (⟨by decide, by decide⟩ : In 0 0 0) cc450 (by omega) (by omega)) (by decide)
        ·
          have oc0 : (0 : Int32).toInt = 0 := by decide
          have cc451 : x305.toInt = (0 : Int32).toInt := congrArg Int32.toInt c307
          have hb452 : In x305 0 0 := In.eq1 hb306 (⟨by decide, by decide⟩ : In 0 0 0) cc451 (by omega) (by omega)
          refine lv_goto (tgt := 43) hx hb dX11_brings_19 (by decide) ?_
          refine lv_iinc (v := 8) (lv' := [(2, .int 8), (3, .int x305), (0, .ref (ad 255)), (1, .int z1)]) hx hb dX11_brings_43 hl (k := 1) rfl (by decide) (by decide) rfl (fun ls hl => ?_)
          refine lv_goto (tgt := 3) hx hb dX11_brings_46 (by decide) ?_
          refine lv_iload_n hx hb dX11_brings_3 rfl (lv_at hl 0 rfl) ?_
          refine lv_if_lt (tgt := 49) hx hb dX11_brings_4 (by decide) (fun c453 => ?_) (fun c453 => ?_)
          ·
            have oc8 : (8 : Int32).toInt = 8 := by decide
            have oc0 : (0 : Int32).toInt = 0 := by decide
            have cc454 : (8 : Int32).toInt < (0 : Int32).toInt := i32_lt.mp c453
            exact In.empty (lo := 8) (hi := (-1)) (In.lt1 (⟨by decide, by decide⟩ : In 8 8 8) (⟨by decide, by decide⟩ : In 0 0 0) cc454 (by omega) (by omega)) (by decide)
          ·
            have oc8 : (8 : Int32).toInt = 8 := by decide
            have oc0 : (0 : Int32).toInt = 0 := by decide
            have cc455 : (0 : Int32).toInt ≤ (8 : Int32).toInt := i32_nlt c453
            refine lv_iload_n hx hb dX11_brings_7 rfl (lv_at hl 3 rfl) ?_
            refine lv_iload_n hx hb dX11_brings_8 rfl (lv_at hl 0 rfl) ?_
            refine lv_ishr hx hb dX11_brings_9 ?_
            refine lv_topi (fun x456 ex456 => ?_)
            refine lv_sipush (v := 255) hx hb dX11_brings_10 (by decide) ?_
            refine lv_iand hx hb dX11_brings_13 ?_
            refine lv_topi (fun x457 ex457 => ?_)
            have hb458 : In x457 0 255 := ex457 ▸ In.andr (⟨by decide, by decide⟩ : In 255 255 255) (by decide)
            refine lv_istore_n (lv' := [(3, .int x457), (2, .int 8), (0, .ref (ad 255)), (1, .int z1)]) hx hb dX11_brings_14 rfl hl (by decide) rfl (fun ls hl => ?_)
            refine lv_iload_n hx hb dX11_brings_15 rfl (lv_at hl 0 rfl) ?_
            refine lv_if_ne (tgt := 22) hx hb dX11_brings_16 (by decide) (fun c459 => ?_) (fun c459 => ?_)
            ·
              have oc0 : (0 : Int32).toInt = 0 := by decide
              have cc460 : x457.toInt ≠ (0 : Int32).toInt := i32_ne c459
              have hb461 : In x457 1 255 := In.ne1 hb458 (⟨by decide, by decide⟩ : In 0 0 0) cc460 (by omega) (by omega)
              refine lv_aload_n hx hb dX11_brings_22 rfl (lv_at hl 2 rfl) ?_
              obtain ⟨v0_462, v2_462, v3_462, v4_462, v5_462, v6_462, v8_462, v9_462, v12_462, v13_462, v14_462, v15_462, v16_462, v17_462, v18_462, v19_462, v20_462, v21_462, v22_462, v23_462, v25_462, v36_462, v37_462, v38_462, v39_462, v40_462, v45_462, v46_462, v47_462, v48_462, v50_462, v51_462, v53_462, v55_462, hf463, hv0_462, hv2_462, hg2_462, hv3_462, hg3_462, hv4_462, hg4_462, hv5_462, hg5_462, hv6_462, hg6_462, hv8_462, hv9_462, hg9_462, hv12_462, hv13_462, hg13_462, hv14_462, hg14_462, hv15_462, hg15_462, hv17_462, hg17_462, hv20_462, hg20_462, hv23_462, hg23_462, hv25_462, hv36_462, hg36_462, hv47_462, hg47_462, hv48_462, hg48_462, hv53_462, hg53_462, hv55_462, hg55_462, hrel0_462⟩ := hT.2.2 0 (by decide)
              refine pl_get (v := .ref (ad 256)) hx hb hts (fun w h => mT (inX11 w h)) hown hG.1 hP (hst.1 255 (by decide)) hf463 rfl 1 (by decide) (hts _ (mT wg_1337)) (fun _ h => h) rfl dX11_brings_23 ?_
              refine lv_aload_n hx hb dX11_brings_26 rfl (lv_at hl 2 rfl) ?_
              refine pl_get (v := .int v2_462) hx hb hts (fun w h => mT (inX11 w h)) hown hG.1 hP (hst.1 255 (by decide)) hf463 rfl 2 (by decide) (hts _ (mT wg_1338)) (fun _ h => h) rfl dX11_brings_27 ?_
              refine lv_iload_n hx hb dX11_brings_30 rfl (lv_at hl 0 rfl) ?_
              refine lv_i2b hx hb dX11_brings_31 rfl ?_
              refine lv_topi (fun x464 ex464 => ?_)
              have hby465 : b1 z1 24 = 0 := b1_0 (by rw [show byS z1 24 = x5 by rw [ex5, ex4]; rfl]; exact c7)
              have hby466 : b1 z1 16 = 0 := b1_0 (by rw [show byS z1 16 = x305 by rw [ex305, ex304]; rfl]; exact c307)
              have hby467 : b1 z1 8 = 1 := b1_1 (by rw [show byS z1 8 = x457 by rw [ex457, ex456]; rfl]; exact c459)
              obtain ⟨rw468, hf469, hc470⟩ := hT.2.2 1 (by decide)
              refine pl_bastE hx hb hG.1 hP hD hS (hst.1 256 (by decide)) 2 hf469 rfl (vp_of (by obtain ⟨o0a, o0b⟩ := (hv2_462 : In _ _ _); obtain ⟨o1a, o1b⟩ := (hv3_462 : In _ _ _); obtain ⟨o2a, o2b⟩ := (hv4_462 : In _ _ _); obtain ⟨o3a, o3b⟩ := (hv5_462 : In _ _ _); obtain ⟨o4a, o4b⟩ := (hv6_462 : In _ _ _); obtain ⟨o5a, o5b⟩ := (hv9_462 : In _ _ _); obtain ⟨o6a, o6b⟩ := (hv13_462 : In _ _ _); obtain ⟨o7a, o7b⟩ := (hv14_462 : In _ _ _); obtain ⟨o8a, o8b⟩ := (hv15_462 : In _ _ _); obtain ⟨o9a, o9b⟩ := (hv17_462 : In _ _ _); obtain ⟨o10a, o10b⟩ := (hv20_462 : In _ _ _); obtain ⟨o11a, o11b⟩ := (hv23_462 : In _ _ _); obtain ⟨o12a, o12b⟩ := (hv36_462 : In _ _ _); obtain ⟨o13a, o13b⟩ := (hv47_462 : In _ _ _); obtain ⟨o14a, o14b⟩ := (hv48_462 : In _ _ _); obtain ⟨o15a, o15b⟩ := (hv53_462 : In _ _ _); obtain ⟨o16a, o16b⟩ := (hv55_462 : In _ _ _); omega) (by obtain ⟨o0a, o0b⟩ := (hv2_462 : In _ _ _); obtain ⟨o1a, o1b⟩ := (hv3_462 : In _ _ _); obtain ⟨o2a, o2b⟩ := (hv4_462 : In _ _ _); obtain ⟨o3a, o3b⟩ := (hv5_462 : In _ _ _); obtain ⟨o4a, o4b⟩ := (hv6_462 : In _ _ _); obtain ⟨o5a, o5b⟩ := (hv9_462 : In _ _ _); obtain ⟨o6a, o6b⟩ := (hv13_462 : In _ _ _); obtain ⟨o7a, o7b⟩ := (hv14_462 : In _ _ _); obtain ⟨o8a, o8b⟩ := (hv15_462 : In _ _ _); obtain ⟨o9a, o9b⟩ := (hv17_462 : In _ _ _); obtain ⟨o10a, o10b⟩ := (hv20_462 : In _ _ _); obtain ⟨o11a, o11b⟩ := (hv23_462 : In _ _ _); obtain ⟨o12a, o12b⟩ := (hv36_462 : In _ _ _); obtain ⟨o13a, o13b⟩ := (hv47_462 : In _ _ _); obtain ⟨o14a, o14b⟩ := (hv48_462 : In _ _ _); obtain ⟨o15a, o15b⟩ := (hv53_462 : In _ _ _); obtain ⟨o16a, o16b⟩ := (hv55_462 : In _ _ _); omega)) dX11_brings_32 (fun H locs f471 r474 er474 hf472 ho473 hP hD hS => ?_)
              have hc475 : ∀ i : Nat, i < 500 → In (r474 i) (-128) 127 := cont_upd er474 hc470 (nar_byte _)
              have hf476 := (ho473 (ad 255) (hst.ne (by decide) (by decide) (by decide))).trans hf463
              have hfr : (∀ b, b ≠ (ad 255) → b ≠ (ad 256) → f471 b = f b) := fun b z0_ z1_ => (ho473 b z1_).trans (hfr b z0_ z1_)
              refine lv_aload_n hx hb dX11_brings_33 rfl (lv_at hl 2 rfl) ?_
              refine lv_dup hx hb dX11_brings_34 rfl ?_
              refine pl_get (v := .int v2_462) hx hb hts (fun w h => mT (inX11 w h)) hown hG.1 hP (hst.1 255 (by decide)) hf476 rfl 2 (by decide) (hts _ (mT wg_1338)) (fun _ h => h) rfl dX11_brings_35 ?_
              refine lv_iconst (v := 1) hx hb dX11_brings_38 (by decide) ?_
              refine lv_iadd hx hb dX11_brings_39 ?_
              refine lv_topi (fun x477 ex477 => ?_)
              have hb478 : In x477 1 501 := ex477 ▸ In.add hv2_462 (⟨by decide, by decide⟩ : In 1 1 1) (by decide) (by decide) (by decide) (by decide)
              have et479 : x477.toInt = v2_462.toInt + 1 := In.adde ex477 hv2_462 (k := 1) (by decide) (by decide) (by decide)
              have hT := TI.updM hT hst (k := 1) (by decide) hf472 ho473 ⟨r474, rfl, hc475⟩
              refine pl_put (ty := .int) (v := .int x477) (fs' := [.int v0_462, .ref (ad 256), .int x477, .int v3_462, .int v4_462, .int v5_462, .int v6_462, .ref (ad 257), .int v8_462, .int v9_462, .ref (ad 258), .ref (ad 259), .int v12_462, .int v13_462, .int v14_462, .int v15_462, .int v16_462, .int v17_462, .int v18_462, .int v19_462, .int v20_462, .long v21_462, .long v22_462, .int v23_462, .ref (ad 260), .int v25_462, .ref (ad 261), .ref (ad 262), .ref (ad 263), .ref (ad 264), .ref (ad 265), .ref (ad 266), .ref (ad 267), .ref (ad 268), .ref (ad 269), .ref (ad 270), .int v36_462, .int v37_462, .int v38_462, .int v39_462, .int v40_462, .ref (ad 271), .ref (ad 272), .ref (ad 273), .ref (ad 274), .long v45_462, .long v46_462, .int v47_462, .int v48_462, .ref (ad 275), .int v50_462, .int v51_462, .ref (ad 276), .int v53_462, .ref (ad 277), .int v55_462]) hx hb hts (fun w h => mT (inX11 w h)) tyX11 tyX11_ok nmX11 hown hG.1 hP hD hS (hst.1 255 (by decide)) hf476 rfl 2 (by decide) (hts _ (mT wg_1338)) (fun _ h => h) rfl (by decide +kernel) (rfl) (rfl) (Nat.le_of_ble_eq_true rfl) rfl dX11_brings_40 (fun H locs f480 hf481 ho482 hP hD hS => ?_)
              have hf483 := (ho482 (ad 256) (hst.ne (by decide) (by decide) (by decide))).trans hf472
              have hfr : (∀ b, b ≠ (ad 255) → b ≠ (ad 256) → f480 b = f b) := fun b z0_ z1_ => (ho482 b z0_).trans (hfr b z0_ z1_)
              refine lv_iinc (v := 0) (lv' := [(2, .int 0), (3, .int x457), (0, .ref (ad 255)), (1, .int z1)]) hx hb dX11_brings_43 hl (k := 1) rfl (by decide) (by decide) rfl (fun ls hl => ?_)
              have hT := TI.updMG (th' := (gset th 13 (x477.toInt))) hT hst (k := 0) (by decide) hf481 ho482 ⟨v0_462, x477, v3_462, v4_462, v5_462, v6_462, v8_462, v9_462, v12_462, v13_462, v14_462, v15_462, v16_462, v17_462, v18_462, v19_462, v20_462, v21_462, v22_462, v23_462, v25_462, v36_462, v37_462, v38_462, v39_462, v40_462, v45_462, v46_462, v47_462, v48_462, v50_462, v51_462, v53_462, v55_462, rfl, hv0_462, (In.mk (by obtain ⟨o0a, o0b⟩ := (hb478 : In _ _ _); obtain ⟨o1a, o1b⟩ := (hv3_462 : In _ _ _); obtain ⟨o2a, o2b⟩ := (hv4_462 : In _ _ _); obtain ⟨o3a, o3b⟩ := (hv5_462 : In _ _ _); obtain ⟨o4a, o4b⟩ := (hv6_462 : In _ _ _); obtain ⟨o5a, o5b⟩ := (hv9_462 : In _ _ _); obtain ⟨o6a, o6b⟩ := (hv13_462 : In _ _ _); obtain ⟨o7a, o7b⟩ := (hv14_462 : In _ _ _); obtain ⟨o8a, o8b⟩ := (hv15_462 : In _ _ _); obtain ⟨o9a, o9b⟩ := (hv17_462 : In _ _ _); obtain ⟨o10a, o10b⟩ := (hv20_462 : In _ _ _); obtain ⟨o11a, o11b⟩ := (hv23_462 : In _ _ _); obtain ⟨o12a, o12b⟩ := (hv36_462 : In _ _ _); obtain ⟨o13a, o13b⟩ := (hv47_462 : In _ _ _); obtain ⟨o14a, o14b⟩ := (hv48_462 : In _ _ _); obtain ⟨o15a, o15b⟩ := (hv53_462 : In _ _ _); obtain ⟨o16a, o16b⟩ := (hv55_462 : In _ _ _); obtain ⟨o17a, o17b⟩ := (hv2_462 : In _ _ _); omega) (by obtain ⟨o0a, o0b⟩ := (hb478 : In _ _ _); obtain ⟨o1a, o1b⟩ := (hv3_462 : In _ _ _); obtain ⟨o2a, o2b⟩ := (hv4_462 : In _ _ _); obtain ⟨o3a, o3b⟩ := (hv5_462 : In _ _ _); obtain ⟨o4a, o4b⟩ := (hv6_462 : In _ _ _); obtain ⟨o5a, o5b⟩ := (hv9_462 : In _ _ _); obtain ⟨o6a, o6b⟩ := (hv13_462 : In _ _ _); obtain ⟨o7a, o7b⟩ := (hv14_462 : In _ _ _); obtain ⟨o8a, o8b⟩ := (hv15_462 : In _ _ _); obtain ⟨o9a, o9b⟩ := (hv17_462 : In _ _ _); obtain ⟨o10a, o10b⟩ := (hv20_462 : In _ _ _); obtain ⟨o11a, o11b⟩ := (hv23_462 : In _ _ _); obtain ⟨o12a, o12b⟩ := (hv36_462 : In _ _ _); obtain ⟨o13a, o13b⟩ := (hv47_462 : In _ _ _); obtain ⟨o14a, o14b⟩ := (hv48_462 : In _ _ _); obtain ⟨o15a, o15b⟩ := (hv53_462 : In _ _ _); obtain ⟨o16a, o16b⟩ := (hv55_462 : In _ _ _); obtain ⟨o17a, o17b⟩ := (hv2_462 : In _ _ _); omega)), (by simp [gset]), hv3_462, (by rw [hg3_462]; simp [gset]), hv4_462, (by rw [hg4_462]; simp [gset]), hv5_462, (by rw [hg5_462]; simp [gset]), hv6_462, (by rw [hg6_462]; simp [gset]), hv8_462, hv9_462, (by rw [hg9_462]; simp [gset]), hv12_462, hv13_462, (by rw [hg13_462]; simp [gset]), hv14_462, (by rw [hg14_462]; simp [gset]), hv15_462, (by rw [hg15_462]; simp [gset]), hv17_462, (by rw [hg17_462]; simp [gset]), hv20_462, (by rw [hg20_462]; simp [gset]), hv23_462, (by rw [hg23_462]; simp [gset]), hv25_462, hv36_462, (by rw [hg36_462]; simp [gset]), hv47_462, (by rw [hg47_462]; simp [gset]), hv48_462, (by rw [hg48_462]; simp [gset]), hv53_462, (by rw [hg53_462]; simp [gset]), hv55_462, (by rw [hg55_462]; simp [gset]), hrel0_462⟩ (fun q hq => ((gset_ne (fun e => hq (by subst e; decide))).trans rfl))
              have hT : TI g ad (gset th 13 x477.toInt) f480 := TI.cast hT (by funext q; simp only [gset]; (repeat' split); all_goals first | rfl | omega | (subst_vars; rfl) | (exfalso; omega))
              refine lv_goto (tgt := 3) hx hb dX11_brings_46 (by decide) ?_
              refine lv_iload_n hx hb dX11_brings_3 rfl (lv_at hl 0 rfl) ?_
              refine lv_if_lt (tgt := 49) hx hb dX11_brings_4 (by decide) (fun c484 => ?_) (fun c484 => ?_)
              ·
                have oc0 : (0 : Int32).toInt = 0 := by decide
                have oc0 : (0 : Int32).toInt = 0 := by decide
                have cc485 : (0 : Int32).toInt < (0 : Int32).toInt := i32_lt.mp c484
                exact In.empty (lo := 0) (hi := (-1)) (In.lt1 (⟨by decide, by decide⟩ : In 0 0 0) (⟨by decide, by decide⟩ : In 0 0 0) cc485 (by omega) (by omega)) (by decide)
              ·
                have oc0 : (0 : Int32).toInt = 0 := by decide
                have oc0 : (0 : Int32).toInt = 0 := by decide
                have cc486 : (0 : Int32).toInt ≤ (0 : Int32).toInt := i32_nlt c484
                refine lv_iload_n hx hb dX11_brings_7 rfl (lv_at hl 3 rfl) ?_
                refine lv_iload_n hx hb dX11_brings_8 rfl (lv_at hl 0 rfl) ?_
                refine lv_ishr hx hb dX11_brings_9 ?_
                refine lv_topi (fun x487 ex487 => ?_)
                refine lv_sipush (v := 255) hx hb dX11_brings_10 (by decide) ?_
                refine lv_iand hx hb dX11_brings_13 ?_
                refine lv_topi (fun x488 ex488 => ?_)
                have hb489 : In x488 0 255 := ex488 ▸ In.andr (⟨by decide, by decide⟩ : In 255 255 255) (by decide)
                refine lv_istore_n (lv' := [(3, .int x488), (2, .int 0), (0, .ref (ad 255)), (1, .int z1)]) hx hb dX11_brings_14 rfl hl (by decide) rfl (fun ls hl => ?_)
                refine lv_iload_n hx hb dX11_brings_15 rfl (lv_at hl 0 rfl) ?_
                refine lv_if_ne (tgt := 22) hx hb dX11_brings_16 (by decide) (fun c490 => ?_) (fun c490 => ?_)
                ·
                  have oc0 : (0 : Int32).toInt = 0 := by decide
                  have cc491 : x488.toInt ≠ (0 : Int32).toInt := i32_ne c490
                  have hb492 : In x488 1 255 := In.ne1 hb489 (⟨by decide, by decide⟩ : In 0 0 0) cc491 (by omega) (by omega)
                  refine lv_aload_n hx hb dX11_brings_22 rfl (lv_at hl 2 rfl) ?_
                  obtain ⟨v0_493, v2_493, v3_493, v4_493, v5_493, v6_493, v8_493, v9_493, v12_493, v13_493, v14_493, v15_493, v16_493, v17_493, v18_493, v19_493, v20_493, v21_493, v22_493, v23_493, v25_493, v36_493, v37_493, v38_493, v39_493, v40_493, v45_493, v46_493, v47_493, v48_493, v50_493, v51_493, v53_493, v55_493, hf494, hv0_493, hv2_493, hg2_493, hv3_493, hg3_493, hv4_493, hg4_493, hv5_493, hg5_493, hv6_493, hg6_493, hv8_493, hv9_493, hg9_493, hv12_493, hv13_493, hg13_493, hv14_493, hg14_493, hv15_493, hg15_493, hv17_493, hg17_493, hv20_493, hg20_493, hv23_493, hg23_493, hv25_493, hv36_493, hg36_493, hv47_493, hg47_493, hv48_493, hg48_493, hv53_493, hg53_493, hv55_493, hg55_493, hrel0_493⟩ := hT.2.2 0 (by decide)
                  have hg2_493 : v2_493.toInt = x477.toInt := hg2_493
                  have hg3_493 : v3_493.toInt = th 37 := hg3_493
                  have hg4_493 : v4_493.toInt = th 42 := hg4_493
                  have hg5_493 : v5_493.toInt = th 40 := hg5_493
                  have hg6_493 : v6_493.toInt = th 41 := hg6_493
                  have hg9_493 : v9_493.toInt = th 35 := hg9_493
                  have hg13_493 : v13_493.toInt = th 36 := hg13_493
                  have hg14_493 : v14_493.toInt = th 10 := hg14_493
                  have hg15_493 : v15_493.toInt = th 11 := hg15_493
                  have hg17_493 : v17_493.toInt = th 12 := hg17_493
                  have hg20_493 : v20_493.toInt = th 14 := hg20_493
                  have hg23_493 : v23_493.toInt = th 15 := hg23_493
                  have hg36_493 : v36_493.toInt = th 18 := hg36_493
                  have hg47_493 : v47_493.toInt = th 16 := hg47_493
                  have hg48_493 : v48_493.toInt = th 17 := hg48_493
                  have hg53_493 : v53_493.toInt = th 38 := hg53_493
                  have hg55_493 : v55_493.toInt = th 39 := hg55_493
                  refine pl_get (v := .ref (ad 256)) hx hb hts (fun w h => mT (inX11 w h)) hown hG.1 hP (hst.1 255 (by decide)) hf494 rfl 1 (by decide) (hts _ (mT wg_1337)) (fun _ h => h) rfl dX11_brings_23 ?_
                  refine lv_aload_n hx hb dX11_brings_26 rfl (lv_at hl 2 rfl) ?_
                  refine pl_get (v := .int v2_493) hx hb hts (fun w h => mT (inX11 w h)) hown hG.1 hP (hst.1 255 (by decide)) hf494 rfl 2 (by decide) (hts _ (mT wg_1338)) (fun _ h => h) rfl dX11_brings_27 ?_
                  refine lv_iload_n hx hb dX11_brings_30 rfl (lv_at hl 0 rfl) ?_
                  refine lv_i2b hx hb dX11_brings_31 rfl ?_
                  refine lv_topi (fun x495 ex495 => ?_)
                  have hby496 : b1 z1 24 = 0 := b1_0 (by rw [show byS z1 24 = x5 by rw [ex5, ex4]; rfl]; exact c7)
                  have hby497 : b1 z1 16 = 0 := b1_0 (by rw [show byS z1 16 = x305 by rw [ex305, ex304]; rfl]; exact c307)
                  have hby498 : b1 z1 8 = 1 := b1_1 (by rw [show byS z1 8 = x457 by rw [ex457, ex456]; rfl]; exact c459)
                  have hby499 : b1 z1 0 = 1 := b1_1 (by rw [show byS z1 0 = x488 by rw [ex488, ex487]; rfl]; exact c490)
                  refine pl_bastE hx hb hG.1 hP hD hS (hst.1 256 (by decide)) 2 hf483 rfl (vp_of (by obtain ⟨o0a, o0b⟩ := (hv2_493 : In _ _ _); obtain ⟨o1a, o1b⟩ := (hv3_493 : In _ _ _); obtain ⟨o2a, o2b⟩ := (hv4_493 : In _ _ _); obtain ⟨o3a, o3b⟩ := (hv5_493 : In _ _ _); obtain ⟨o4a, o4b⟩ := (hv6_493 : In _ _ _); obtain ⟨o5a, o5b⟩ := (hv9_493 : In _ _ _); obtain ⟨o6a, o6b⟩ := (hv13_493 : In _ _ _); obtain ⟨o7a, o7b⟩ := (hv14_493 : In _ _ _); obtain ⟨o8a, o8b⟩ := (hv15_493 : In _ _ _); obtain ⟨o9a, o9b⟩ := (hv17_493 : In _ _ _); obtain ⟨o10a, o10b⟩ := (hv20_493 : In _ _ _); obtain ⟨o11a, o11b⟩ := (hv23_493 : In _ _ _); obtain ⟨o12a, o12b⟩ := (hv36_493 : In _ _ _); obtain ⟨o13a, o13b⟩ := (hv47_493 : In _ _ _); obtain ⟨o14a, o14b⟩ := (hv48_493 : In _ _ _); obtain ⟨o15a, o15b⟩ := (hv53_493 : In _ _ _); obtain ⟨o16a, o16b⟩ := (hv55_493 : In _ _ _); omega) (by obtain ⟨o0a, o0b⟩ := (hv2_493 : In _ _ _); obtain ⟨o1a, o1b⟩ := (hv3_493 : In _ _ _); obtain ⟨o2a, o2b⟩ := (hv4_493 : In _ _ _); obtain ⟨o3a, o3b⟩ := (hv5_493 : In _ _ _); obtain ⟨o4a, o4b⟩ := (hv6_493 : In _ _ _); obtain ⟨o5a, o5b⟩ := (hv9_493 : In _ _ _); obtain ⟨o6a, o6b⟩ := (hv13_493 : In _ _ _); obtain ⟨o7a, o7b⟩ := (hv14_493 : In _ _ _); obtain ⟨o8a, o8b⟩ := (hv15_493 : In _ _ _); obtain ⟨o9a, o9b⟩ := (hv17_493 : In _ _ _); obtain ⟨o10a, o10b⟩ := (hv20_493 : In _ _ _); obtain ⟨o11a, o11b⟩ := (hv23_493 : In _ _ _); obtain ⟨o12a, o12b⟩ := (hv36_493 : In _ _ _); obtain ⟨o13a, o13b⟩ := (hv47_493 : In _ _ _); obtain ⟨o14a, o14b⟩ := (hv48_493 : In _ _ _); obtain ⟨o15a, o15b⟩ := (hv53_493 : In _ _ _); obtain ⟨o16a, o16b⟩ := (hv55_493 : In _ _ _); omega)) dX11_brings_32 (fun H locs f500 r503 er503 hf501 ho502 hP hD hS => ?_)
                  have hc504 : ∀ i : Nat, i < 500 → In (r503 i) (-128) 127 := cont_upd er503 hc475 (nar_byte _)
                  have hf505 := (ho502 (ad 255) (hst.ne (by decide) (by decide) (by decide))).trans hf494
                  have hfr : (∀ b, b ≠ (ad 255) → b ≠ (ad 256) → f500 b = f b) := fun b z0_ z1_ => (ho502 b z1_).trans (hfr b z0_ z1_)
                  refine lv_aload_n hx hb dX11_brings_33 rfl (lv_at hl 2 rfl) ?_
                  refine lv_dup hx hb dX11_brings_34 rfl ?_
                  refine pl_get (v := .int v2_493) hx hb hts (fun w h => mT (inX11 w h)) hown hG.1 hP (hst.1 255 (by decide)) hf505 rfl 2 (by decide) (hts _ (mT wg_1338)) (fun _ h => h) rfl dX11_brings_35 ?_
                  refine lv_iconst (v := 1) hx hb dX11_brings_38 (by decide) ?_
                  refine lv_iadd hx hb dX11_brings_39 ?_
                  refine lv_topi (fun x506 ex506 => ?_)
                  have hb507 : In x506 1 501 := ex506 ▸ In.add hv2_493 (⟨by decide, by decide⟩ : In 1 1 1) (by decide) (by decide) (by decide) (by decide)
                  have et508 : x506.toInt = v2_493.toInt + 1 := In.adde ex506 hv2_493 (k := 1) (by decide) (by decide) (by decide)
                  have hT := TI.updM hT hst (k := 1) (by decide) hf501 ho502 ⟨r503, rfl, hc504⟩
                  refine pl_put (ty := .int) (v := .int x506) (fs' := [.int v0_493, .ref (ad 256), .int x506, .int v3_493, .int v4_493, .int v5_493, .int v6_493, .ref (ad 257), .int v8_493, .int v9_493, .ref (ad 258), .ref (ad 259), .int v12_493, .int v13_493, .int v14_493, .int v15_493, .int v16_493, .int v17_493, .int v18_493, .int v19_493, .int v20_493, .long v21_493, .long v22_493, .int v23_493, .ref (ad 260), .int v25_493, .ref (ad 261), .ref (ad 262), .ref (ad 263), .ref (ad 264), .ref (ad 265), .ref (ad 266), .ref (ad 267), .ref (ad 268), .ref (ad 269), .ref (ad 270), .int v36_493, .int v37_493, .int v38_493, .int v39_493, .int v40_493, .ref (ad 271), .ref (ad 272), .ref (ad 273), .ref (ad 274), .long v45_493, .long v46_493, .int v47_493, .int v48_493, .ref (ad 275), .int v50_493, .int v51_493, .ref (ad 276), .int v53_493, .ref (ad 277), .int v55_493]) hx hb hts (fun w h => mT (inX11 w h)) tyX11 tyX11_ok nmX11 hown hG.1 hP hD hS (hst.1 255 (by decide)) hf505 rfl 2 (by decide) (hts _ (mT wg_1338)) (fun _ h => h) rfl (by decide +kernel) (rfl) (rfl) (Nat.le_of_ble_eq_true rfl) rfl dX11_brings_40 (fun H locs f509 hf510 ho511 hP hD hS => ?_)
                  have hf512 := (ho511 (ad 256) (hst.ne (by decide) (by decide) (by decide))).trans hf501
                  have hfr : (∀ b, b ≠ (ad 255) → b ≠ (ad 256) → f509 b = f b) := fun b z0_ z1_ => (ho511 b z0_).trans (hfr b z0_ z1_)
                  refine lv_iinc (v := (-8)) (lv' := [(2, .int (-8)), (3, .int x488), (0, .ref (ad 255)), (1, .int z1)]) hx hb dX11_brings_43 hl (k := 1) rfl (by decide) (by decide) rfl (fun ls hl => ?_)
                  have hT := TI.updMG (th' := (gset (gset th 13 x477.toInt) 13 (x506.toInt))) hT hst (k := 0) (by decide) hf510 ho511 ⟨v0_493, x506, v3_493, v4_493, v5_493, v6_493, v8_493, v9_493, v12_493, v13_493, v14_493, v15_493, v16_493, v17_493, v18_493, v19_493, v20_493, v21_493, v22_493, v23_493, v25_493, v36_493, v37_493, v38_493, v39_493, v40_493, v45_493, v46_493, v47_493, v48_493, v50_493, v51_493, v53_493, v55_493, rfl, hv0_493, (In.mk (by obtain ⟨o0a, o0b⟩ := (hb507 : In _ _ _); obtain ⟨o1a, o1b⟩ := (hv3_493 : In _ _ _); obtain ⟨o2a, o2b⟩ := (hv4_493 : In _ _ _); obtain ⟨o3a, o3b⟩ := (hv5_493 : In _ _ _); obtain ⟨o4a, o4b⟩ := (hv6_493 : In _ _ _); obtain ⟨o5a, o5b⟩ := (hv9_493 : In _ _ _); obtain ⟨o6a, o6b⟩ := (hv13_493 : In _ _ _); obtain ⟨o7a, o7b⟩ := (hv14_493 : In _ _ _); obtain ⟨o8a, o8b⟩ := (hv15_493 : In _ _ _); obtain ⟨o9a, o9b⟩ := (hv17_493 : In _ _ _); obtain ⟨o10a, o10b⟩ := (hv20_493 : In _ _ _); obtain ⟨o11a, o11b⟩ := (hv23_493 : In _ _ _); obtain ⟨o12a, o12b⟩ := (hv36_493 : In _ _ _); obtain ⟨o13a, o13b⟩ := (hv47_493 : In _ _ _); obtain ⟨o14a, o14b⟩ := (hv48_493 : In _ _ _); obtain ⟨o15a, o15b⟩ := (hv53_493 : In _ _ _); obtain ⟨o16a, o16b⟩ := (hv55_493 : In _ _ _); obtain ⟨o17a, o17b⟩ := (hv2_493 : In _ _ _); omega) (by obtain ⟨o0a, o0b⟩ := (hb507 : In _ _ _); obtain ⟨o1a, o1b⟩ := (hv3_493 : In _ _ _); obtain ⟨o2a, o2b⟩ := (hv4_493 : In _ _ _); obtain ⟨o3a, o3b⟩ := (hv5_493 : In _ _ _); obtain ⟨o4a, o4b⟩ := (hv6_493 : In _ _ _); obtain ⟨o5a, o5b⟩ := (hv9_493 : In _ _ _); obtain ⟨o6a, o6b⟩ := (hv13_493 : In _ _ _); obtain ⟨o7a, o7b⟩ := (hv14_493 : In _ _ _); obtain ⟨o8a, o8b⟩ := (hv15_493 : In _ _ _); obtain ⟨o9a, o9b⟩ := (hv17_493 : In _ _ _); obtain ⟨o10a, o10b⟩ := (hv20_493 : In _ _ _); obtain ⟨o11a, o11b⟩ := (hv23_493 : In _ _ _); obtain ⟨o12a, o12b⟩ := (hv36_493 : In _ _ _); obtain ⟨o13a, o13b⟩ := (hv47_493 : In _ _ _); obtain ⟨o14a, o14b⟩ := (hv48_493 : In _ _ _); obtain ⟨o15a, o15b⟩ := (hv53_493 : In _ _ _); obtain ⟨o16a, o16b⟩ := (hv55_493 : In _ _ _); obtain ⟨o17a, o17b⟩ := (hv2_493 : In _ _ _); omega)), (by simp [gset]), hv3_493, (by rw [hg3_493]; simp [gset]), hv4_493, (by rw [hg4_493]; simp [gset]), hv5_493, (by rw [hg5_493]; simp [gset]), hv6_493, (by rw [hg6_493]; simp [gset]), hv8_493, hv9_493, (by rw [hg9_493]; simp [gset]), hv12_493, hv13_493, (by rw [hg13_493]; simp [gset]), hv14_493, (by rw [hg14_493]; simp [gset]), hv15_493, (by rw [hg15_493]; simp [gset]), hv17_493, (by rw [hg17_493]; simp [gset]), hv20_493, (by rw [hg20_493]; simp [gset]), hv23_493, (by rw [hg23_493]; simp [gset]), hv25_493, hv36_493, (by rw [hg36_493]; simp [gset]), hv47_493, (by rw [hg47_493]; simp [gset]), hv48_493, (by rw [hg48_493]; simp [gset]), hv53_493, (by rw [hg53_493]; simp [gset]), hv55_493, (by rw [hg55_493]; simp [gset]), hrel0_493⟩ (fun q hq => ((gset_ne (fun e => hq (by subst e; decide))).trans rfl))
                  have hT : TI g ad (gset th 13 x506.toInt) f509 := TI.cast hT (by funext q; simp only [gset]; (repeat' split); all_goals first | rfl | omega | (subst_vars; rfl) | (exfalso; omega))
                  refine lv_goto (tgt := 3) hx hb dX11_brings_46 (by decide) ?_
                  refine lv_iload_n hx hb dX11_brings_3 rfl (lv_at hl 0 rfl) ?_
                  refine lv_if_lt (tgt := 49) hx hb dX11_brings_4 (by decide) (fun c513 => ?_) (fun c513 => ?_)
                  ·
                    have ocm8 : ((-8) : Int32).toInt = (-8) := by decide
                    have oc0 : (0 : Int32).toInt = 0 := by decide
                    have cc514 : ((-8) : Int32).toInt < (0 : Int32).toInt := i32_lt.mp c513
                    have hby515 : b1 z1 24 = 0 := b1_0 (by rw [show byS z1 24 = x5 by rw [ex5, ex4]; rfl]; exact c7)
                    have hby516 : b1 z1 16 = 0 := b1_0 (by rw [show byS z1 16 = x305 by rw [ex305, ex304]; rfl]; exact c307)
                    have hby517 : b1 z1 8 = 1 := b1_1 (by rw [show byS z1 8 = x457 by rw [ex457, ex456]; rfl]; exact c459)
                    have hby518 : b1 z1 0 = 1 := b1_1 (by rw [show byS z1 0 = x488 by rw [ex488, ex487]; rfl]; exact c490)
                    exact ret_v hx hb hr hlocks hP hD hS (Nat.le_of_ble_eq_true rfl) (Nat.le_of_ble_eq_true rfl) (⟨rfl, ⟨x506.toInt, (show x506.toInt = th 13 + nb z1 from (by omega)), TI.cast hT (by funext q; simp only [gset]; (repeat' split); all_goals first | rfl | omega | (subst_vars; rfl) | (exfalso; omega))⟩, hfr⟩) dX11_brings_49
                  ·
                    have ocm8 : ((-8) : Int32).toInt = (-8) := by decide
                    have oc0 : (0 : Int32).toInt = 0 := by decide
                    have cc519 : (0 : Int32).toInt ≤ ((-8) : Int32).toInt := i32_nlt c513
                    exact In.empty (lo := 0) (hi := (-8)) (In.ge1 (⟨by decide, by decide⟩ : In (-8) (-8) (-8)) (⟨by decide, by decide⟩ : In 0 0 0) cc519 (by omega) (by omega)) (by decide)
                ·
                  have oc0 : (0 : Int32).toInt = 0 := by decide
                  have cc520 : x488.toInt = (0 : Int32).toInt := congrArg Int32.toInt c490
                  have hb521 : In x488 0 0 := In.eq1 hb489 (⟨by decide, by decide⟩ : In 0 0 0) cc520 (by omega) (by omega)
                  refine lv_goto (tgt := 43) hx hb dX11_brings_19 (by decide) ?_
                  refine lv_iinc (v := (-8)) (lv' := [(2, .int (-8)), (3, .int x488), (0, .ref (ad 255)), (1, .int z1)]) hx hb dX11_brings_43 hl (k := 1) rfl (by decide) (by decide) rfl (fun ls hl => ?_)
                  refine lv_goto (tgt := 3) hx hb dX11_brings_46 (by decide) ?_
                  refine lv_iload_n hx hb dX11_brings_3 rfl (lv_at hl 0 rfl) ?_
                  refine lv_if_lt (tgt := 49) hx hb dX11_brings_4 (by decide) (fun c522 => ?_) (fun c522 => ?_)
                  ·
                    have ocm8 : ((-8) : Int32).toInt = (-8) := by decide
                    have oc0 : (0 : Int32).toInt = 0 := by decide
                    have cc523 : ((-8) : Int32).toInt < (0 : Int32).toInt := i32_lt.mp c522
                    have hby524 : b1 z1 24 = 0 := b1_0 (by rw [show byS z1 24 = x5 by rw [ex5, ex4]; rfl]; exact c7)
                    have hby525 : b1 z1 16 = 0 := b1_0 (by rw [show byS z1 16 = x305 by rw [ex305, ex304]; rfl]; exact c307)
                    have hby526 : b1 z1 8 = 1 := b1_1 (by rw [show byS z1 8 = x457 by rw [ex457, ex456]; rfl]; exact c459)
                    have hby527 : b1 z1 0 = 0 := b1_0 (by rw [show byS z1 0 = x488 by rw [ex488, ex487]; rfl]; exact c490)
                    exact ret_v hx hb hr hlocks hP hD hS (Nat.le_of_ble_eq_true rfl) (Nat.le_of_ble_eq_true rfl) (⟨rfl, ⟨x477.toInt, (show x477.toInt = th 13 + nb z1 from (by omega)), TI.cast hT (by funext q; simp only [gset]; (repeat' split); all_goals first | rfl | omega | (subst_vars; rfl) | (exfalso; omega))⟩, hfr⟩) dX11_brings_49
                  ·
                    have ocm8 : ((-8) : Int32).toInt = (-8) := by decide
                    have oc0 : (0 : Int32).toInt = 0 := by decide
                    have cc528 : (0 : Int32).toInt ≤ ((-8) : Int32).toInt := i32_nlt c522
                    exact In.empty (lo := 0) (hi := (-8)) (In.ge1 (⟨by decide, by decide⟩ : In (-8) (-8) (-8)) (⟨by decide, by decide⟩ : In 0 0 0) cc528 (by omega) (by omega)) (by decide)
            ·
              have oc0 : (0 : Int32).toInt = 0 := by decide
              have cc529 : x457.toInt = (0 : Int32).toInt := congrArg Int32.toInt c459
              have hb530 : In x457 0 0 := In.eq1 hb458 (⟨by decide, by decide⟩ : In 0 0 0) cc529 (by omega) (by omega)
              refine lv_goto (tgt := 43) hx hb dX11_brings_19 (by decide) ?_
              refine lv_iinc (v := 0) (lv' := [(2, .int 0), (3, .int x457), (0, .ref (ad 255)), (1, .int z1)]) hx hb dX11_brings_43 hl (k := 1) rfl (by decide) (by decide) rfl (fun ls hl => ?_)
              refine lv_goto (tgt := 3) hx hb dX11_brings_46 (by decide) ?_
              refine lv_iload_n hx hb dX11_brings_3 rfl (lv_at hl 0 rfl) ?_
              refine lv_if_lt (tgt := 49) hx hb dX11_brings_4 (by decide) (fun c531 => ?_) (fun c531 => ?_)
              ·
                have oc0 : (0 : Int32).toInt = 0 := by decide
                have oc0 : (0 : Int32).toInt = 0 := by decide
                have cc532 : (0 : Int32).toInt < (0 : Int32).toInt := i32_lt.mp c531
                exact In.empty (lo := 0) (hi := (-1)) (In.lt1 (⟨by decide, by decide⟩ : In 0 0 0) (⟨by decide, by decide⟩ : In 0 0 0) cc532 (by omega) (by omega)) (by decide)
              ·
                have oc0 : (0 : Int32).toInt = 0 := by decide
                have oc0 : (0 : Int32).toInt = 0 := by decide
                have cc533 : (0 : Int32).toInt ≤ (0 : Int32).toInt := i32_nlt c531
                refine lv_iload_n hx hb dX11_brings_7 rfl (lv_at hl 3 rfl) ?_
                refine lv_iload_n hx hb dX11_brings_8 rfl (lv_at hl 0 rfl) ?_
                refine lv_ishr hx hb dX11_brings_9 ?_
                refine lv_topi (fun x534 ex534 => ?_)
                refine lv_sipush (v := 255) hx hb dX11_brings_10 (by decide) ?_
                refine lv_iand hx hb dX11_brings_13 ?_
                refine lv_topi (fun x535 ex535 => ?_)
                have hb536 : In x535 0 255 := ex535 ▸ In.andr (⟨by decide, by decide⟩ : In 255 255 255) (by decide)
                refine lv_istore_n (lv' := [(3, .int x535), (2, .int 0), (0, .ref (ad 255)), (1, .int z1)]) hx hb dX11_brings_14 rfl hl (by decide) rfl (fun ls hl => ?_)
                refine lv_iload_n hx hb dX11_brings_15 rfl (lv_at hl 0 rfl) ?_
                refine lv_if_ne (tgt := 22) hx hb dX11_brings_16 (by decide) (fun c537 => ?_) (fun c537 => ?_)
                ·
                  have oc0 : (0 : Int32).toInt = 0 := by decide
                  have cc538 : x535.toInt ≠ (0 : Int32).toInt := i32_ne c537
                  have hb539 : In x535 1 255 := In.ne1 hb536 (⟨by decide, by decide⟩ : In 0 0 0) cc538 (by omega) (by omega)
                  refine lv_aload_n hx hb dX11_brings_22 rfl (lv_at hl 2 rfl) ?_
                  obtain ⟨v0_540, v2_540, v3_540, v4_540, v5_540, v6_540, v8_540, v9_540, v12_540, v13_540, v14_540, v15_540, v16_540, v17_540, v18_540, v19_540, v20_540, v21_540, v22_540, v23_540, v25_540, v36_540, v37_540, v38_540, v39_540, v40_540, v45_540, v46_540, v47_540, v48_540, v50_540, v51_540, v53_540, v55_540, hf541, hv0_540, hv2_540, hg2_540, hv3_540, hg3_540, hv4_540, hg4_540, hv5_540, hg5_540, hv6_540, hg6_540, hv8_540, hv9_540, hg9_540, hv12_540, hv13_540, hg13_540, hv14_540, hg14_540, hv15_540, hg15_540, hv17_540, hg17_540, hv20_540, hg20_540, hv23_540, hg23_540, hv25_540, hv36_540, hg36_540, hv47_540, hg47_540, hv48_540, hg48_540, hv53_540, hg53_540, hv55_540, hg55_540, hrel0_540⟩ := hT.2.2 0 (by decide)
                  refine pl_get (v := .ref (ad 256)) hx hb hts (fun w h => mT (inX11 w h)) hown hG.1 hP (hst.1 255 (by decide)) hf541 rfl 1 (by decide) (hts _ (mT wg_1337)) (fun _ h => h) rfl dX11_brings_23 ?_
                  refine lv_aload_n hx hb dX11_brings_26 rfl (lv_at hl 2 rfl) ?_
                  refine pl_get (v := .int v2_540) hx hb hts (fun w h => mT (inX11 w h)) hown hG.1 hP (hst.1 255 (by decide)) hf541 rfl 2 (by decide) (hts _ (mT wg_1338)) (fun _ h => h) rfl dX11_brings_27 ?_
                  refine lv_iload_n hx hb dX11_brings_30 rfl (lv_at hl 0 rfl) ?_
                  refine lv_i2b hx hb dX11_brings_31 rfl ?_
                  refine lv_topi (fun x542 ex542 => ?_)
                  have hby543 : b1 z1 24 = 0 := b1_0 (by rw [show byS z1 24 = x5 by rw [ex5, ex4]; rfl]; exact c7)
                  have hby544 : b1 z1 16 = 0 := b1_0 (by rw [show byS z1 16 = x305 by rw [ex305, ex304]; rfl]; exact c307)
                  have hby545 : b1 z1 8 = 0 := b1_0 (by rw [show byS z1 8 = x457 by rw [ex457, ex456]; rfl]; exact c459)
                  have hby546 : b1 z1 0 = 1 := b1_1 (by rw [show byS z1 0 = x535 by rw [ex535, ex534]; rfl]; exact c537)
                  obtain ⟨rw547, hf548, hc549⟩ := hT.2.2 1 (by decide)
                  refine pl_bastE hx hb hG.1 hP hD hS (hst.1 256 (by decide)) 2 hf548 rfl (vp_of (by obtain ⟨o0a, o0b⟩ := (hv2_540 : In _ _ _); obtain ⟨o1a, o1b⟩ := (hv3_540 : In _ _ _); obtain ⟨o2a, o2b⟩ := (hv4_540 : In _ _ _); obtain ⟨o3a, o3b⟩ := (hv5_540 : In _ _ _); obtain ⟨o4a, o4b⟩ := (hv6_540 : In _ _ _); obtain ⟨o5a, o5b⟩ := (hv9_540 : In _ _ _); obtain ⟨o6a, o6b⟩ := (hv13_540 : In _ _ _); obtain ⟨o7a, o7b⟩ := (hv14_540 : In _ _ _); obtain ⟨o8a, o8b⟩ := (hv15_540 : In _ _ _); obtain ⟨o9a, o9b⟩ := (hv17_540 : In _ _ _); obtain ⟨o10a, o10b⟩ := (hv20_540 : In _ _ _); obtain ⟨o11a, o11b⟩ := (hv23_540 : In _ _ _); obtain ⟨o12a, o12b⟩ := (hv36_540 : In _ _ _); obtain ⟨o13a, o13b⟩ := (hv47_540 : In _ _ _); obtain ⟨o14a, o14b⟩ := (hv48_540 : In _ _ _); obtain ⟨o15a, o15b⟩ := (hv53_540 : In _ _ _); obtain ⟨o16a, o16b⟩ := (hv55_540 : In _ _ _); omega) (by obtain ⟨o0a, o0b⟩ := (hv2_540 : In _ _ _); obtain ⟨o1a, o1b⟩ := (hv3_540 : In _ _ _); obtain ⟨o2a, o2b⟩ := (hv4_540 : In _ _ _); obtain ⟨o3a, o3b⟩ := (hv5_540 : In _ _ _); obtain ⟨o4a, o4b⟩ := (hv6_540 : In _ _ _); obtain ⟨o5a, o5b⟩ := (hv9_540 : In _ _ _); obtain ⟨o6a, o6b⟩ := (hv13_540 : In _ _ _); obtain ⟨o7a, o7b⟩ := (hv14_540 : In _ _ _); obtain ⟨o8a, o8b⟩ := (hv15_540 : In _ _ _); obtain ⟨o9a, o9b⟩ := (hv17_540 : In _ _ _); obtain ⟨o10a, o10b⟩ := (hv20_540 : In _ _ _); obtain ⟨o11a, o11b⟩ := (hv23_540 : In _ _ _); obtain ⟨o12a, o12b⟩ := (hv36_540 : In _ _ _); obtain ⟨o13a, o13b⟩ := (hv47_540 : In _ _ _); obtain ⟨o14a, o14b⟩ := (hv48_540 : In _ _ _); obtain ⟨o15a, o15b⟩ := (hv53_540 : In _ _ _); obtain ⟨o16a, o16b⟩ := (hv55_540 : In _ _ _); omega)) dX11_brings_32 (fun H locs f550 r553 er553 hf551 ho552 hP hD hS => ?_)
                  have hc554 : ∀ i : Nat, i < 500 → In (r553 i) (-128) 127 := cont_upd er553 hc549 (nar_byte _)
                  have hf555 := (ho552 (ad 255) (hst.ne (by decide) (by decide) (by decide))).trans hf541
                  have hfr : (∀ b, b ≠ (ad 255) → b ≠ (ad 256) → f550 b = f b) := fun b z0_ z1_ => (ho552 b z1_).trans (hfr b z0_ z1_)
                  refine lv_aload_n hx hb dX11_brings_33 rfl (lv_at hl 2 rfl) ?_
                  refine lv_dup hx hb dX11_brings_34 rfl ?_
                  refine pl_get (v := .int v2_540) hx hb hts (fun w h => mT (inX11 w h)) hown hG.1 hP (hst.1 255 (by decide)) hf555 rfl 2 (by decide) (hts _ (mT wg_1338)) (fun _ h => h) rfl dX11_brings_35 ?_
                  refine lv_iconst (v := 1) hx hb dX11_brings_38 (by decide) ?_
                  refine lv_iadd hx hb dX11_brings_39 ?_
                  refine lv_topi (fun x556 ex556 => ?_)
                  have hb557 : In x556 1 501 := ex556 ▸ In.add hv2_540 (⟨by decide, by decide⟩ : In 1 1 1) (by decide) (by decide) (by decide) (by decide)
                  have et558 : x556.toInt = v2_540.toInt + 1 := In.adde ex556 hv2_540 (k := 1) (by decide) (by decide) (by decide)
                  have hT := TI.updM hT hst (k := 1) (by decide) hf551 ho552 ⟨r553, rfl, hc554⟩
                  refine pl_put (ty := .int) (v := .int x556) (fs' := [.int v0_540, .ref (ad 256), .int x556, .int v3_540, .int v4_540, .int v5_540, .int v6_540, .ref (ad 257), .int v8_540, .int v9_540, .ref (ad 258), .ref (ad 259), .int v12_540, .int v13_540, .int v14_540, .int v15_540, .int v16_540, .int v17_540, .int v18_540, .int v19_540, .int v20_540, .long v21_540, .long v22_540, .int v23_540, .ref (ad 260), .int v25_540, .ref (ad 261), .ref (ad 262), .ref (ad 263), .ref (ad 264), .ref (ad 265), .ref (ad 266), .ref (ad 267), .ref (ad 268), .ref (ad 269), .ref (ad 270), .int v36_540, .int v37_540, .int v38_540, .int v39_540, .int v40_540, .ref (ad 271), .ref (ad 272), .ref (ad 273), .ref (ad 274), .long v45_540, .long v46_540, .int v47_540, .int v48_540, .ref (ad 275), .int v50_540, .int v51_540, .ref (ad 276), .int v53_540, .ref (ad 277), .int v55_540]) hx hb hts (fun w h => mT (inX11 w h)) tyX11 tyX11_ok nmX11 hown hG.1 hP hD hS (hst.1 255 (by decide)) hf555 rfl 2 (by decide) (hts _ (mT wg_1338)) (fun _ h => h) rfl (by decide +kernel) (rfl) (rfl) (Nat.le_of_ble_eq_true rfl) rfl dX11_brings_40 (fun H locs f559 hf560 ho561 hP hD hS => ?_)
                  have hf562 := (ho561 (ad 256) (hst.ne (by decide) (by decide) (by decide))).trans hf551
                  have hfr : (∀ b, b ≠ (ad 255) → b ≠ (ad 256) → f559 b = f b) := fun b z0_ z1_ => (ho561 b z0_).trans (hfr b z0_ z1_)
                  refine lv_iinc (v := (-8)) (lv' := [(2, .int (-8)), (3, .int x535), (0, .ref (ad 255)), (1, .int z1)]) hx hb dX11_brings_43 hl (k := 1) rfl (by decide) (by decide) rfl (fun ls hl => ?_)
                  have hT := TI.updMG (th' := (gset th 13 (x556.toInt))) hT hst (k := 0) (by decide) hf560 ho561 ⟨v0_540, x556, v3_540, v4_540, v5_540, v6_540, v8_540, v9_540, v12_540, v13_540, v14_540, v15_540, v16_540, v17_540, v18_540, v19_540, v20_540, v21_540, v22_540, v23_540, v25_540, v36_540, v37_540, v38_540, v39_540, v40_540, v45_540, v46_540, v47_540, v48_540, v50_540, v51_540, v53_540, v55_540, rfl, hv0_540, (In.mk (by obtain ⟨o0a, o0b⟩ := (hb557 : In _ _ _); obtain ⟨o1a, o1b⟩ := (hv3_540 : In _ _ _); obtain ⟨o2a, o2b⟩ := (hv4_540 : In _ _ _); obtain ⟨o3a, o3b⟩ := (hv5_540 : In _ _ _); obtain ⟨o4a, o4b⟩ := (hv6_540 : In _ _ _); obtain ⟨o5a, o5b⟩ := (hv9_540 : In _ _ _); obtain ⟨o6a, o6b⟩ := (hv13_540 : In _ _ _); obtain ⟨o7a, o7b⟩ := (hv14_540 : In _ _ _); obtain ⟨o8a, o8b⟩ := (hv15_540 : In _ _ _); obtain ⟨o9a, o9b⟩ := (hv17_540 : In _ _ _); obtain ⟨o10a, o10b⟩ := (hv20_540 : In _ _ _); obtain ⟨o11a, o11b⟩ := (hv23_540 : In _ _ _); obtain ⟨o12a, o12b⟩ := (hv36_540 : In _ _ _); obtain ⟨o13a, o13b⟩ := (hv47_540 : In _ _ _); obtain ⟨o14a, o14b⟩ := (hv48_540 : In _ _ _); obtain ⟨o15a, o15b⟩ := (hv53_540 : In _ _ _); obtain ⟨o16a, o16b⟩ := (hv55_540 : In _ _ _); obtain ⟨o17a, o17b⟩ := (hv2_540 : In _ _ _); omega) (by obtain ⟨o0a, o0b⟩ := (hb557 : In _ _ _); obtain ⟨o1a, o1b⟩ := (hv3_540 : In _ _ _); obtain ⟨o2a, o2b⟩ := (hv4_540 : In _ _ _); obtain ⟨o3a, o3b⟩ := (hv5_540 : In _ _ _); obtain ⟨o4a, o4b⟩ := (hv6_540 : In _ _ _); obtain ⟨o5a, o5b⟩ := (hv9_540 : In _ _ _); obtain ⟨o6a, o6b⟩ := (hv13_540 : In _ _ _); obtain ⟨o7a, o7b⟩ := (hv14_540 : In _ _ _); obtain ⟨o8a, o8b⟩ := (hv15_540 : In _ _ _); obtain ⟨o9a, o9b⟩ := (hv17_540 : In _ _ _); obtain ⟨o10a, o10b⟩ := (hv20_540 : In _ _ _); obtain ⟨o11a, o11b⟩ := (hv23_540 : In _ _ _); obtain ⟨o12a, o12b⟩ := (hv36_540 : In _ _ _); obtain ⟨o13a, o13b⟩ := (hv47_540 : In _ _ _); obtain ⟨o14a, o14b⟩ := (hv48_540 : In _ _ _); obtain ⟨o15a, o15b⟩ := (hv53_540 : In _ _ _); obtain ⟨o16a, o16b⟩ := (hv55_540 : In _ _ _); obtain ⟨o17a, o17b⟩ := (hv2_540 : In _ _ _); omega)), (by simp [gset]), hv3_540, (by rw [hg3_540]; simp [gset]), hv4_540, (by rw [hg4_540]; simp [gset]), hv5_540, (by rw [hg5_540]; simp [gset]), hv6_540, (by rw [hg6_540]; simp [gset]), hv8_540, hv9_540, (by rw [hg9_540]; simp [gset]), hv12_540, hv13_540, (by rw [hg13_540]; simp [gset]), hv14_540, (by rw [hg14_540]; simp [gset]), hv15_540, (by rw [hg15_540]; simp [gset]), hv17_540, (by rw [hg17_540]; simp [gset]), hv20_540, (by rw [hg20_540]; simp [gset]), hv23_540, (by rw [hg23_540]; simp [gset]), hv25_540, hv36_540, (by rw [hg36_540]; simp [gset]), hv47_540, (by rw [hg47_540]; simp [gset]), hv48_540, (by rw [hg48_540]; simp [gset]), hv53_540, (by rw [hg53_540]; simp [gset]), hv55_540, (by rw [hg55_540]; simp [gset]), hrel0_540⟩ (fun q hq => ((gset_ne (fun e => hq (by subst e; decide))).trans rfl))
                  have hT : TI g ad (gset th 13 x556.toInt) f559 := TI.cast hT (by funext q; simp only [gset]; (repeat' split); all_goals first | rfl | omega | (subst_vars; rfl) | (exfalso; omega))
                  refine lv_goto (tgt := 3) hx hb dX11_brings_46 (by decide) ?_
                  refine lv_iload_n hx hb dX11_brings_3 rfl (lv_at hl 0 rfl) ?_
                  refine lv_if_lt (tgt := 49) hx hb dX11_brings_4 (by decide) (fun c563 => ?_) (fun c563 => ?_)
                  ·
                    have ocm8 : ((-8) : Int32).toInt = (-8) := by decide
                    have oc0 : (0 : Int32).toInt = 0 := by decide
                    have cc564 : ((-8) : Int32).toInt < (0 : Int32).toInt := i32_lt.mp c563
                    have hby565 : b1 z1 24 = 0 := b1_0 (by rw [show byS z1 24 = x5 by rw [ex5, ex4]; rfl]; exact c7)
                    have hby566 : b1 z1 16 = 0 := b1_0 (by rw [show byS z1 16 = x305 by rw [ex305, ex304]; rfl]; exact c307)
                    have hby567 : b1 z1 8 = 0 := b1_0 (by rw [show byS z1 8 = x457 by rw [ex457, ex456]; rfl]; exact c459)
                    have hby568 : b1 z1 0 = 1 := b1_1 (by rw [show byS z1 0 = x535 by rw [ex535, ex534]; rfl]; exact c537)
                    exact ret_v hx hb hr hlocks hP hD hS (Nat.le_of_ble_eq_true rfl) (Nat.le_of_ble_eq_true rfl) (⟨rfl, ⟨x556.toInt, (show x556.toInt = th 13 + nb z1 from (by omega)), TI.cast hT (by funext q; simp only [gset]; (repeat' split); all_goals first | rfl | omega | (subst_vars; rfl) | (exfalso; omega))⟩, hfr⟩) dX11_brings_49
                  ·
                    have ocm8 : ((-8) : Int32).toInt = (-8) := by decide
                    have oc0 : (0 : Int32).toInt = 0 := by decide
                    have cc569 : (0 : Int32).toInt ≤ ((-8) : Int32).toInt := i32_nlt c563
                    exact In.empty (lo := 0) (hi := (-8)) (In.ge1 (⟨by decide, by decide⟩ : In (-8) (-8) (-8)) (⟨by decide, by decide⟩ : In 0 0 0) cc569 (by omega) (by omega)) (by decide)
                ·
                  have oc0 : (0 : Int32).toInt = 0 := by decide
                  have cc570 : x535.toInt = (0 : Int32).toInt := congrArg Int32.toInt c537
                  have hb571 : In x535 0 0 := In.eq1 hb536 (⟨by decide, by decide⟩ : In 0 0 0) cc570 (by omega) (by omega)
                  refine lv_goto (tgt := 43) hx hb dX11_brings_19 (by decide) ?_
                  refine lv_iinc (v := (-8)) (lv' := [(2, .int (-8)), (3, .int x535), (0, .ref (ad 255)), (1, .int z1)]) hx hb dX11_brings_43 hl (k := 1) rfl (by decide) (by decide) rfl (fun ls hl => ?_)
                  refine lv_goto (tgt := 3) hx hb dX11_brings_46 (by decide) ?_
                  refine lv_iload_n hx hb dX11_brings_3 rfl (lv_at hl 0 rfl) ?_
                  refine lv_if_lt (tgt := 49) hx hb dX11_brings_4 (by decide) (fun c572 => ?_) (fun c572 => ?_)
                  ·
                    have ocm8 : ((-8) : Int32).toInt = (-8) := by decide
                    have oc0 : (0 : Int32).toInt = 0 := by decide
                    have cc573 : ((-8) : Int32).toInt < (0 : Int32).toInt := i32_lt.mp c572
                    have hby574 : b1 z1 24 = 0 := b1_0 (by rw [show byS z1 24 = x5 by rw [ex5, ex4]; rfl]; exact c7)
                    have hby575 : b1 z1 16 = 0 := b1_0 (by rw [show byS z1 16 = x305 by rw [ex305, ex304]; rfl]; exact c307)
                    have hby576 : b1 z1 8 = 0 := b1_0 (by rw [show byS z1 8 = x457 by rw [ex457, ex456]; rfl]; exact c459)
                    have hby577 : b1 z1 0 = 0 := b1_0 (by rw [show byS z1 0 = x535 by rw [ex535, ex534]; rfl]; exact c537)
                    exact ret_v hx hb hr hlocks hP hD hS (Nat.le_of_ble_eq_true rfl) (Nat.le_of_ble_eq_true rfl) (⟨rfl, ⟨(th 13), (show th 13 = th 13 + nb z1 from (by omega)), TI.cast hT (by funext q; simp only [gset]; (repeat' split); all_goals first | rfl | omega | (subst_vars; rfl) | (exfalso; omega))⟩, hfr⟩) dX11_brings_49
                  ·
                    have ocm8 : ((-8) : Int32).toInt = (-8) := by decide
                    have oc0 : (0 : Int32).toInt = 0 := by decide
                    have cc578 : (0 : Int32).toInt ≤ ((-8) : Int32).toInt := i32_nlt c572
                    exact In.empty (lo := 0) (hi := (-8)) (In.ge1 (⟨by decide, by decide⟩ : In (-8) (-8) (-8)) (⟨by decide, by decide⟩ : In 0 0 0) cc578 (by omega) (by omega)) (by decide)

abbrev rm_X11_feed : Room := { frames := 1, cells := 0, slots := 0, locals := 23 }
abbrev po_X11_feed (g : GG) (ad : Nat → Nat) (th : Nat → Int) (L : List Nat) (f : HP) (z1 : Int32) (z2 : Int32) (z3 : Int32) (z4 : Int32) (z5 : Int32) : Int32 → (List Nat × HP) → Prop := fun r u => u.1 = L ∧ (∃ zz : Int, (True) ∧ TI g ad (gset th 13 zz) u.2) ∧ (∀ b, b ≠ (ad 255) → b ≠ (ad 256) → u.2 b = f b)
set_option maxHeartbeats 4000000 in
set_option maxRecDepth 100000 in
theorem s_X11_feed (l : Launch) (g : GG) (ad : Nat → Nat) (th : Nat → Int) (L : List Nat) (f : HP) (sz : Nat) (z1 : Int32) (z2 : Int32) (z3 : Int32) (z4 : Int32) (z5 : Int32) (hst : ST ad L) (hT : TI g ad th f)  : MtI l g yX11_feed cX11_feed 6 (some .int) rm_X11_feed [.ref (ad 255), .int z1, .int z2, .int z3, .int z4, .int z5] L f sz (po_X11_feed g ad th L f z1 z2 z3 z4 z5) := by
  refine MtI.of (by decide +kernel) (Nat.le_of_ble_eq_true rfl) ?_
  intro p e s m below meth c A hEn hP hD hS ls hl
  obtain ⟨hx, hb, hr, hml, hown, hlocks, hts, hG, hA, hE, hnm⟩ := hEn
  have hown : s.vm.findClass "RulerWordModel" = some m.cls := hown
  have hl : lv_has ls 6 [(0, .ref (ad 255)), (1, .int z1), (2, .int z2), (3, .int z3), (4, .int z4), (5, .int z5)] := hl
  have hfr : (∀ b, b ≠ (ad 255) → b ≠ (ad 256) → f b = f b) := fun b z0_ z1_ => rfl
  have hnb1 := nb_r z1
  have hnb2 := nb_r z2
  have hnb3 := nb_r z3
  have hnb4 := nb_r z4
  have hnb5 := nb_r z5
  refine lv_aload_n hx hb dX11_feed_0 rfl (lv_at hl 0 rfl) ?_
  refine lv_iconst (v := 0) hx hb dX11_feed_1 (by decide) ?_
  obtain ⟨v0_1, v2_1, v3_1, v4_1, v5_1, v6_1, v8_1, v9_1, v12_1, v13_1, v14_1, v15_1, v16_1, v17_1, v18_1, v19_1, v20_1, v21_1, v22_1, v23_1, v25_1, v36_1, v37_1, v38_1, v39_1, v40_1, v45_1, v46_1, v47_1, v48_1, v50_1, v51_1, v53_1, v55_1, hf2, hv0_1, hv2_1, hg2_1, hv3_1, hg3_1, hv4_1, hg4_1, hv5_1, hg5_1, hv6_1, hg6_1, hv8_1, hv9_1, hg9_1, hv12_1, hv13_1, hg13_1, hv14_1, hg14_1, hv15_1, hg15_1, hv17_1, hg17_1, hv20_1, hg20_1, hv23_1, hg23_1, hv25_1, hv36_1, hg36_1, hv47_1, hg47_1, hv48_1, hg48_1, hv53_1, hg53_1, hv55_1, hg55_1, hrel0_1⟩ := hT.2.2 0 (by decide)
  refine pl_put (ty := .int) (v := .int 0) (fs' := [.int 0, .ref (ad 256), .int v2_1, .int v3_1, .int v4_1, .int v5_1, .int v6_1, .ref (ad 257), .int v8_1, .int v9_1, .ref (ad 258), .ref (ad 259), .int v12_1, .int v13_1, .int v14_1, .int v15_1, .int v16_1, .int v17_1, .int v18_1, .int v19_1, .int v20_1, .long v21_1, .long v22_1, .int v23_1, .ref (ad 260), .int v25_1, .ref (ad 261), .ref (ad 262), .ref (ad 263), .ref (ad 264), .ref (ad 265), .ref (ad 266), .ref (ad 267), .ref (ad 268), .ref (ad 269), .ref (ad 270), .int v36_1, .int v37_1, .int v38_1, .int v39_1, .int v40_1, .ref (ad 271), .ref (ad 272), .ref (ad 273), .ref (ad 274), .long v45_1, .long v46_1, .int v47_1, .int v48_1, .ref (ad 275), .int v50_1, .int v51_1, .ref (ad 276), .int v53_1, .ref (ad 277), .int v55_1]) hx hb hts (fun w h => mT (inX11 w h)) tyX11 tyX11_ok nmX11 hown hG.1 hP hD hS (hst.1 255 (by decide)) hf2 rfl 0 (by decide) (hts _ (mT wg_1336)) (fun _ h => h) rfl (by decide +kernel) (rfl) (rfl) (Nat.le_of_ble_eq_true rfl) rfl dX11_feed_2 (fun H locs f3 hf4 ho5 hP hD hS => ?_)
  have hfr : (∀ b, b ≠ (ad 255) → b ≠ (ad 256) → f3 b = f b) := fun b z0_ z1_ => (ho5 b z0_).trans (hfr b z0_ z1_)
  refine lv_aload_n hx hb dX11_feed_5 rfl (lv_at hl 0 rfl) ?_
  refine pl_get (v := .int v2_1) hx hb hts (fun w h => mT (inX11 w h)) hown hG.1 hP (hst.1 255 (by decide)) hf4 rfl 2 (by decide) (hts _ (mT wg_1338)) (fun _ h => h) rfl dX11_feed_6 ?_
  refine lv_iload_n hx hb dX11_feed_9 rfl (lv_at hl 1 rfl) ?_
  have hT := TI.updM hT hst (k := 0) (by decide) hf4 ho5 ⟨0, v2_1, v3_1, v4_1, v5_1, v6_1, v8_1, v9_1, v12_1, v13_1, v14_1, v15_1, v16_1, v17_1, v18_1, v19_1, v20_1, v21_1, v22_1, v23_1, v25_1, v36_1, v37_1, v38_1, v39_1, v40_1, v45_1, v46_1, v47_1, v48_1, v50_1, v51_1, v53_1, v55_1, rfl, (⟨by decide, by decide⟩ : In 0 0 1), hv2_1, hg2_1, hv3_1, hg3_1, hv4_1, hg4_1, hv5_1, hg5_1, hv6_1, hg6_1, hv8_1, hv9_1, hg9_1, hv12_1, hv13_1, hg13_1, hv14_1, hg14_1, hv15_1, hg15_1, hv17_1, hg17_1, hv20_1, hg20_1, hv23_1, hg23_1, hv25_1, hv36_1, hg36_1, hv47_1, hg47_1, hv48_1, hg48_1, hv53_1, hg53_1, hv55_1, hg55_1, hrel0_1⟩
  refine call_i (run_S (rm := rm_X11_bytesOf) hx hb hml hown hts (s_X11_bytesOf l g ad th _ _ _ z1 hst hT ) cS_X11_bytesOf wg_1510 ⟨Nat.le_of_ble_eq_true rfl, Nat.le_of_ble_eq_true rfl⟩ hG hE hA hP hD hS rfl hl.1 (As := [.int z1]) (rest := [.int v2_1]) rfl (Nat.le_of_ble_eq_true rfl) dX11_feed_10 ⟨Nat.le_of_ble_eq_true rfl, Nat.le_of_ble_eq_true rfl⟩) hA hD hS (fun r6 L7 f8 H locs hp9 hP hD hS => ?_)
  obtain ⟨eL10L, eL10T, eL10R, eL10X0⟩ := hp9
  have eL10L : L7 = L := eL10L
  have eL10T : f8 = f3 := eL10T
  rw [eL10L, eL10T] at hP hD
  have eL10R : In r6 0 4 := eL10R
  have nbr6 : r6.toInt = nb z1 := eL10X0
  refine lv_iadd hx hb dX11_feed_13 ?_
  refine lv_topi (fun x11 ex11 => ?_)
  have hb12 : In x11 0 504 := ex11 ▸ In.add hv2_1 eL10R (by decide) (by decide) (by decide) (by decide)
  have et13 : x11.toInt = v2_1.toInt + r6.toInt := In.add2e ex11 hv2_1 eL10R (by decide) (by decide)
  refine lv_iload_n hx hb dX11_feed_14 rfl (lv_at hl 2 rfl) ?_
  refine call_i (run_S (rm := rm_X11_bytesOf) hx hb hml hown hts (s_X11_bytesOf l g ad th _ _ _ z2 hst hT ) cS_X11_bytesOf wg_1510 ⟨Nat.le_of_ble_eq_true rfl, Nat.le_of_ble_eq_true rfl⟩ hG hE hA hP hD hS rfl hl.1 (As := [.int z2]) (rest := [.int x11]) rfl (Nat.le_of_ble_eq_true rfl) dX11_feed_15 ⟨Nat.le_of_ble_eq_true rfl, Nat.le_of_ble_eq_true rfl⟩) hA hD hS (fun r14 L15 f16 H locs hp17 hP hD hS => ?_)
  obtain ⟨eL18L, eL18T, eL18R, eL18X0⟩ := hp17
  have eL18L : L15 = L := eL18L
  have eL18T : f16 = f3 := eL18T
  rw [eL18L, eL18T] at hP hD
  have eL18R : In r14 0 4 := eL18R
  have nbr14 : r14.toInt = nb z2 := eL18X0
  refine lv_iadd hx hb dX11_feed_18 ?_
  refine lv_topi (fun x19 ex19 => ?_)
  have hb20 : In x19 0 508 := ex19 ▸ In.add hb12 eL18R (by decide) (by decide) (by decide) (by decide)
  have et21 : x19.toInt = x11.toInt + r14.toInt := In.add2e ex19 hb12 eL18R (by decide) (by decide)
  refine lv_iload_n hx hb dX11_feed_19 rfl (lv_at hl 3 rfl) ?_
  refine call_i (run_S (rm := rm_X11_bytesOf) hx hb hml hown hts (s_X11_bytesOf l g ad th _ _ _ z3 hst hT ) cS_X11_bytesOf wg_1510 ⟨Nat.le_of_ble_eq_true rfl, Nat.le_of_ble_eq_true rfl⟩ hG hE hA hP hD hS rfl hl.1 (As := [.int z3]) (rest := [.int x19]) rfl (Nat.le_of_ble_eq_true rfl) dX11_feed_20 ⟨Nat.le_of_ble_eq_true rfl, Nat.le_of_ble_eq_true rfl⟩) hA hD hS (fun r22 L23 f24 H locs hp25 hP hD hS => ?_)
  obtain ⟨eL26L, eL26T, eL26R, eL26X0⟩ := hp25
  have eL26L : L23 = L := eL26L
  have eL26T : f24 = f3 := eL26T
  rw [eL26L, eL26T] at hP hD
  have eL26R : In r22 0 4 := eL26R
  have nbr22 : r22.toInt = nb z3 := eL26X0
  refine lv_iadd hx hb dX11_feed_23 ?_
  refine lv_topi (fun x27 ex27 => ?_)
  have hb28 : In x27 0 512 := ex27 ▸ In.add hb20 eL26R (by decide) (by decide) (by decide) (by decide)
  have et29 : x27.toInt = x19.toInt + r22.toInt := In.add2e ex27 hb20 eL26R (by decide) (by decide)
  refine lv_iload hx hb dX11_feed_24 (lv_at hl 4 rfl) ?_
  refine call_i (run_S (rm := rm_X11_bytesOf) hx hb hml hown hts (s_X11_bytesOf l g ad th _ _ _ z4 hst hT ) cS_X11_bytesOf wg_1510 ⟨Nat.le_of_ble_eq_true rfl, Nat.le_of_ble_eq_true rfl⟩ hG hE hA hP hD hS rfl hl.1 (As := [.int z4]) (rest := [.int x27]) rfl (Nat.le_of_ble_eq_true rfl) dX11_feed_26 ⟨Nat.le_of_ble_eq_true rfl, Nat.le_of_ble_eq_true rfl⟩) hA hD hS (fun r30 L31 f32 H locs hp33 hP hD hS => ?_)
  obtain ⟨eL34L, eL34T, eL34R, eL34X0⟩ := hp33
  have eL34L : L31 = L := eL34L
  have eL34T : f32 = f3 := eL34T
  rw [eL34L, eL34T] at hP hD
  have eL34R : In r30 0 4 := eL34R
  have nbr30 : r30.toInt = nb z4 := eL34X0
  refine lv_iadd hx hb dX11_feed_29 ?_
  refine lv_topi (fun x35 ex35 => ?_)
  have hb36 : In x35 0 516 := ex35 ▸ In.add hb28 eL34R (by decide) (by decide) (by decide) (by decide)
  have et37 : x35.toInt = x27.toInt + r30.toInt := In.add2e ex35 hb28 eL34R (by decide) (by decide)
  refine lv_iload hx hb dX11_feed_30 (lv_at hl 5 rfl) ?_
  refine call_i (run_S (rm := rm_X11_bytesOf) hx hb hml hown hts (s_X11_bytesOf l g ad th _ _ _ z5 hst hT ) cS_X11_bytesOf wg_1510 ⟨Nat.le_of_ble_eq_true rfl, Nat.le_of_ble_eq_true rfl⟩ hG hE hA hP hD hS rfl hl.1 (As := [.int z5]) (rest := [.int x35]) rfl (Nat.le_of_ble_eq_true rfl) dX11_feed_32 ⟨Nat.le_of_ble_eq_true rfl, Nat.le_of_ble_eq_true rfl⟩) hA hD hS (fun r38 L39 f40 H locs hp41 hP hD hS => ?_)
  obtain ⟨eL42L, eL42T, eL42R, eL42X0⟩ := hp41
  have eL42L : L39 = L := eL42L
  have eL42T : f40 = f3 := eL42T
  rw [eL42L, eL42T] at hP hD
  have eL42R : In r38 0 4 := eL42R
  have nbr38 : r38.toInt = nb z5 := eL42X0
  refine lv_iadd hx hb dX11_feed_35 ?_
  refine lv_topi (fun x43 ex43 => ?_)
  have hb44 : In x43 0 520 := ex43 ▸ In.add hb36 eL42R (by decide) (by decide) (by decide) (by decide)
  have et45 : x43.toInt = x35.toInt + r38.toInt := In.add2e ex43 hb36 eL42R (by decide) (by decide)
  refine lv_sipush (v := 500) hx hb dX11_feed_36 (by decide) ?_
  refine lv_icmp_le (tgt := 44) hx hb dX11_feed_39 (by decide) (fun c46 => ?_) (fun c46 => ?_)
  ·
    have oc500 : (500 : Int32).toInt = 500 := by decide
    have cc47 : x43.toInt ≤ (500 : Int32).toInt := i32_le.mp c46
    have hb48 : In x43 0 500 := In.le1 hb44 (⟨by decide, by decide⟩ : In 500 500 500) cc47 (by omega) (by omega)
    refine lv_aload_n hx hb dX11_feed_44 rfl (lv_at hl 0 rfl) ?_
    refine lv_iload_n hx hb dX11_feed_45 rfl (lv_at hl 1 rfl) ?_
    refine call_v (run_V (rm := rm_X11_brings) hx hb hml hown hts (s_X11_brings l g ad th _ _ _ z1 hst hT (show th 13 + nb z1 ≤ 500 by omega)) cV_X11_brings wg_1513 ⟨Nat.le_of_ble_eq_true rfl, Nat.le_of_ble_eq_true rfl⟩ hG hE hA hP hD hS (hst.1 255 (by decide)) hf4 rfl rfl hl.1 (As := [.int z1]) (rest := []) rfl (Nat.le_of_ble_eq_true rfl) dX11_feed_46 ⟨Nat.le_of_ble_eq_true rfl, Nat.le_of_ble_eq_true rfl⟩) hA hD hS (fun L50 f51 H locs hp52 hP hD hS => ?_)
    obtain ⟨eL53L, eL53T, eL53F⟩ := hp52
    have eL53L : L50 = L := eL53L
    rw [eL53L] at hP hD
    obtain ⟨zz54, hzz54, eL53T⟩ := eL53T
    have hT : TI g ad (gset th 13 zz54) f51 := eL53T
    have eL53F : ∀ b, b ≠ (ad 255) → b ≠ (ad 256) → f51 b = f3 b := eL53F
    have hfr : (∀ b, b ≠ (ad 255) → b ≠ (ad 256) → f51 b = f b) := fun b z0_ z1_ => (eL53F b z0_ z1_).trans (hfr b z0_ z1_)
    refine lv_aload_n hx hb dX11_feed_49 rfl (lv_at hl 0 rfl) ?_
    refine lv_iload_n hx hb dX11_feed_50 rfl (lv_at hl 2 rfl) ?_
    obtain ⟨v0_55, v2_55, v3_55, v4_55, v5_55, v6_55, v8_55, v9_55, v12_55, v13_55, v14_55, v15_55, v16_55, v17_55, v18_55, v19_55, v20_55, v21_55, v22_55, v23_55, v25_55, v36_55, v37_55, v38_55, v39_55, v40_55, v45_55, v46_55, v47_55, v48_55, v50_55, v51_55, v53_55, v55_55, hf56, hv0_55, hv2_55, hg2_55, hv3_55, hg3_55, hv4_55, hg4_55, hv5_55, hg5_55, hv6_55, hg6_55, hv8_55, hv9_55, hg9_55, hv12_55, hv13_55, hg13_55, hv14_55, hg14_55, hv15_55, hg15_55, hv17_55, hg17_55, hv20_55, hg20_55, hv23_55, hg23_55, hv25_55, hv36_55, hg36_55, hv47_55, hg47_55, hv48_55, hg48_55, hv53_55, hg53_55, hv55_55, hg55_55, hrel0_55⟩ := hT.2.2 0 (by decide)
    have hg2_55 : v2_55.toInt = zz54 := hg2_55
    have hg3_55 : v3_55.toInt = th 37 := hg3_55
    have hg4_55 : v4_55.toInt = th 42 := hg4_55
    have hg5_55 : v5_55.toInt = th 40 := hg5_55
    have hg6_55 : v6_55.toInt = th 41 := hg6_55
    have hg9_55 : v9_55.toInt = th 35 := hg9_55
    have hg13_55 : v13_55.toInt = th 36 := hg13_55
    have hg14_55 : v14_55.toInt = th 10 := hg14_55
    have hg15_55 : v15_55.toInt = th 11 := hg15_55
    have hg17_55 : v17_55.toInt = th 12 := hg17_55
    have hg20_55 : v20_55.toInt = th 14 := hg20_55
    have hg23_55 : v23_55.toInt = th 15 := hg23_55
    have hg36_55 : v36_55.toInt = th 18 := hg36_55
    have hg47_55 : v47_55.toInt = th 16 := hg47_55
    have hg48_55 : v48_55.toInt = th 17 := hg48_55
    have hg53_55 : v53_55.toInt = th 38 := hg53_55
    have hg55_55 : v55_55.toInt = th 39 := hg55_55
    refine call_v (run_V (rm := rm_X11_brings) hx hb hml hown hts (s_X11_brings l g ad (gset th 13 zz54) _ _ _ z2 hst hT (show zz54 + nb z2 ≤ 500 by omega)) cV_X11_brings wg_1513 ⟨Nat.le_of_ble_eq_true rfl, Nat.le_of_ble_eq_true rfl⟩ hG hE hA hP hD hS (hst.1 255 (by decide)) hf56 rfl rfl hl.1 (As := [.int z2]) (rest := []) rfl (Nat.le_of_ble_eq_true rfl) dX11_feed_51 ⟨Nat.le_of_ble_eq_true rfl, Nat.le_of_ble_eq_true rfl⟩) hA hD hS (fun L58 f59 H locs hp60 hP hD hS => ?_)
    obtain ⟨eL61L, eL61T, eL61F⟩ := hp60
    have eL61L : L58 = L := eL61L
    rw [eL61L] at hP hD
    obtain ⟨zz62, hzz62, eL61T⟩ := eL61T
    have hT : TI g ad (gset (gset th 13 zz54) 13 zz62) f59 := eL61T
    have hT : TI g ad (gset th 13 zz62) f59 := TI.cast hT (by funext q; simp only [gset]; (repeat' split); all_goals first | rfl | omega | (subst_vars; rfl) | (exfalso; omega))
    have eL61F : ∀ b, b ≠ (ad 255) → b ≠ (ad 256) → f59 b = f51 b := eL61F
    have hfr : (∀ b, b ≠ (ad 255) → b ≠ (ad 256) → f59 b = f b) := fun b z0_ z1_ => (eL61F b z0_ z1_).trans (hfr b z0_ z1_)
    refine lv_aload_n hx hb dX11_feed_54 rfl (lv_at hl 0 rfl) ?_
    refine lv_iload_n hx hb dX11_feed_55 rfl (lv_at hl 3 rfl) ?_
    obtain ⟨v0_63, v2_63, v3_63, v4_63, v5_63, v6_63, v8_63, v9_63, v12_63, v13_63, v14_63, v15_63, v16_63, v17_63, v18_63, v19_63, v20_63, v21_63, v22_63, v23_63, v25_63, v36_63, v37_63, v38_63, v39_63, v40_63, v45_63, v46_63, v47_63, v48_63, v50_63, v51_63, v53_63, v55_63, hf64, hv0_63, hv2_63, hg2_63, hv3_63, hg3_63, hv4_63, hg4_63, hv5_63, hg5_63, hv6_63, hg6_63, hv8_63, hv9_63, hg9_63, hv12_63, hv13_63, hg13_63, hv14_63, hg14_63, hv15_63, hg15_63, hv17_63, hg17_63, hv20_63, hg20_63, hv23_63, hg23_63, hv25_63, hv36_63, hg36_63, hv47_63, hg47_63, hv48_63, hg48_63, hv53_63, hg53_63, hv55_63, hg55_63, hrel0_63⟩ := hT.2.2 0 (by decide)
    have hg2_63 : v2_63.toInt = zz62 := hg2_63
    have hg3_63 : v3_63.toInt = th 37 := hg3_63
    have hg4_63 : v4_63.toInt = th 42 := hg4_63
    have hg5_63 : v5_63.toInt = th 40 := hg5_63
    have hg6_63 : v6_63.toInt = th 41 := hg6_63
    have hg9_63 : v9_63.toInt = th 35 := hg9_63
    have hg13_63 : v13_63.toInt = th 36 := hg13_63
    have hg14_63 : v14_63.toInt = th 10 := hg14_63
    have hg15_63 : v15_63.toInt = th 11 := hg15_63
    have hg17_63 : v17_63.toInt = th 12 := hg17_63
    have hg20_63 : v20_63.toInt = th 14 := hg20_63
    have hg23_63 : v23_63.toInt = th 15 := hg23_63
    have hg36_63 : v36_63.toInt = th 18 := hg36_63
    have hg47_63 : v47_63.toInt = th 16 := hg47_63
    have hg48_63 : v48_63.toInt = th 17 := hg48_63
    have hg53_63 : v53_63.toInt = th 38 := hg53_63
    have hg55_63 : v55_63.toInt = th 39 := hg55_63
    refine call_v (run_V (rm := rm_X11_brings) hx hb hml hown hts (s_X11_brings l g ad (gset th 13 zz62) _ _ _ z3 hst hT (show zz62 + nb z3 ≤ 500 by omega)) cV_X11_brings wg_1513 ⟨Nat.le_of_ble_eq_true rfl, Nat.le_of_ble_eq_true rfl⟩ hG hE hA hP hD hS (hst.1 255 (by decide)) hf64 rfl rfl hl.1 (As := [.int z3]) (rest := []) rfl (Nat.le_of_ble_eq_true rfl) dX11_feed_56 ⟨Nat.le_of_ble_eq_true rfl, Nat.le_of_ble_eq_true rfl⟩) hA hD hS (fun L66 f67 H locs hp68 hP hD hS => ?_)
    obtain ⟨eL69L, eL69T, eL69F⟩ := hp68
    have eL69L : L66 = L := eL69L
    rw [eL69L] at hP hD
    obtain ⟨zz70, hzz70, eL69T⟩ := eL69T
    have hT : TI g ad (gset (gset th 13 zz62) 13 zz70) f67 := eL69T
    have hT : TI g ad (gset th 13 zz70) f67 := TI.cast hT (by funext q; simp only [gset]; (repeat' split); all_goals first | rfl | omega | (subst_vars; rfl) | (exfalso; omega))
    have eL69F : ∀ b, b ≠ (ad 255) → b ≠ (ad 256) → f67 b = f59 b := eL69F
    have hfr : (∀ b, b ≠ (ad 255) → b ≠ (ad 256) → f67 b = f b) := fun b z0_ z1_ => (eL69F b z0_ z1_).trans (hfr b z0_ z1_)
    refine lv_aload_n hx hb dX11_feed_59 rfl (lv_at hl 0 rfl) ?_
    refine lv_iload hx hb dX11_feed_60 (lv_at hl 4 rfl) ?_
    obtain ⟨v0_71, v2_71, v3_71, v4_71, v5_71, v6_71, v8_71, v9_71, v12_71, v13_71, v14_71, v15_71, v16_71, v17_71, v18_71, v19_71, v20_71, v21_71, v22_71, v23_71, v25_71, v36_71, v37_71, v38_71, v39_71, v40_71, v45_71, v46_71, v47_71, v48_71, v50_71, v51_71, v53_71, v55_71, hf72, hv0_71, hv2_71, hg2_71, hv3_71, hg3_71, hv4_71, hg4_71, hv5_71, hg5_71, hv6_71, hg6_71, hv8_71, hv9_71, hg9_71, hv12_71, hv13_71, hg13_71, hv14_71, hg14_71, hv15_71, hg15_71, hv17_71, hg17_71, hv20_71, hg20_71, hv23_71, hg23_71, hv25_71, hv36_71, hg36_71, hv47_71, hg47_71, hv48_71, hg48_71, hv53_71, hg53_71, hv55_71, hg55_71, hrel0_71⟩ := hT.2.2 0 (by decide)
    have hg2_71 : v2_71.toInt = zz70 := hg2_71
    have hg3_71 : v3_71.toInt = th 37 := hg3_71
    have hg4_71 : v4_71.toInt = th 42 := hg4_71
    have hg5_71 : v5_71.toInt = th 40 := hg5_71
    have hg6_71 : v6_71.toInt = th 41 := hg6_71
    have hg9_71 : v9_71.toInt = th 35 := hg9_71
    have hg13_71 : v13_71.toInt = th 36 := hg13_71
    have hg14_71 : v14_71.toInt = th 10 := hg14_71
    have hg15_71 : v15_71.toInt = th 11 := hg15_71
    have hg17_71 : v17_71.toInt = th 12 := hg17_71
    have hg20_71 : v20_71.toInt = th 14 := hg20_71
    have hg23_71 : v23_71.toInt = th 15 := hg23_71
    have hg36_71 : v36_71.toInt = th 18 := hg36_71
    have hg47_71 : v47_71.toInt = th 16 := hg47_71
    have hg48_71 : v48_71.toInt = th 17 := hg48_71
    have hg53_71 : v53_71.toInt = th 38 := hg53_71
    have hg55_71 : v55_71.toInt = th 39 := hg55_71
    refine call_v (run_V (rm := rm_X11_brings) hx hb hml hown hts (s_X11_brings l g ad (gset th 13 zz70) _ _ _ z4 hst hT (show zz70 + nb z4 ≤ 500 by omega)) cV_X11_brings wg_1513 ⟨Nat.le_of_ble_eq_true rfl, Nat.le_of_ble_eq_true rfl⟩ hG hE hA hP hD hS (hst.1 255 (by decide)) hf72 rfl rfl hl.1 (As := [.int z4]) (rest := []) rfl (Nat.le_of_ble_eq_true rfl) dX11_feed_62 ⟨Nat.le_of_ble_eq_true rfl, Nat.le_of_ble_eq_true rfl⟩) hA hD hS (fun L74 f75 H locs hp76 hP hD hS => ?_)
    obtain ⟨eL77L, eL77T, eL77F⟩ := hp76
    have eL77L : L74 = L := eL77L
    rw [eL77L] at hP hD
    obtain ⟨zz78, hzz78, eL77T⟩ := eL77T
    have hT : TI g ad (gset (gset th 13 zz70) 13 zz78) f75 := eL77T
    have hT : TI g ad (gset th 13 zz78) f75 := TI.cast hT (by funext q; simp only [gset]; (repeat' split); all_goals first | rfl | omega | (subst_vars; rfl) | (exfalso; omega))
    have eL77F : ∀ b, b ≠ (ad 255) → b ≠ (ad 256) → f75 b = f67 b := eL77F
    have hfr : (∀ b, b ≠ (ad 255) → b ≠ (ad 256) → f75 b = f b) := fun b z0_ z1_ => (eL77F b z0_ z1_).trans (hfr b z0_ z1_)
    refine lv_aload_n hx hb dX11_feed_65 rfl (lv_at hl 0 rfl) ?_
    refine lv_iload hx hb dX11_feed_66 (lv_at hl 5 rfl) ?_
    obtain ⟨v0_79, v2_79, v3_79, v4_79, v5_79, v6_79, v8_79, v9_79, v12_79, v13_79, v14_79, v15_79, v16_79, v17_79, v18_79, v19_79, v20_79, v21_79, v22_79, v23_79, v25_79, v36_79, v37_79, v38_79, v39_79, v40_79, v45_79, v46_79, v47_79, v48_79, v50_79, v51_79, v53_79, v55_79, hf80, hv0_79, hv2_79, hg2_79, hv3_79, hg3_79, hv4_79, hg4_79, hv5_79, hg5_79, hv6_79, hg6_79, hv8_79, hv9_79, hg9_79, hv12_79, hv13_79, hg13_79, hv14_79, hg14_79, hv15_79, hg15_79, hv17_79, hg17_79, hv20_79, hg20_79, hv23_79, hg23_79, hv25_79, hv36_79, hg36_79, hv47_79, hg47_79, hv48_79, hg48_79, hv53_79, hg53_79, hv55_79, hg55_79, hrel0_79⟩ := hT.2.2 0 (by decide)
    have hg2_79 : v2_79.toInt = zz78 := hg2_79
    have hg3_79 : v3_79.toInt = th 37 := hg3_79
    have hg4_79 : v4_79.toInt = th 42 := hg4_79
    have hg5_79 : v5_79.toInt = th 40 := hg5_79
    have hg6_79 : v6_79.toInt = th 41 := hg6_79
    have hg9_79 : v9_79.toInt = th 35 := hg9_79
    have hg13_79 : v13_79.toInt = th 36 := hg13_79
    have hg14_79 : v14_79.toInt = th 10 := hg14_79
    have hg15_79 : v15_79.toInt = th 11 := hg15_79
    have hg17_79 : v17_79.toInt = th 12 := hg17_79
    have hg20_79 : v20_79.toInt = th 14 := hg20_79
    have hg23_79 : v23_79.toInt = th 15 := hg23_79
    have hg36_79 : v36_79.toInt = th 18 := hg36_79
    have hg47_79 : v47_79.toInt = th 16 := hg47_79
    have hg48_79 : v48_79.toInt = th 17 := hg48_79
    have hg53_79 : v53_79.toInt = th 38 := hg53_79
    have hg55_79 : v55_79.toInt = th 39 := hg55_79
    refine call_v (run_V (rm := rm_X11_brings) hx hb hml hown hts (s_X11_brings l g ad (gset th 13 zz78) _ _ _ z5 hst hT (show zz78 + nb z5 ≤ 500 by omega)) cV_X11_brings wg_1513 ⟨Nat.le_of_ble_eq_true rfl, Nat.le_of_ble_eq_true rfl⟩ hG hE hA hP hD hS (hst.1 255 (by decide)) hf80 rfl rfl hl.1 (As := [.int z5]) (rest := []) rfl (Nat.le_of_ble_eq_true rfl) dX11_feed_68 ⟨Nat.le_of_ble_eq_true rfl, Nat.le_of_ble_eq_true rfl⟩) hA hD hS (fun L82 f83 H locs hp84 hP hD hS => ?_)
    obtain ⟨eL85L, eL85T, eL85F⟩ := hp84
    have eL85L : L82 = L := eL85L
    rw [eL85L] at hP hD
    obtain ⟨zz86, hzz86, eL85T⟩ := eL85T
    have hT : TI g ad (gset (gset th 13 zz78) 13 zz86) f83 := eL85T
    have hT : TI g ad (gset th 13 zz86) f83 := TI.cast hT (by funext q; simp only [gset]; (repeat' split); all_goals first | rfl | omega | (subst_vars; rfl) | (exfalso; omega))
    have eL85F : ∀ b, b ≠ (ad 255) → b ≠ (ad 256) → f83 b = f75 b := eL85F
    have hfr : (∀ b, b ≠ (ad 255) → b ≠ (ad 256) → f83 b = f b) := fun b z0_ z1_ => (eL85F b z0_ z1_).trans (hfr b z0_ z1_)
    refine lv_aload_n hx hb dX11_feed_71 rfl (lv_at hl 0 rfl) ?_
    obtain ⟨v0_87, v2_87, v3_87, v4_87, v5_87, v6_87, v8_87, v9_87, v12_87, v13_87, v14_87, v15_87, v16_87, v17_87, v18_87, v19_87, v20_87, v21_87, v22_87, v23_87, v25_87, v36_87, v37_87, v38_87, v39_87, v40_87, v45_87, v46_87, v47_87, v48_87, v50_87, v51_87, v53_87, v55_87, hf88, hv0_87, hv2_87, hg2_87, hv3_87, hg3_87, hv4_87, hg4_87, hv5_87, hg5_87, hv6_87, hg6_87, hv8_87, hv9_87, hg9_87, hv12_87, hv13_87, hg13_87, hv14_87, hg14_87, hv15_87, hg15_87, hv17_87, hg17_87, hv20_87, hg20_87, hv23_87, hg23_87, hv25_87, hv36_87, hg36_87, hv47_87, hg47_87, hv48_87, hg48_87, hv53_87, hg53_87, hv55_87, hg55_87, hrel0_87⟩ := hT.2.2 0 (by decide)
    have hg2_87 : v2_87.toInt = zz86 := hg2_87
    have hg3_87 : v3_87.toInt = th 37 := hg3_87
    have hg4_87 : v4_87.toInt = th 42 := hg4_87
    have hg5_87 : v5_87.toInt = th 40 := hg5_87
    have hg6_87 : v6_87.toInt = th 41 := hg6_87
    have hg9_87 : v9_87.toInt = th 35 := hg9_87
    have hg13_87 : v13_87.toInt = th 36 := hg13_87
    have hg14_87 : v14_87.toInt = th 10 := hg14_87
    have hg15_87 : v15_87.toInt = th 11 := hg15_87
    have hg17_87 : v17_87.toInt = th 12 := hg17_87
    have hg20_87 : v20_87.toInt = th 14 := hg20_87
    have hg23_87 : v23_87.toInt = th 15 := hg23_87
    have hg36_87 : v36_87.toInt = th 18 := hg36_87
    have hg47_87 : v47_87.toInt = th 16 := hg47_87
    have hg48_87 : v48_87.toInt = th 17 := hg48_87
    have hg53_87 : v53_87.toInt = th 38 := hg53_87
    have hg55_87 : v55_87.toInt = th 39 := hg55_87
    refine pl_get (v := .int v2_87) hx hb hts (fun w h => mT (inX11 w h)) hown hG.1 hP (hst.1 255 (by decide)) hf88 rfl 2 (by decide) (hts _ (mT wg_1338)) (fun _ h => h) rfl dX11_feed_72 ?_
    exact ret_i (ty := .int) hx hb hr hlocks (rfl) hP hD hS (Nat.le_of_ble_eq_true rfl) (Nat.le_of_ble_eq_true rfl) (⟨rfl, ⟨zz86, trivial, TI.cast hT (by funext q; simp only [gset]; (repeat' split); all_goals first | rfl | omega | (subst_vars; rfl) | (exfalso; omega))⟩, hfr⟩) dX11_feed_75
  ·
    have oc500 : (500 : Int32).toInt = 500 := by decide
    have cc89 : (500 : Int32).toInt < x43.toInt := i32_nle c46
    have hb90 : In x43 501 520 := In.gt1 hb44 (⟨by decide, by decide⟩ : In 500 500 500) cc89 (by omega) (by omega)
    refine lv_iconst (v := (-1)) hx hb dX11_feed_42 (by decide) ?_
    exact ret_i (ty := .int) hx hb hr hlocks (rfl) hP hD hS (Nat.le_of_ble_eq_true rfl) (Nat.le_of_ble_eq_true rfl) (⟨rfl, ⟨(th 13), trivial, TI.cast hT (by funext q; simp only [gset]; (repeat' split); all_goals first | rfl | omega | (subst_vars; rfl) | (exfalso; omega))⟩, hfr⟩) dX11_feed_43

abbrev rm_X11_end : Room := { frames := 0, cells := 0, slots := 0, locals := 0 }
abbrev po_X11_end (g : GG) (ad : Nat → Nat) (th : Nat → Int) (L : List Nat) (f : HP) (z1 : Int32) : Int32 → (List Nat × HP) → Prop := fun r u => u.1 = L ∧ (∃ zz : Int, (True) ∧ TI g ad (gset th 13 zz) u.2) ∧ (∀ b, b ≠ (ad 255) → u.2 b = f b) ∧ In r 0 1
set_option maxHeartbeats 4000000 in
set_option maxRecDepth 100000 in
theorem s_X11_end (l : Launch) (g : GG) (ad : Nat → Nat) (th : Nat → Int) (L : List Nat) (f : HP) (sz : Nat) (z1 : Int32) (hst : ST ad L) (hT : TI g ad th f)  : MtI l g yX11_end cX11_end 2 (some .boolean) rm_X11_end [.ref (ad 255), .int z1] L f sz (po_X11_end g ad th L f z1) := by
  refine MtI.of (by decide +kernel) (Nat.le_of_ble_eq_true rfl) ?_
  intro p e s m below meth c A hEn hP hD hS ls hl
  obtain ⟨hx, hb, hr, hml, hown, hlocks, hts, hG, hA, hE, hnm⟩ := hEn
  have hown : s.vm.findClass "RulerWordModel" = some m.cls := hown
  have hl : lv_has ls 2 [(0, .ref (ad 255)), (1, .int z1)] := hl
  have hfr : (∀ b, b ≠ (ad 255) → f b = f b) := fun b z0_ => rfl
  refine lv_aload_n hx hb dX11_end_0 rfl (lv_at hl 0 rfl) ?_
  refine lv_iconst (v := 0) hx hb dX11_end_1 (by decide) ?_
  obtain ⟨v0_1, v2_1, v3_1, v4_1, v5_1, v6_1, v8_1, v9_1, v12_1, v13_1, v14_1, v15_1, v16_1, v17_1, v18_1, v19_1, v20_1, v21_1, v22_1, v23_1, v25_1, v36_1, v37_1, v38_1, v39_1, v40_1, v45_1, v46_1, v47_1, v48_1, v50_1, v51_1, v53_1, v55_1, hf2, hv0_1, hv2_1, hg2_1, hv3_1, hg3_1, hv4_1, hg4_1, hv5_1, hg5_1, hv6_1, hg6_1, hv8_1, hv9_1, hg9_1, hv12_1, hv13_1, hg13_1, hv14_1, hg14_1, hv15_1, hg15_1, hv17_1, hg17_1, hv20_1, hg20_1, hv23_1, hg23_1, hv25_1, hv36_1, hg36_1, hv47_1, hg47_1, hv48_1, hg48_1, hv53_1, hg53_1, hv55_1, hg55_1, hrel0_1⟩ := hT.2.2 0 (by decide)
  refine pl_put (ty := .int) (v := .int 0) (fs' := [.int 0, .ref (ad 256), .int v2_1, .int v3_1, .int v4_1, .int v5_1, .int v6_1, .ref (ad 257), .int v8_1, .int v9_1, .ref (ad 258), .ref (ad 259), .int v12_1, .int v13_1, .int v14_1, .int v15_1, .int v16_1, .int v17_1, .int v18_1, .int v19_1, .int v20_1, .long v21_1, .long v22_1, .int v23_1, .ref (ad 260), .int v25_1, .ref (ad 261), .ref (ad 262), .ref (ad 263), .ref (ad 264), .ref (ad 265), .ref (ad 266), .ref (ad 267), .ref (ad 268), .ref (ad 269), .ref (ad 270), .int v36_1, .int v37_1, .int v38_1, .int v39_1, .int v40_1, .ref (ad 271), .ref (ad 272), .ref (ad 273), .ref (ad 274), .long v45_1, .long v46_1, .int v47_1, .int v48_1, .ref (ad 275), .int v50_1, .int v51_1, .ref (ad 276), .int v53_1, .ref (ad 277), .int v55_1]) hx hb hts (fun w h => mT (inX11 w h)) tyX11 tyX11_ok nmX11 hown hG.1 hP hD hS (hst.1 255 (by decide)) hf2 rfl 0 (by decide) (hts _ (mT wg_1336)) (fun _ h => h) rfl (by decide +kernel) (rfl) (rfl) (Nat.le_of_ble_eq_true rfl) rfl dX11_end_2 (fun H locs f3 hf4 ho5 hP hD hS => ?_)
  have hfr : (∀ b, b ≠ (ad 255) → f3 b = f b) := fun b z0_ => (ho5 b z0_).trans (hfr b z0_)
  refine lv_iload_n hx hb dX11_end_5 rfl (lv_at hl 1 rfl) ?_
  have hT := TI.updM hT hst (k := 0) (by decide) hf4 ho5 ⟨0, v2_1, v3_1, v4_1, v5_1, v6_1, v8_1, v9_1, v12_1, v13_1, v14_1, v15_1, v16_1, v17_1, v18_1, v19_1, v20_1, v21_1, v22_1, v23_1, v25_1, v36_1, v37_1, v38_1, v39_1, v40_1, v45_1, v46_1, v47_1, v48_1, v50_1, v51_1, v53_1, v55_1, rfl, (⟨by decide, by decide⟩ : In 0 0 1), hv2_1, hg2_1, hv3_1, hg3_1, hv4_1, hg4_1, hv5_1, hg5_1, hv6_1, hg6_1, hv8_1, hv9_1, hg9_1, hv12_1, hv13_1, hg13_1, hv14_1, hg14_1, hv15_1, hg15_1, hv17_1, hg17_1, hv20_1, hg20_1, hv23_1, hg23_1, hv25_1, hv36_1, hg36_1, hv47_1, hg47_1, hv48_1, hg48_1, hv53_1, hg53_1, hv55_1, hg55_1, hrel0_1⟩
  refine lv_if_lt (tgt := 17) hx hb dX11_end_6 (by decide) (fun c6 => ?_) (fun c6 => ?_)
  ·
    have cc7 : z1.toInt < (0 : Int32).toInt := i32_lt.mp c6
    have hb8 : In z1 (-2147483648) (-1) := In.lt1 (In.full z1) (⟨by decide, by decide⟩ : In 0 0 0) cc7 (by omega) (by omega)
    refine lv_iconst (v := 0) hx hb dX11_end_17 (by decide) ?_
    exact ret_i (ty := .boolean) hx hb hr hlocks (rfl) hP hD hS (Nat.le_of_ble_eq_true rfl) (Nat.le_of_ble_eq_true rfl) (⟨rfl, ⟨(th 13), trivial, TI.cast hT (by funext q; simp only [gset]; (repeat' split); all_goals first | rfl | omega | (subst_vars; rfl) | (exfalso; omega))⟩, hfr, (⟨by decide, by decide⟩ : In 0 0 1)⟩) dX11_end_18
  ·
    have cc9 : (0 : Int32).toInt ≤ z1.toInt := i32_nlt c6
    have hb10 : In z1 0 2147483647 := In.ge1 (In.full z1) (⟨by decide, by decide⟩ : In 0 0 0) cc9 (by omega) (by omega)
    refine lv_iload_n hx hb dX11_end_9 rfl (lv_at hl 1 rfl) ?_
    refine lv_aload_n hx hb dX11_end_10 rfl (lv_at hl 0 rfl) ?_
    refine pl_get (v := .int v2_1) hx hb hts (fun w h => mT (inX11 w h)) hown hG.1 hP (hst.1 255 (by decide)) hf4 rfl 2 (by decide) (hts _ (mT wg_1338)) (fun _ h => h) rfl dX11_end_11 ?_
    refine lv_icmp_le (tgt := 19) hx hb dX11_end_14 (by decide) (fun c11 => ?_) (fun c11 => ?_)
    ·
      have cc12 : z1.toInt ≤ v2_1.toInt := i32_le.mp c11
      have hb13 : In z1 0 500 := In.le1 hb10 hv2_1 cc12 (by omega) (by omega)
      refine lv_aload_n hx hb dX11_end_19 rfl (lv_at hl 0 rfl) ?_
      refine lv_iload_n hx hb dX11_end_20 rfl (lv_at hl 1 rfl) ?_
      refine pl_put (ty := .int) (v := .int z1) (fs' := [.int 0, .ref (ad 256), .int z1, .int v3_1, .int v4_1, .int v5_1, .int v6_1, .ref (ad 257), .int v8_1, .int v9_1, .ref (ad 258), .ref (ad 259), .int v12_1, .int v13_1, .int v14_1, .int v15_1, .int v16_1, .int v17_1, .int v18_1, .int v19_1, .int v20_1, .long v21_1, .long v22_1, .int v23_1, .ref (ad 260), .int v25_1, .ref (ad 261), .ref (ad 262), .ref (ad 263), .ref (ad 264), .ref (ad 265), .ref (ad 266), .ref (ad 267), .ref (ad 268), .ref (ad 269), .ref (ad 270), .int v36_1, .int v37_1, .int v38_1, .int v39_1, .int v40_1, .ref (ad 271), .ref (ad 272), .ref (ad 273), .ref (ad 274), .long v45_1, .long v46_1, .int v47_1, .int v48_1, .ref (ad 275), .int v50_1, .int v51_1, .ref (ad 276), .int v53_1, .ref (ad 277), .int v55_1]) hx hb hts (fun w h => mT (inX11 w h)) tyX11 tyX11_ok nmX11 hown hG.1 hP hD hS (hst.1 255 (by decide)) hf4 rfl 2 (by decide) (hts _ (mT wg_1338)) (fun _ h => h) rfl (by decide +kernel) (rfl) (rfl) (Nat.le_of_ble_eq_true rfl) rfl dX11_end_21 (fun H locs f14 hf15 ho16 hP hD hS => ?_)
      have hfr : (∀ b, b ≠ (ad 255) → f14 b = f b) := fun b z0_ => (ho16 b z0_).trans (hfr b z0_)
      refine lv_iconst (v := 1) hx hb dX11_end_24 (by decide) ?_
      have hT := TI.updMG (th' := (gset th 13 (z1.toInt))) hT hst (k := 0) (by decide) hf15 ho16 ⟨0, z1, v3_1, v4_1, v5_1, v6_1, v8_1, v9_1, v12_1, v13_1, v14_1, v15_1, v16_1, v17_1, v18_1, v19_1, v20_1, v21_1, v22_1, v23_1, v25_1, v36_1, v37_1, v38_1, v39_1, v40_1, v45_1, v46_1, v47_1, v48_1, v50_1, v51_1, v53_1, v55_1, rfl, (⟨by decide, by decide⟩ : In 0 0 1), hb13, (by simp [gset]), hv3_1, (by rw [hg3_1]; simp [gset]), hv4_1, (by rw [hg4_1]; simp [gset]), hv5_1, (by rw [hg5_1]; simp [gset]), hv6_1, (by rw [hg6_1]; simp [gset]), hv8_1, hv9_1, (by rw [hg9_1]; simp [gset]), hv12_1, hv13_1, (by rw [hg13_1]; simp [gset]), hv14_1, (by rw [hg14_1]; simp [gset]), hv15_1, (by rw [hg15_1]; simp [gset]), hv17_1, (by rw [hg17_1]; simp [gset]), hv20_1, (by rw [hg20_1]; simp [gset]), hv23_1, (by rw [hg23_1]; simp [gset]), hv25_1, hv36_1, (by rw [hg36_1]; simp [gset]), hv47_1, (by rw [hg47_1]; simp [gset]), hv48_1, (by rw [hg48_1]; simp [gset]), hv53_1, (by rw [hg53_1]; simp [gset]), hv55_1, (by rw [hg55_1]; simp [gset]), hrel0_1⟩ (fun q hq => ((gset_ne (fun e => hq (by subst e; decide))).trans rfl))
      have hT : TI g ad (gset th 13 z1.toInt) f14 := TI.cast hT (by funext q; simp only [gset]; (repeat' split); all_goals first | rfl | omega | (subst_vars; rfl) | (exfalso; omega))
      exact ret_i (ty := .boolean) hx hb hr hlocks (rfl) hP hD hS (Nat.le_of_ble_eq_true rfl) (Nat.le_of_ble_eq_true rfl) (⟨rfl, ⟨z1.toInt, trivial, TI.cast hT (by funext q; simp only [gset]; (repeat' split); all_goals first | rfl | omega | (subst_vars; rfl) | (exfalso; omega))⟩, hfr, (⟨by decide, by decide⟩ : In 1 0 1)⟩) dX11_end_25
    ·
      have cc17 : v2_1.toInt < z1.toInt := i32_nle c11
      have hb18 : In z1 1 2147483647 := In.gt1 hb10 hv2_1 cc17 (by omega) (by omega)
      refine lv_iconst (v := 0) hx hb dX11_end_17 (by decide) ?_
      exact ret_i (ty := .boolean) hx hb hr hlocks (rfl) hP hD hS (Nat.le_of_ble_eq_true rfl) (Nat.le_of_ble_eq_true rfl) (⟨rfl, ⟨(th 13), trivial, TI.cast hT (by funext q; simp only [gset]; (repeat' split); all_goals first | rfl | omega | (subst_vars; rfl) | (exfalso; omega))⟩, hfr, (⟨by decide, by decide⟩ : In 0 0 1)⟩) dX11_end_18

abbrev rm_X11_here : Room := { frames := 0, cells := 0, slots := 0, locals := 0 }
abbrev po_X11_here (g : GG) (ad : Nat → Nat) (th : Nat → Int) (L : List Nat) (f : HP)  : Int32 → (List Nat × HP) → Prop := fun r u => u.1 = L ∧ u.2 = f ∧ In r (-1) 255 ∧ (r.toInt = -1 ∨ th 37 < th 13) ∧ (∀ r0 : Nat → Int32, f (ad 256) = .inl (g.2.1 2, 500, .inl r0) → r.toInt = -1 ∨ r.toInt = (r0 (th 37).toNat).toInt % 256)
set_option maxHeartbeats 4000000 in
set_option maxRecDepth 100000 in
theorem s_X11_here (l : Launch) (g : GG) (ad : Nat → Nat) (th : Nat → Int) (L : List Nat) (f : HP) (sz : Nat)  (hst : ST ad L) (hT : TI g ad th f)  : MtI l g yX11_here cX11_here 1 (some .int) rm_X11_here [.ref (ad 255)] L f sz (po_X11_here g ad th L f ) := by
  refine MtI.of (by decide +kernel) (Nat.le_of_ble_eq_true rfl) ?_
  intro p e s m below meth c A hEn hP hD hS ls hl
  obtain ⟨hx, hb, hr, hml, hown, hlocks, hts, hG, hA, hE, hnm⟩ := hEn
  have hown : s.vm.findClass "RulerWordModel" = some m.cls := hown
  have hl : lv_has ls 1 [(0, .ref (ad 255))] := hl
  refine lv_aload_n hx hb dX11_here_0 rfl (lv_at hl 0 rfl) ?_
  obtain ⟨v0_1, v2_1, v3_1, v4_1, v5_1, v6_1, v8_1, v9_1, v12_1, v13_1, v14_1, v15_1, v16_1, v17_1, v18_1, v19_1, v20_1, v21_1, v22_1, v23_1, v25_1, v36_1, v37_1, v38_1, v39_1, v40_1, v45_1, v46_1, v47_1, v48_1, v50_1, v51_1, v53_1, v55_1, hf2, hv0_1, hv2_1, hg2_1, hv3_1, hg3_1, hv4_1, hg4_1, hv5_1, hg5_1, hv6_1, hg6_1, hv8_1, hv9_1, hg9_1, hv12_1, hv13_1, hg13_1, hv14_1, hg14_1, hv15_1, hg15_1, hv17_1, hg17_1, hv20_1, hg20_1, hv23_1, hg23_1, hv25_1, hv36_1, hg36_1, hv47_1, hg47_1, hv48_1, hg48_1, hv53_1, hg53_1, hv55_1, hg55_1, hrel0_1⟩ := hT.2.2 0 (by decide)
  refine pl_get (v := .int v3_1) hx hb hts (fun w h => mT (inX11 w h)) hown hG.1 hP (hst.1 255 (by decide)) hf2 rfl 3 (by decide) (hts _ (mT wg_1339)) (fun _ h => h) rfl dX11_here_1 ?_
  refine lv_aload_n hx hb dX11_here_4 rfl (lv_at hl 0 rfl) ?_
  refine pl_get (v := .int v2_1) hx hb hts (fun w h => mT (inX11 w h)) hown hG.1 hP (hst.1 255 (by decide)) hf2 rfl 2 (by decide) (hts _ (mT wg_1338)) (fun _ h => h) rfl dX11_here_5 ?_
  refine lv_icmp_ge (tgt := 27) hx hb dX11_here_8 (by decide) (fun c3 => ?_) (fun c3 => ?_)
  ·
    have cc4 : v2_1.toInt ≤ v3_1.toInt := i32_le.mp c3
    refine lv_iconst (v := (-1)) hx hb dX11_here_27 (by decide) ?_
    exact ret_i (ty := .int) hx hb hr hlocks (rfl) hP hD hS (Nat.le_of_ble_eq_true rfl) (Nat.le_of_ble_eq_true rfl) (⟨rfl, rfl, (⟨by decide, by decide⟩ : In (-1) (-1) 255), (Or.inl (by decide)), (fun r0 _ => Or.inl (by decide))⟩) dX11_here_28
  ·
    have cc5 : v3_1.toInt < v2_1.toInt := i32_nle c3
    have hb6 : In v3_1 0 499 := In.lt1 hv3_1 hv2_1 cc5 (by omega) (by omega)
    have hb7 : In v2_1 1 500 := In.lt2 hv3_1 hv2_1 cc5 (by omega) (by omega)
    refine lv_aload_n hx hb dX11_here_11 rfl (lv_at hl 0 rfl) ?_
    refine pl_get (v := .ref (ad 256)) hx hb hts (fun w h => mT (inX11 w h)) hown hG.1 hP (hst.1 255 (by decide)) hf2 rfl 1 (by decide) (hts _ (mT wg_1337)) (fun _ h => h) rfl dX11_here_12 ?_
    refine lv_aload_n hx hb dX11_here_15 rfl (lv_at hl 0 rfl) ?_
    refine pl_get (v := .int v3_1) hx hb hts (fun w h => mT (inX11 w h)) hown hG.1 hP (hst.1 255 (by decide)) hf2 rfl 3 (by decide) (hts _ (mT wg_1339)) (fun _ h => h) rfl dX11_here_16 ?_
    obtain ⟨rw8, hf9, hc10⟩ := hT.2.2 1 (by decide)
    have hin11 : vp_in v3_1 500 := In.inb hb6 (by decide) (by decide)
    refine pl_bald hx hb hG.1 hP (hst.1 256 (by decide)) 2 hf9 rfl hin11 dX11_here_19 ?_
    refine lv_topi (fun x12 ex12 => ?_)
    have hb13 : In x12 (-128) 127 := by rw [ex12]; exact hc10 _ (vp_nat hin11)
    refine lv_sipush (v := 255) hx hb dX11_here_20 (by decide) ?_
    refine lv_iand hx hb dX11_here_23 ?_
    refine lv_topi (fun x14 ex14 => ?_)
    have hb15 : In x14 0 255 := ex14 ▸ In.andr (⟨by decide, by decide⟩ : In 255 255 255) (by decide)
    refine lv_goto (tgt := 28) hx hb dX11_here_24 (by decide) ?_
    exact ret_i (ty := .int) hx hb hr hlocks (rfl) hP hD hS (Nat.le_of_ble_eq_true rfl) (Nat.le_of_ble_eq_true rfl) (⟨rfl, rfl, (In.mono hb15 (by decide) (by decide)), (Or.inr (by obtain ⟨o0a, o0b⟩ := (hb7 : In _ _ _); obtain ⟨o1a, o1b⟩ := (hb6 : In _ _ _); obtain ⟨o2a, o2b⟩ := (hv4_1 : In _ _ _); obtain ⟨o3a, o3b⟩ := (hv5_1 : In _ _ _); obtain ⟨o4a, o4b⟩ := (hv6_1 : In _ _ _); obtain ⟨o5a, o5b⟩ := (hv9_1 : In _ _ _); obtain ⟨o6a, o6b⟩ := (hv13_1 : In _ _ _); obtain ⟨o7a, o7b⟩ := (hv14_1 : In _ _ _); obtain ⟨o8a, o8b⟩ := (hv15_1 : In _ _ _); obtain ⟨o9a, o9b⟩ := (hv17_1 : In _ _ _); obtain ⟨o10a, o10b⟩ := (hv20_1 : In _ _ _); obtain ⟨o11a, o11b⟩ := (hv23_1 : In _ _ _); obtain ⟨o12a, o12b⟩ := (hv36_1 : In _ _ _); obtain ⟨o13a, o13b⟩ := (hv47_1 : In _ _ _); obtain ⟨o14a, o14b⟩ := (hv48_1 : In _ _ _); obtain ⟨o15a, o15b⟩ := (hv53_1 : In _ _ _); obtain ⟨o16a, o16b⟩ := (hv55_1 : In _ _ _); omega)), (fun r0 q0 => Or.inr (by rw [and255 ex14, ex12]; have q1 := hf9.symm.trans q0; injection q1 with q1; injection q1 with _ q1; injection q1 with _ q1; injection q1 with q1; rw [← q1]; show (rw8 v3_1.toInt.toNat).toInt % 256 = _; rw [hg3_1]))⟩) dX11_here_28

abbrev rm_X11_look : Room := { frames := 1, cells := 0, slots := 0, locals := 20 }
abbrev po_X11_look (g : GG) (ad : Nat → Nat) (th : Nat → Int) (L : List Nat) (f : HP)  : Int32 → (List Nat × HP) → Prop := fun r u => u.1 = L ∧ (∃ za : Int, ((th 37 ≤ za ∧ za ≤ 500) ∧ (r.toInt = -1 ∨ za < th 13)) ∧ TI g ad (gset th 37 za) u.2) ∧ (∀ b, b ≠ (ad 255) → u.2 b = f b) ∧ In r (-1) 255
set_option maxHeartbeats 4000000 in
set_option maxRecDepth 100000 in
theorem s_X11_look (l : Launch) (g : GG) (ad : Nat → Nat) (th : Nat → Int) (L : List Nat) (f : HP) (sz : Nat)  (hst : ST ad L) (hT : TI g ad th f)  : MtI l g yX11_look cX11_look 1 (some .int) rm_X11_look [.ref (ad 255)] L f sz (po_X11_look g ad th L f ) := by
  refine MtI.of (by decide +kernel) (Nat.le_of_ble_eq_true rfl) ?_
  intro p e s m below meth c A hEn hP hD hS ls hl
  obtain ⟨hx, hb, hr, hml, hown, hlocks, hts, hG, hA, hE, hnm⟩ := hEn
  have hown : s.vm.findClass "RulerWordModel" = some m.cls := hown
  have hl : lv_has ls 1 [(0, .ref (ad 255))] := hl
  have hfr : (∀ b, b ≠ (ad 255) → f b = f b) := fun b z0_ => rfl
  have hJ0 : ∀ (k0 : Nat) (zg0_za : Int) (f_0 : HP) (H : Heap) (locs : List Loc) (ls : Array Slot), th 37 ≤ zg0_za ∧ zg0_za ≤ 500 → va_P g.1 vwCl (va_pl L f_0) H → va_D A (va_pl L f_0) → va_S A s.heap H locs → TI g ad (gset th 37 zg0_za) f_0 → (∀ b, b ≠ (ad 255) → f_0 b = f b) → lv_has ls 1 [(0, .ref (ad 255))] → 500 - zg0_za < ((k0 : Nat) : Int) → W p l e rm_X11_look s m [.ref (ad 255)].toArray below meth c H locs 0 0 (MQ below (va_Qi (po_X11_look g ad th L f ) (PstB g A) A) [.ref (ad 255)].toArray s rm_X11_look.cells rm_X11_look.slots A) (F0 m 0 ls []) := by
    intro k0
    induction k0 with
    | zero =>
      intro zg0_za f_0 H locs ls hzg0 hP hD hS hT hfr hl hmz0
      exact absurd hmz0 (by omega)
    | succ k0 ih0 =>
      intro zg0_za f_0 H locs ls hzg0 hP hD hS hT hfr hl hmz0
      refine lv_aload_n hx hb dX11_look_0 rfl (lv_at hl 0 rfl) ?_
      obtain ⟨v0_1, v2_1, v3_1, v4_1, v5_1, v6_1, v8_1, v9_1, v12_1, v13_1, v14_1, v15_1, v16_1, v17_1, v18_1, v19_1, v20_1, v21_1, v22_1, v23_1, v25_1, v36_1, v37_1, v38_1, v39_1, v40_1, v45_1, v46_1, v47_1, v48_1, v50_1, v51_1, v53_1, v55_1, hf2, hv0_1, hv2_1, hg2_1, hv3_1, hg3_1, hv4_1, hg4_1, hv5_1, hg5_1, hv6_1, hg6_1, hv8_1, hv9_1, hg9_1, hv12_1, hv13_1, hg13_1, hv14_1, hg14_1, hv15_1, hg15_1, hv17_1, hg17_1, hv20_1, hg20_1, hv23_1, hg23_1, hv25_1, hv36_1, hg36_1, hv47_1, hg47_1, hv48_1, hg48_1, hv53_1, hg53_1, hv55_1, hg55_1, hrel0_1⟩ := hT.2.2 0 (by decide)
      have hg2_1 : v2_1.toInt = th 13 := hg2_1
      have hg3_1 : v3_1.toInt = zg0_za := hg3_1
      have hg4_1 : v4_1.toInt = th 42 := hg4_1
      have hg5_1 : v5_1.toInt = th 40 := hg5_1
      have hg6_1 : v6_1.toInt = th 41 := hg6_1
      have hg9_1 : v9_1.toInt = th 35 := hg9_1
      have hg13_1 : v13_1.toInt = th 36 := hg13_1
      have hg14_1 : v14_1.toInt = th 10 := hg14_1
      have hg15_1 : v15_1.toInt = th 11 := hg15_1
      have hg17_1 : v17_1.toInt = th 12 := hg17_1
      have hg20_1 : v20_1.toInt = th 14 := hg20_1
      have hg23_1 : v23_1.toInt = th 15 := hg23_1
      have hg36_1 : v36_1.toInt = th 18 := hg36_1
      have hg47_1 : v47_1.toInt = th 16 := hg47_1
      have hg48_1 : v48_1.toInt = th 17 := hg48_1
      have hg53_1 : v53_1.toInt = th 38 := hg53_1
      have hg55_1 : v55_1.toInt = th 39 := hg55_1
      refine call_i (run_V (rm := rm_X11_here) hx hb hml hown hts (s_X11_here l g ad (gset th 37 zg0_za) _ _ _  hst hT ) cV_X11_here wg_1533 ⟨Nat.le_of_ble_eq_true rfl, Nat.le_of_ble_eq_true rfl⟩ hG hE hA hP hD hS (hst.1 255 (by decide)) hf2 rfl rfl hl.1 (As := []) (rest := []) rfl (Nat.le_of_ble_eq_true rfl) dX11_look_1 ⟨Nat.le_of_ble_eq_true rfl, Nat.le_of_ble_eq_true rfl⟩) hA hD hS (fun r3 L4 f5 H locs hp6 hP hD hS => ?_)
      obtain ⟨eL7L, eL7T, eL7R, eL7X0, eL7X1⟩ := hp6
      have eL7L : L4 = L := eL7L
      have eL7T : f5 = f_0 := eL7T
      rw [eL7L, eL7T] at hP hD
      have eL7R : In r3 (-1) 255 := eL7R
      have hh8 : r3.toInt = -1 ∨ zg0_za < th 13 := eL7X0
      refine lv_bipush (v := 32) hx hb dX11_look_4 (by decide) ?_
      refine lv_icmp_ne (tgt := 22) hx hb dX11_look_6 (by decide) (fun c9 => ?_) (fun c9 => ?_)
      ·
        have oc32 : (32 : Int32).toInt = 32 := by decide
        have cc10 : r3.toInt ≠ (32 : Int32).toInt := i32_ne c9
        refine lv_aload_n hx hb dX11_look_22 rfl (lv_at hl 0 rfl) ?_
        refine call_i (run_V (rm := rm_X11_here) hx hb hml hown hts (s_X11_here l g ad (gset th 37 zg0_za) _ _ _  hst hT ) cV_X11_here wg_1533 ⟨Nat.le_of_ble_eq_true rfl, Nat.le_of_ble_eq_true rfl⟩ hG hE hA hP hD hS (hst.1 255 (by decide)) hf2 rfl rfl hl.1 (As := []) (rest := []) rfl (Nat.le_of_ble_eq_true rfl) dX11_look_23 ⟨Nat.le_of_ble_eq_true rfl, Nat.le_of_ble_eq_true rfl⟩) hA hD hS (fun r11 L12 f13 H locs hp14 hP hD hS => ?_)
        obtain ⟨eL15L, eL15T, eL15R, eL15X0, eL15X1⟩ := hp14
        have eL15L : L12 = L := eL15L
        have eL15T : f13 = f_0 := eL15T
        rw [eL15L, eL15T] at hP hD
        have eL15R : In r11 (-1) 255 := eL15R
        have hh16 : r11.toInt = -1 ∨ zg0_za < th 13 := eL15X0
        exact ret_i (ty := .int) hx hb hr hlocks (rfl) hP hD hS (Nat.le_of_ble_eq_true rfl) (Nat.le_of_ble_eq_true rfl) (⟨rfl, ⟨zg0_za, (show (th 37 ≤ zg0_za ∧ zg0_za ≤ 500) ∧ (r11.toInt = -1 ∨ zg0_za < th 13) from (by obtain ⟨o0a, o0b⟩ := (eL15R : In _ _ _); obtain ⟨o1a, o1b⟩ := (hv2_1 : In _ _ _); obtain ⟨o2a, o2b⟩ := (hv3_1 : In _ _ _); obtain ⟨o3a, o3b⟩ := (hv4_1 : In _ _ _); obtain ⟨o4a, o4b⟩ := (hv5_1 : In _ _ _); obtain ⟨o5a, o5b⟩ := (hv6_1 : In _ _ _); obtain ⟨o6a, o6b⟩ := (hv9_1 : In _ _ _); obtain ⟨o7a, o7b⟩ := (hv13_1 : In _ _ _); obtain ⟨o8a, o8b⟩ := (hv14_1 : In _ _ _); obtain ⟨o9a, o9b⟩ := (hv15_1 : In _ _ _); obtain ⟨o10a, o10b⟩ := (hv17_1 : In _ _ _); obtain ⟨o11a, o11b⟩ := (hv20_1 : In _ _ _); obtain ⟨o12a, o12b⟩ := (hv23_1 : In _ _ _); obtain ⟨o13a, o13b⟩ := (hv36_1 : In _ _ _); obtain ⟨o14a, o14b⟩ := (hv47_1 : In _ _ _); obtain ⟨o15a, o15b⟩ := (hv48_1 : In _ _ _); obtain ⟨o16a, o16b⟩ := (hv53_1 : In _ _ _); obtain ⟨o17a, o17b⟩ := (hv55_1 : In _ _ _); omega)), TI.cast hT (by funext q; simp only [gset]; (repeat' split); all_goals first | rfl | omega | (subst_vars; rfl) | (exfalso; omega))⟩, hfr, eL15R⟩) dX11_look_26
      ·
        have oc32 : (32 : Int32).toInt = 32 := by decide
        have cc17 : r3.toInt = (32 : Int32).toInt := congrArg Int32.toInt c9
        have hb18 : In r3 32 32 := In.eq1 eL7R (⟨by decide, by decide⟩ : In 32 32 32) cc17 (by omega) (by omega)
        refine lv_aload_n hx hb dX11_look_9 rfl (lv_at hl 0 rfl) ?_
        refine lv_dup hx hb dX11_look_10 rfl ?_
        refine pl_get (v := .int v3_1) hx hb hts (fun w h => mT (inX11 w h)) hown hG.1 hP (hst.1 255 (by decide)) hf2 rfl 3 (by decide) (hts _ (mT wg_1339)) (fun _ h => h) rfl dX11_look_11 ?_
        refine lv_iconst (v := 1) hx hb dX11_look_14 (by decide) ?_
        refine lv_iadd hx hb dX11_look_15 ?_
        refine lv_topi (fun x19 ex19 => ?_)
        have hb20 : In x19 1 501 := ex19 ▸ In.add hv3_1 (⟨by decide, by decide⟩ : In 1 1 1) (by decide) (by decide) (by decide) (by decide)
        have et21 : x19.toInt = v3_1.toInt + 1 := In.adde ex19 hv3_1 (k := 1) (by decide) (by decide) (by decide)
        refine pl_put (ty := .int) (v := .int x19) (fs' := [.int v0_1, .ref (ad 256), .int v2_1, .int x19, .int v4_1, .int v5_1, .int v6_1, .ref (ad 257), .int v8_1, .int v9_1, .ref (ad 258), .ref (ad 259), .int v12_1, .int v13_1, .int v14_1, .int v15_1, .int v16_1, .int v17_1, .int v18_1, .int v19_1, .int v20_1, .long v21_1, .long v22_1, .int v23_1, .ref (ad 260), .int v25_1, .ref (ad 261), .ref (ad 262), .ref (ad 263), .ref (ad 264), .ref (ad 265), .ref (ad 266), .ref (ad 267), .ref (ad 268), .ref (ad 269), .ref (ad 270), .int v36_1, .int v37_1, .int v38_1, .int v39_1, .int v40_1, .ref (ad 271), .ref (ad 272), .ref (ad 273), .ref (ad 274), .long v45_1, .long v46_1, .int v47_1, .int v48_1, .ref (ad 275), .int v50_1, .int v51_1, .ref (ad 276), .int v53_1, .ref (ad 277), .int v55_1]) hx hb hts (fun w h => mT (inX11 w h)) tyX11 tyX11_ok nmX11 hown hG.1 hP hD hS (hst.1 255 (by decide)) hf2 rfl 3 (by decide) (hts _ (mT wg_1339)) (fun _ h => h) rfl (by decide +kernel) (rfl) (rfl) (Nat.le_of_ble_eq_true rfl) rfl dX11_look_16 (fun H locs f22 hf23 ho24 hP hD hS => ?_)
        have hfr : (∀ b, b ≠ (ad 255) → f22 b = f b) := fun b z0_ => (ho24 b z0_).trans (hfr b z0_)
        have hT := TI.updMG (th' := (gset (gset th 37 zg0_za) 37 (x19.toInt))) hT hst (k := 0) (by decide) hf23 ho24 ⟨v0_1, v2_1, x19, v4_1, v5_1, v6_1, v8_1, v9_1, v12_1, v13_1, v14_1, v15_1, v16_1, v17_1, v18_1, v19_1, v20_1, v21_1, v22_1, v23_1, v25_1, v36_1, v37_1, v38_1, v39_1, v40_1, v45_1, v46_1, v47_1, v48_1, v50_1, v51_1, v53_1, v55_1, rfl, hv0_1, hv2_1, (by rw [hg2_1]; simp [gset]), (In.mk (by obtain ⟨o0a, o0b⟩ := (hb20 : In _ _ _); obtain ⟨o1a, o1b⟩ := (hv2_1 : In _ _ _); obtain ⟨o2a, o2b⟩ := (hv4_1 : In _ _ _); obtain ⟨o3a, o3b⟩ := (hv5_1 : In _ _ _); obtain ⟨o4a, o4b⟩ := (hv6_1 : In _ _ _); obtain ⟨o5a, o5b⟩ := (hv9_1 : In _ _ _); obtain ⟨o6a, o6b⟩ := (hv13_1 : In _ _ _); obtain ⟨o7a, o7b⟩ := (hv14_1 : In _ _ _); obtain ⟨o8a, o8b⟩ := (hv15_1 : In _ _ _); obtain ⟨o9a, o9b⟩ := (hv17_1 : In _ _ _); obtain ⟨o10a, o10b⟩ := (hv20_1 : In _ _ _); obtain ⟨o11a, o11b⟩ := (hv23_1 : In _ _ _); obtain ⟨o12a, o12b⟩ := (hv36_1 : In _ _ _); obtain ⟨o13a, o13b⟩ := (hv47_1 : In _ _ _); obtain ⟨o14a, o14b⟩ := (hv48_1 : In _ _ _); obtain ⟨o15a, o15b⟩ := (hv53_1 : In _ _ _); obtain ⟨o16a, o16b⟩ := (hv55_1 : In _ _ _); obtain ⟨o17a, o17b⟩ := (hv3_1 : In _ _ _); omega) (by obtain ⟨o0a, o0b⟩ := (hb20 : In _ _ _); obtain ⟨o1a, o1b⟩ := (hv2_1 : In _ _ _); obtain ⟨o2a, o2b⟩ := (hv4_1 : In _ _ _); obtain ⟨o3a, o3b⟩ := (hv5_1 : In _ _ _); obtain ⟨o4a, o4b⟩ := (hv6_1 : In _ _ _); obtain ⟨o5a, o5b⟩ := (hv9_1 : In _ _ _); obtain ⟨o6a, o6b⟩ := (hv13_1 : In _ _ _); obtain ⟨o7a, o7b⟩ := (hv14_1 : In _ _ _); obtain ⟨o8a, o8b⟩ := (hv15_1 : In _ _ _); obtain ⟨o9a, o9b⟩ := (hv17_1 : In _ _ _); obtain ⟨o10a, o10b⟩ := (hv20_1 : In _ _ _); obtain ⟨o11a, o11b⟩ := (hv23_1 : In _ _ _); obtain ⟨o12a, o12b⟩ := (hv36_1 : In _ _ _); obtain ⟨o13a, o13b⟩ := (hv47_1 : In _ _ _); obtain ⟨o14a, o14b⟩ := (hv48_1 : In _ _ _); obtain ⟨o15a, o15b⟩ := (hv53_1 : In _ _ _); obtain ⟨o16a, o16b⟩ := (hv55_1 : In _ _ _); obtain ⟨o17a, o17b⟩ := (hv3_1 : In _ _ _); omega)), (by simp [gset]), hv4_1, (by rw [hg4_1]; simp [gset]), hv5_1, (by rw [hg5_1]; simp [gset]), hv6_1, (by rw [hg6_1]; simp [gset]), hv8_1, hv9_1, (by rw [hg9_1]; simp [gset]), hv12_1, hv13_1, (by rw [hg13_1]; simp [gset]), hv14_1, (by rw [hg14_1]; simp [gset]), hv15_1, (by rw [hg15_1]; simp [gset]), hv17_1, (by rw [hg17_1]; simp [gset]), hv20_1, (by rw [hg20_1]; simp [gset]), hv23_1, (by rw [hg23_1]; simp [gset]), hv25_1, hv36_1, (by rw [hg36_1]; simp [gset]), hv47_1, (by rw [hg47_1]; simp [gset]), hv48_1, (by rw [hg48_1]; simp [gset]), hv53_1, (by rw [hg53_1]; simp [gset]), hv55_1, (by rw [hg55_1]; simp [gset]), hrel0_1⟩ (fun q hq => ((gset_ne (fun e => hq (by subst e; decide))).trans rfl))
        have hT : TI g ad (gset th 37 x19.toInt) f22 := TI.cast hT (by funext q; simp only [gset]; (repeat' split); all_goals first | rfl | omega | (subst_vars; rfl) | (exfalso; omega))
        refine lv_goto (tgt := 0) hx hb dX11_look_19 (by decide) ?_
        exact ih0 x19.toInt _ _ _ _ (show th 37 ≤ x19.toInt ∧ x19.toInt ≤ 500 from (by omega)) hP hD hS (TI.cast hT (by funext q; simp only [gset]; (repeat' split); all_goals first | rfl | omega | (subst_vars; rfl) | (exfalso; omega))) hfr (lv_sub hl [0] rfl) (show 500 - (x19.toInt) < ((k0 : Nat) : Int) from (by omega))
  exact hJ0 ((500 - (th 37)).toNat + 1) (th 37) _ _ _ _ (show th 37 ≤ (th 37) ∧ (th 37) ≤ 500 from (by omega)) hP hD hS (TI.cast hT (by funext q; simp only [gset]; (repeat' split); all_goals first | rfl | omega | (subst_vars; rfl) | (exfalso; omega))) hfr (lv_sub hl [0] rfl) (msI _)

abbrev rm_X11_fails : Room := { frames := 0, cells := 0, slots := 0, locals := 0 }
abbrev po_X11_fails (g : GG) (ad : Nat → Nat) (th : Nat → Int) (L : List Nat) (f : HP) (z1 : Int32) : (List Nat × HP) → Prop := fun u => u.1 = L ∧ (∃ ze : Int, (0 ≤ ze) ∧ TI g ad (gset th 42 ze) u.2) ∧ (∀ b, b ≠ (ad 255) → u.2 b = f b)
set_option maxHeartbeats 4000000 in
set_option maxRecDepth 100000 in
theorem s_X11_fails (l : Launch) (g : GG) (ad : Nat → Nat) (th : Nat → Int) (L : List Nat) (f : HP) (sz : Nat) (z1 : Int32) (hst : ST ad L) (hT : TI g ad th f) (hz1 : In z1 0 500) : MtV l g yX11_fails cX11_fails 2 rm_X11_fails [.ref (ad 255), .int z1] L f sz (po_X11_fails g ad th L f z1) := by
  refine MtV.of (by decide +kernel) (Nat.le_of_ble_eq_true rfl) ?_
  intro p e s m below meth c A hEn hP hD hS ls hl
  obtain ⟨hx, hb, hr, hml, hown, hlocks, hts, hG, hA, hE, hnm⟩ := hEn
  have hown : s.vm.findClass "RulerWordModel" = some m.cls := hown
  have hl : lv_has ls 2 [(0, .ref (ad 255)), (1, .int z1)] := hl
  have hfr : (∀ b, b ≠ (ad 255) → f b = f b) := fun b z0_ => rfl
  refine lv_aload_n hx hb dX11_fails_0 rfl (lv_at hl 0 rfl) ?_
  obtain ⟨v0_1, v2_1, v3_1, v4_1, v5_1, v6_1, v8_1, v9_1, v12_1, v13_1, v14_1, v15_1, v16_1, v17_1, v18_1, v19_1, v20_1, v21_1, v22_1, v23_1, v25_1, v36_1, v37_1, v38_1, v39_1, v40_1, v45_1, v46_1, v47_1, v48_1, v50_1, v51_1, v53_1, v55_1, hf2, hv0_1, hv2_1, hg2_1, hv3_1, hg3_1, hv4_1, hg4_1, hv5_1, hg5_1, hv6_1, hg6_1, hv8_1, hv9_1, hg9_1, hv12_1, hv13_1, hg13_1, hv14_1, hg14_1, hv15_1, hg15_1, hv17_1, hg17_1, hv20_1, hg20_1, hv23_1, hg23_1, hv25_1, hv36_1, hg36_1, hv47_1, hg47_1, hv48_1, hg48_1, hv53_1, hg53_1, hv55_1, hg55_1, hrel0_1⟩ := hT.2.2 0 (by decide)
  refine pl_get (v := .int v4_1) hx hb hts (fun w h => mT (inX11 w h)) hown hG.1 hP (hst.1 255 (by decide)) hf2 rfl 4 (by decide) (hts _ (mT wg_1340)) (fun _ h => h) rfl dX11_fails_1 ?_
  refine lv_iconst (v := (-1)) hx hb dX11_fails_4 (by decide) ?_
  refine lv_icmp_ne (tgt := 13) hx hb dX11_fails_5 (by decide) (fun c3 => ?_) (fun c3 => ?_)
  ·
    have ocm1 : ((-1) : Int32).toInt = (-1) := by decide
    have cc4 : v4_1.toInt ≠ ((-1) : Int32).toInt := i32_ne c3
    have hb5 : In v4_1 0 500 := In.ne1 hv4_1 (⟨by decide, by decide⟩ : In (-1) (-1) (-1)) cc4 (by omega) (by omega)
    exact ret_v hx hb hr hlocks hP hD hS (Nat.le_of_ble_eq_true rfl) (Nat.le_of_ble_eq_true rfl) (⟨rfl, ⟨(th 42), (show 0 ≤ (th 42) from (by obtain ⟨o0a, o0b⟩ := (hv2_1 : In _ _ _); obtain ⟨o1a, o1b⟩ := (hv3_1 : In _ _ _); obtain ⟨o2a, o2b⟩ := (hb5 : In _ _ _); obtain ⟨o3a, o3b⟩ := (hv5_1 : In _ _ _); obtain ⟨o4a, o4b⟩ := (hv6_1 : In _ _ _); obtain ⟨o5a, o5b⟩ := (hv9_1 : In _ _ _); obtain ⟨o6a, o6b⟩ := (hv13_1 : In _ _ _); obtain ⟨o7a, o7b⟩ := (hv14_1 : In _ _ _); obtain ⟨o8a, o8b⟩ := (hv15_1 : In _ _ _); obtain ⟨o9a, o9b⟩ := (hv17_1 : In _ _ _); obtain ⟨o10a, o10b⟩ := (hv20_1 : In _ _ _); obtain ⟨o11a, o11b⟩ := (hv23_1 : In _ _ _); obtain ⟨o12a, o12b⟩ := (hv36_1 : In _ _ _); obtain ⟨o13a, o13b⟩ := (hv47_1 : In _ _ _); obtain ⟨o14a, o14b⟩ := (hv48_1 : In _ _ _); obtain ⟨o15a, o15b⟩ := (hv53_1 : In _ _ _); obtain ⟨o16a, o16b⟩ := (hv55_1 : In _ _ _); omega)), TI.cast hT (by funext q; simp only [gset]; (repeat' split); all_goals first | rfl | omega | (subst_vars; rfl) | (exfalso; omega))⟩, hfr⟩) dX11_fails_13
  ·
    have ocm1 : ((-1) : Int32).toInt = (-1) := by decide
    have cc6 : v4_1.toInt = ((-1) : Int32).toInt := congrArg Int32.toInt c3
    have hb7 : In v4_1 (-1) (-1) := In.eq1 hv4_1 (⟨by decide, by decide⟩ : In (-1) (-1) (-1)) cc6 (by omega) (by omega)
    refine lv_aload_n hx hb dX11_fails_8 rfl (lv_at hl 0 rfl) ?_
    refine lv_iload_n hx hb dX11_fails_9 rfl (lv_at hl 1 rfl) ?_
    refine pl_put (ty := .int) (v := .int z1) (fs' := [.int v0_1, .ref (ad 256), .int v2_1, .int v3_1, .int z1, .int v5_1, .int v6_1, .ref (ad 257), .int v8_1, .int v9_1, .ref (ad 258), .ref (ad 259), .int v12_1, .int v13_1, .int v14_1, .int v15_1, .int v16_1, .int v17_1, .int v18_1, .int v19_1, .int v20_1, .long v21_1, .long v22_1, .int v23_1, .ref (ad 260), .int v25_1, .ref (ad 261), .ref (ad 262), .ref (ad 263), .ref (ad 264), .ref (ad 265), .ref (ad 266), .ref (ad 267), .ref (ad 268), .ref (ad 269), .ref (ad 270), .int v36_1, .int v37_1, .int v38_1, .int v39_1, .int v40_1, .ref (ad 271), .ref (ad 272), .ref (ad 273), .ref (ad 274), .long v45_1, .long v46_1, .int v47_1, .int v48_1, .ref (ad 275), .int v50_1, .int v51_1, .ref (ad 276), .int v53_1, .ref (ad 277), .int v55_1]) hx hb hts (fun w h => mT (inX11 w h)) tyX11 tyX11_ok nmX11 hown hG.1 hP hD hS (hst.1 255 (by decide)) hf2 rfl 4 (by decide) (hts _ (mT wg_1340)) (fun _ h => h) rfl (by decide +kernel) (rfl) (rfl) (Nat.le_of_ble_eq_true rfl) rfl dX11_fails_10 (fun H locs f8 hf9 ho10 hP hD hS => ?_)
    have hfr : (∀ b, b ≠ (ad 255) → f8 b = f b) := fun b z0_ => (ho10 b z0_).trans (hfr b z0_)
    have hT := TI.updMG (th' := (gset th 42 (z1.toInt))) hT hst (k := 0) (by decide) hf9 ho10 ⟨v0_1, v2_1, v3_1, z1, v5_1, v6_1, v8_1, v9_1, v12_1, v13_1, v14_1, v15_1, v16_1, v17_1, v18_1, v19_1, v20_1, v21_1, v22_1, v23_1, v25_1, v36_1, v37_1, v38_1, v39_1, v40_1, v45_1, v46_1, v47_1, v48_1, v50_1, v51_1, v53_1, v55_1, rfl, hv0_1, hv2_1, (by rw [hg2_1]; simp [gset]), hv3_1, (by rw [hg3_1]; simp [gset]), (In.mono hz1 (by decide) (by decide)), (by simp [gset]), hv5_1, (by rw [hg5_1]; simp [gset]), hv6_1, (by rw [hg6_1]; simp [gset]), hv8_1, hv9_1, (by rw [hg9_1]; simp [gset]), hv12_1, hv13_1, (by rw [hg13_1]; simp [gset]), hv14_1, (by rw [hg14_1]; simp [gset]), hv15_1, (by rw [hg15_1]; simp [gset]), hv17_1, (by rw [hg17_1]; simp [gset]), hv20_1, (by rw [hg20_1]; simp [gset]), hv23_1, (by rw [hg23_1]; simp [gset]), hv25_1, hv36_1, (by rw [hg36_1]; simp [gset]), hv47_1, (by rw [hg47_1]; simp [gset]), hv48_1, (by rw [hg48_1]; simp [gset]), hv53_1, (by rw [hg53_1]; simp [gset]), hv55_1, (by rw [hg55_1]; simp [gset]), hrel0_1⟩ (fun q hq => ((gset_ne (fun e => hq (by subst e; decide))).trans rfl))
    have hT : TI g ad (gset th 42 z1.toInt) f8 := TI.cast hT (by funext q; simp only [gset]; (repeat' split); all_goals first | rfl | omega | (subst_vars; rfl) | (exfalso; omega))
    exact ret_v hx hb hr hlocks hP hD hS (Nat.le_of_ble_eq_true rfl) (Nat.le_of_ble_eq_true rfl) (⟨rfl, ⟨z1.toInt, (show 0 ≤ z1.toInt from (by omega)), TI.cast hT (by funext q; simp only [gset]; (repeat' split); all_goals first | rfl | omega | (subst_vars; rfl) | (exfalso; omega))⟩, hfr⟩) dX11_fails_13

abbrev rm_X11_isDigit : Room := { frames := 0, cells := 0, slots := 0, locals := 0 }
abbrev po_X11_isDigit (g : GG) (ad : Nat → Nat) (th : Nat → Int) (L : List Nat) (f : HP) (z0 : Int32) : Int32 → (List Nat × HP) → Prop := fun r u => u.1 = L ∧ u.2 = f ∧ In r 0 1 ∧ (¬ r = 0 → In z0 48 57)
set_option maxHeartbeats 4000000 in
set_option maxRecDepth 100000 in
theorem s_X11_isDigit (l : Launch) (g : GG) (ad : Nat → Nat) (th : Nat → Int) (L : List Nat) (f : HP) (sz : Nat) (z0 : Int32) (hst : ST ad L) (hT : TI g ad th f)  : MtI l g yX11_isDigit cX11_isDigit 1 (some .boolean) rm_X11_isDigit [.int z0] L f sz (po_X11_isDigit g ad th L f z0) := by
  refine MtI.of (by decide +kernel) (Nat.le_of_ble_eq_true rfl) ?_
  intro p e s m below meth c A hEn hP hD hS ls hl
  obtain ⟨hx, hb, hr, hml, hown, hlocks, hts, hG, hA, hE, hnm⟩ := hEn
  have hown : s.vm.findClass "RulerWordModel" = some m.cls := hown
  have hl : lv_has ls 1 [(0, .int z0)] := hl
  refine lv_iload_n hx hb dX11_isDigit_0 rfl (lv_at hl 0 rfl) ?_
  refine lv_bipush (v := 48) hx hb dX11_isDigit_1 (by decide) ?_
  have hJ16 : ∀ (H : Heap) (locs : List Loc) (ls : Array Slot), va_P g.1 vwCl (va_pl L f) H → va_D A (va_pl L f) → va_S A s.heap H locs → lv_has ls 1 [(0, .int z0)] → W p l e rm_X11_isDigit s m [.int z0].toArray below meth c H locs 0 0 (MQ below (va_Qi (po_X11_isDigit g ad th L f z0) (PstB g A) A) [.int z0].toArray s rm_X11_isDigit.cells rm_X11_isDigit.slots A) (F0 m 16 ls []) := by
    intro H locs ls hP hD hS hl
    refine lv_iconst (v := 0) hx hb dX11_isDigit_16 (by decide) ?_
    exact ret_i (ty := .boolean) hx hb hr hlocks (rfl) hP hD hS (Nat.le_of_ble_eq_true rfl) (Nat.le_of_ble_eq_true rfl) (⟨rfl, rfl, (⟨by decide, by decide⟩ : In 0 0 1), (fun q => absurd rfl q)⟩) dX11_isDigit_17
  refine lv_icmp_lt (tgt := 16) hx hb dX11_isDigit_3 (by decide) (fun c1 => ?_) (fun c1 => ?_)
  ·
    have cc2 : z0.toInt < (48 : Int32).toInt := i32_lt.mp c1
    have hb3 : In z0 (-2147483648) 47 := In.lt1 (In.full z0) (⟨by decide, by decide⟩ : In 48 48 48) cc2 (by omega) (by omega)
    exact hJ16 _ _ _ hP hD hS (lv_sub hl [0] rfl)
  ·
    have cc4 : (48 : Int32).toInt ≤ z0.toInt := i32_nlt c1
    have hb5 : In z0 48 2147483647 := In.ge1 (In.full z0) (⟨by decide, by decide⟩ : In 48 48 48) cc4 (by omega) (by omega)
    refine lv_iload_n hx hb dX11_isDigit_6 rfl (lv_at hl 0 rfl) ?_
    refine lv_bipush (v := 57) hx hb dX11_isDigit_7 (by decide) ?_
    refine lv_icmp_gt (tgt := 16) hx hb dX11_isDigit_9 (by decide) (fun c6 => ?_) (fun c6 => ?_)
    ·
      have cc7 : (57 : Int32).toInt < z0.toInt := i32_lt.mp c6
      have hb8 : In z0 58 2147483647 := In.gt1 hb5 (⟨by decide, by decide⟩ : In 57 57 57) cc7 (by omega) (by omega)
      exact hJ16 _ _ _ hP hD hS (lv_sub hl [0] rfl)
    ·
      have cc9 : z0.toInt ≤ (57 : Int32).toInt := i32_nlt c6
      have hb10 : In z0 48 57 := In.le1 hb5 (⟨by decide, by decide⟩ : In 57 57 57) cc9 (by omega) (by omega)
      refine lv_iconst (v := 1) hx hb dX11_isDigit_12 (by decide) ?_
      refine lv_goto (tgt := 17) hx hb dX11_isDigit_13 (by decide) ?_
      exact ret_i (ty := .boolean) hx hb hr hlocks (rfl) hP hD hS (Nat.le_of_ble_eq_true rfl) (Nat.le_of_ble_eq_true rfl) (⟨rfl, rfl, (⟨by decide, by decide⟩ : In 1 0 1), (fun _ => hb10)⟩) dX11_isDigit_17

abbrev rm_X11_takes : Room := { frames := 4, cells := 0, slots := 0, locals := 85 }
abbrev po_X11_takes (g : GG) (ad : Nat → Nat) (th : Nat → Int) (L : List Nat) (f : HP) (z1 : Nat) : Int32 → (List Nat × HP) → Prop := fun r u => u.1 = L ∧ (∃ za : Int, (th 37 ≤ za ∧ za ≤ 500) ∧ TI g ad (gset th 37 za) u.2) ∧ (∀ b, b ≠ (ad 255) → u.2 b = f b) ∧ In r 0 1
set_option maxHeartbeats 4000000 in
set_option maxRecDepth 100000 in
theorem s_X11_takes (l : Launch) (g : GG) (ad : Nat → Nat) (th : Nat → Int) (L : List Nat) (f : HP) (sz : Nat) (z1 : Nat) (hst : ST ad L) (hT : TI g ad th f) (hi_z1 : z1 < nS) : MtI l g yX11_takes cX11_takes 4 (some .boolean) rm_X11_takes [.ref (ad 255), .ref (g.2.2.1 z1)] L f sz (po_X11_takes g ad th L f z1) := by
  refine MtI.of (by decide +kernel) (Nat.le_of_ble_eq_true rfl) ?_
  intro p e s m below meth c A hEn hP hD hS ls hl
  obtain ⟨hx, hb, hr, hml, hown, hlocks, hts, hG, hA, hE, hnm⟩ := hEn
  have hown : s.vm.findClass "RulerWordModel" = some m.cls := hown
  have hl : lv_has ls 4 [(0, .ref (ad 255)), (1, .ref (g.2.2.1 z1))] := hl
  have hfr : (∀ b, b ≠ (ad 255) → f b = f b) := fun b z0_ => rfl
  refine lv_aload_n hx hb dX11_takes_0 rfl (lv_at hl 0 rfl) ?_
  obtain ⟨v0_1, v2_1, v3_1, v4_1, v5_1, v6_1, v8_1, v9_1, v12_1, v13_1, v14_1, v15_1, v16_1, v17_1, v18_1, v19_1, v20_1, v21_1, v22_1, v23_1, v25_1, v36_1, v37_1, v38_1, v39_1, v40_1, v45_1, v46_1, v47_1, v48_1, v50_1, v51_1, v53_1, v55_1, hf2, hv0_1, hv2_1, hg2_1, hv3_1, hg3_1, hv4_1, hg4_1, hv5_1, hg5_1, hv6_1, hg6_1, hv8_1, hv9_1, hg9_1, hv12_1, hv13_1, hg13_1, hv14_1, hg14_1, hv15_1, hg15_1, hv17_1, hg17_1, hv20_1, hg20_1, hv23_1, hg23_1, hv25_1, hv36_1, hg36_1, hv47_1, hg47_1, hv48_1, hg48_1, hv53_1, hg53_1, hv55_1, hg55_1, hrel0_1⟩ := hT.2.2 0 (by decide)
  refine call_i (run_V (rm := rm_X11_look) hx hb hml hown hts (s_X11_look l g ad th _ _ _  hst hT ) cV_X11_look wg_1529 ⟨Nat.le_of_ble_eq_true rfl, Nat.le_of_ble_eq_true rfl⟩ hG hE hA hP hD hS (hst.1 255 (by decide)) hf2 rfl rfl hl.1 (As := []) (rest := []) rfl (Nat.le_of_ble_eq_true rfl) dX11_takes_1 ⟨Nat.le_of_ble_eq_true rfl, Nat.le_of_ble_eq_true rfl⟩) hA hD hS (fun r3 L4 f5 H locs hp6 hP hD hS => ?_)
  obtain ⟨eL7L, eL7T, eL7F, eL7R⟩ := hp6
  have eL7L : L4 = L := eL7L
  rw [eL7L] at hP hD
  obtain ⟨zz8, hzz8, eL7T⟩ := eL7T
  have hT : TI g ad (gset th 37 zz8) f5 := eL7T
  have eL7F : ∀ b, b ≠ (ad 255) → f5 b = f b := eL7F
  have hfr : (∀ b, b ≠ (ad 255) → f5 b = f b) := fun b z0_ => (eL7F b z0_).trans (hfr b z0_)
  have eL7R : In r3 (-1) 255 := eL7R
  refine lv_istore_n (lv' := [(2, .int r3), (0, .ref (ad 255)), (1, .ref (g.2.2.1 z1))]) hx hb dX11_takes_4 rfl hl (by decide) rfl (fun ls hl => ?_)
  refine lv_iconst (v := 0) hx hb dX11_takes_5 (by decide) ?_
  refine lv_istore_n (lv' := [(3, .int 0), (2, .int r3), (0, .ref (ad 255)), (1, .ref (g.2.2.1 z1))]) hx hb dX11_takes_6 rfl hl (by decide) rfl (fun ls hl => ?_)
  obtain ⟨v0_9, v2_9, v3_9, v4_9, v5_9, v6_9, v8_9, v9_9, v12_9, v13_9, v14_9, v15_9, v16_9, v17_9, v18_9, v19_9, v20_9, v21_9, v22_9, v23_9, v25_9, v36_9, v37_9, v38_9, v39_9, v40_9, v45_9, v46_9, v47_9, v48_9, v50_9, v51_9, v53_9, v55_9, hf10, hv0_9, hv2_9, hg2_9, hv3_9, hg3_9, hv4_9, hg4_9, hv5_9, hg5_9, hv6_9, hg6_9, hv8_9, hv9_9, hg9_9, hv12_9, hv13_9, hg13_9, hv14_9, hg14_9, hv15_9, hg15_9, hv17_9, hg17_9, hv20_9, hg20_9, hv23_9, hg23_9, hv25_9, hv36_9, hg36_9, hv47_9, hg47_9, hv48_9, hg48_9, hv53_9, hg53_9, hv55_9, hg55_9, hrel0_9⟩ := hT.2.2 0 (by decide)
  have hg2_9 : v2_9.toInt = th 13 := hg2_9
  have hg3_9 : v3_9.toInt = zz8 := hg3_9
  have hg4_9 : v4_9.toInt = th 42 := hg4_9
  have hg5_9 : v5_9.toInt = th 40 := hg5_9
  have hg6_9 : v6_9.toInt = th 41 := hg6_9
  have hg9_9 : v9_9.toInt = th 35 := hg9_9
  have hg13_9 : v13_9.toInt = th 36 := hg13_9
  have hg14_9 : v14_9.toInt = th 10 := hg14_9
  have hg15_9 : v15_9.toInt = th 11 := hg15_9
  have hg17_9 : v17_9.toInt = th 12 := hg17_9
  have hg20_9 : v20_9.toInt = th 14 := hg20_9
  have hg23_9 : v23_9.toInt = th 15 := hg23_9
  have hg36_9 : v36_9.toInt = th 18 := hg36_9
  have hg47_9 : v47_9.toInt = th 16 := hg47_9
  have hg48_9 : v48_9.toInt = th 17 := hg48_9
  have hg53_9 : v53_9.toInt = th 38 := hg53_9
  have hg55_9 : v55_9.toInt = th 39 := hg55_9
  have hJ7 : ∀ (k7 : Nat) (y7_l3 : Int32) (H : Heap) (locs : List Loc) (ls : Array Slot), In y7_l3 0 7 → va_P g.1 vwCl (va_pl L f5) H → va_D A (va_pl L f5) → va_S A s.heap H locs → (y7_l3.toInt = 0 ∨ v3_9.toInt + y7_l3.toInt ≤ v2_9.toInt) ∧ y7_l3.toInt ≤ ((lenS.getD z1 0 : Nat) : Int) ∧ 0 ≤ y7_l3.toInt → lv_has ls 4 [(0, .ref (ad 255)), (1, .ref (g.2.2.1 z1)), (2, .int r3), (3, .int y7_l3)] → 7 - y7_l3.toInt < ((k7 : Nat) : Int) → W p l e rm_X11_takes s m [.ref (ad 255), .ref (g.2.2.1 z1)].toArray below meth c H locs 0 0 (MQ below (va_Qi (po_X11_takes g ad th L f z1) (PstB g A) A) [.ref (ad 255), .ref (g.2.2.1 z1)].toArray s rm_X11_takes.cells rm_X11_takes.slots A) (F0 m 7 ls []) := by
    intro k7
    induction k7 with
    | zero =>
      intro y7_l3 H locs ls hy7_l3 hP hD hS hxi7_0 hl hmz7
      exact ms0 hy7_l3 hmz7
    | succ k7 ih7 =>
      intro y7_l3 H locs ls hy7_l3 hP hD hS hxi7_0 hl hmz7
      refine lv_iload_n hx hb dX11_takes_7 rfl (lv_at hl 3 rfl) ?_
      refine lv_aload_n hx hb dX11_takes_8 rfl (lv_at hl 1 rfl) ?_
      refine call_i (run_VJ (rm := rm_J0_length) hx hb hml hown hts (i := z1) (hi_z1) (s_J0_length l g _ _ _ z1  hi_z1) cV_J0_length_8abf5 wg_1542 rfl ⟨Nat.le_of_ble_eq_true rfl, Nat.le_of_ble_eq_true rfl⟩ hG hE hA hP hD hS rfl hl.1 (As := []) (rest := [.int y7_l3]) rfl (Nat.le_of_ble_eq_true rfl) dX11_takes_9 ⟨Nat.le_of_ble_eq_true rfl, Nat.le_of_ble_eq_true rfl⟩) hA hD hS (fun r11 L12 f13 H locs hp14 hP hD hS => ?_)
      have eL15 : L12 = L := hp14.1
      have eL15f : f13 = f5 := hp14.2.1
      rw [eL15, eL15f] at hP hD
      have hb16 : In r11 0 7 := hp14.2.2.1
      have hle17 : r11.toInt = ((lenS.getD z1 0 : Nat) : Int) := hp14.2.2.2
      refine lv_icmp_ge (tgt := 55) hx hb dX11_takes_12 (by decide) (fun c18 => ?_) (fun c18 => ?_)
      ·
        have cc19 : r11.toInt ≤ y7_l3.toInt := i32_le.mp c18
        refine lv_aload_n hx hb dX11_takes_55 rfl (lv_at hl 0 rfl) ?_
        refine pl_get (v := .int v3_9) hx hb hts (fun w h => mT (inX11 w h)) hown hG.1 hP (hst.1 255 (by decide)) hf10 rfl 3 (by decide) (hts _ (mT wg_1339)) (fun _ h => h) rfl dX11_takes_56 ?_
        refine lv_aload_n hx hb dX11_takes_59 rfl (lv_at hl 1 rfl) ?_
        refine call_i (run_VJ (rm := rm_J0_length) hx hb hml hown hts (i := z1) (hi_z1) (s_J0_length l g _ _ _ z1  hi_z1) cV_J0_length_8abf5 wg_1542 rfl ⟨Nat.le_of_ble_eq_true rfl, Nat.le_of_ble_eq_true rfl⟩ hG hE hA hP hD hS rfl hl.1 (As := []) (rest := [.int v3_9]) rfl (Nat.le_of_ble_eq_true rfl) dX11_takes_60 ⟨Nat.le_of_ble_eq_true rfl, Nat.le_of_ble_eq_true rfl⟩) hA hD hS (fun r20 L21 f22 H locs hp23 hP hD hS => ?_)
        have eL24 : L21 = L := hp23.1
        have eL24f : f22 = f5 := hp23.2.1
        rw [eL24, eL24f] at hP hD
        have hb25 : In r20 0 7 := hp23.2.2.1
        have hle26 : r20.toInt = ((lenS.getD z1 0 : Nat) : Int) := hp23.2.2.2
        refine lv_iadd hx hb dX11_takes_63 ?_
        refine lv_topi (fun x27 ex27 => ?_)
        have hb28 : In x27 0 507 := ex27 ▸ In.add hv3_9 hb25 (by decide) (by decide) (by decide) (by decide)
        have et29 : x27.toInt = v3_9.toInt + r20.toInt := In.add2e ex27 hv3_9 hb25 (by decide) (by decide)
        refine lv_istore_n (lv' := [(3, .int x27), (0, .ref (ad 255)), (1, .ref (g.2.2.1 z1)), (2, .int r3)]) hx hb dX11_takes_64 rfl hl (by decide) rfl (fun ls hl => ?_)
        refine lv_iload_n hx hb dX11_takes_65 rfl (lv_at hl 0 rfl) ?_
        refine lv_aload_n hx hb dX11_takes_66 rfl (lv_at hl 1 rfl) ?_
        refine pl_get (v := .int v2_9) hx hb hts (fun w h => mT (inX11 w h)) hown hG.1 hP (hst.1 255 (by decide)) hf10 rfl 2 (by decide) (hts _ (mT wg_1338)) (fun _ h => h) rfl dX11_takes_67 ?_
        have hJ97 : ∀ (H : Heap) (locs : List Loc) (ls : Array Slot), va_P g.1 vwCl (va_pl L f5) H → va_D A (va_pl L f5) → va_S A s.heap H locs → lv_has ls 4 [(0, .ref (ad 255)), (1, .ref (g.2.2.1 z1)), (2, .int r3), (3, .int x27)] → W p l e rm_X11_takes s m [.ref (ad 255), .ref (g.2.2.1 z1)].toArray below meth c H locs 0 0 (MQ below (va_Qi (po_X11_takes g ad th L f z1) (PstB g A) A) [.ref (ad 255), .ref (g.2.2.1 z1)].toArray s rm_X11_takes.cells rm_X11_takes.slots A) (F0 m 97 ls []) := by
          intro H locs ls hP hD hS hl
          refine lv_aload_n hx hb dX11_takes_97 rfl (lv_at hl 0 rfl) ?_
          refine lv_iload_n hx hb dX11_takes_98 rfl (lv_at hl 3 rfl) ?_
          refine pl_put (ty := .int) (v := .int x27) (fs' := [.int v0_9, .ref (ad 256), .int v2_9, .int x27, .int v4_9, .int v5_9, .int v6_9, .ref (ad 257), .int v8_9, .int v9_9, .ref (ad 258), .ref (ad 259), .int v12_9, .int v13_9, .int v14_9, .int v15_9, .int v16_9, .int v17_9, .int v18_9, .int v19_9, .int v20_9, .long v21_9, .long v22_9, .int v23_9, .ref (ad 260), .int v25_9, .ref (ad 261), .ref (ad 262), .ref (ad 263), .ref (ad 264), .ref (ad 265), .ref (ad 266), .ref (ad 267), .ref (ad 268), .ref (ad 269), .ref (ad 270), .int v36_9, .int v37_9, .int v38_9, .int v39_9, .int v40_9, .ref (ad 271), .ref (ad 272), .ref (ad 273), .ref (ad 274), .long v45_9, .long v46_9, .int v47_9, .int v48_9, .ref (ad 275), .int v50_9, .int v51_9, .ref (ad 276), .int v53_9, .ref (ad 277), .int v55_9]) hx hb hts (fun w h => mT (inX11 w h)) tyX11 tyX11_ok nmX11 hown hG.1 hP hD hS (hst.1 255 (by decide)) hf10 rfl 3 (by decide) (hts _ (mT wg_1339)) (fun _ h => h) rfl (by decide +kernel) (rfl) (rfl) (Nat.le_of_ble_eq_true rfl) rfl dX11_takes_99 (fun H locs f30 hf31 ho32 hP hD hS => ?_)
          have hfr : (∀ b, b ≠ (ad 255) → f30 b = f b) := fun b z0_ => (ho32 b z0_).trans (hfr b z0_)
          refine lv_iconst (v := 1) hx hb dX11_takes_102 (by decide) ?_
          have hT := TI.updMG (th' := (gset (gset th 37 zz8) 37 (x27.toInt))) hT hst (k := 0) (by decide) hf31 ho32 ⟨v0_9, v2_9, x27, v4_9, v5_9, v6_9, v8_9, v9_9, v12_9, v13_9, v14_9, v15_9, v16_9, v17_9, v18_9, v19_9, v20_9, v21_9, v22_9, v23_9, v25_9, v36_9, v37_9, v38_9, v39_9, v40_9, v45_9, v46_9, v47_9, v48_9, v50_9, v51_9, v53_9, v55_9, rfl, hv0_9, hv2_9, (by rw [hg2_9]; simp [gset]), (In.mk (by obtain ⟨o0a, o0b⟩ := (hb28 : In _ _ _); obtain ⟨o1a, o1b⟩ := (hv2_9 : In _ _ _); obtain ⟨o2a, o2b⟩ := (hv4_9 : In _ _ _); obtain ⟨o3a, o3b⟩ := (hv5_9 : In _ _ _); obtain ⟨o4a, o4b⟩ := (hv6_9 : In _ _ _); obtain ⟨o5a, o5b⟩ := (hv9_9 : In _ _ _); obtain ⟨o6a, o6b⟩ := (hv13_9 : In _ _ _); obtain ⟨o7a, o7b⟩ := (hv14_9 : In _ _ _); obtain ⟨o8a, o8b⟩ := (hv15_9 : In _ _ _); obtain ⟨o9a, o9b⟩ := (hv17_9 : In _ _ _); obtain ⟨o10a, o10b⟩ := (hv20_9 : In _ _ _); obtain ⟨o11a, o11b⟩ := (hv23_9 : In _ _ _); obtain ⟨o12a, o12b⟩ := (hv36_9 : In _ _ _); obtain ⟨o13a, o13b⟩ := (hv47_9 : In _ _ _); obtain ⟨o14a, o14b⟩ := (hv48_9 : In _ _ _); obtain ⟨o15a, o15b⟩ := (hv53_9 : In _ _ _); obtain ⟨o16a, o16b⟩ := (hv55_9 : In _ _ _); obtain ⟨o17a, o17b⟩ := (hv3_9 : In _ _ _); obtain ⟨o18a, o18b⟩ := (hb25 : In _ _ _); obtain ⟨o19a, o19b⟩ := (hb16 : In _ _ _); obtain ⟨o20a, o20b⟩ := (hy7_l3 : In _ _ _); omega) (by obtain ⟨o0a, o0b⟩ := (hb28 : In _ _ _); obtain ⟨o1a, o1b⟩ := (hv2_9 : In _ _ _); obtain ⟨o2a, o2b⟩ := (hv4_9 : In _ _ _); obtain ⟨o3a, o3b⟩ := (hv5_9 : In _ _ _); obtain ⟨o4a, o4b⟩ := (hv6_9 : In _ _ _); obtain ⟨o5a, o5b⟩ := (hv9_9 : In _ _ _); obtain ⟨o6a, o6b⟩ := (hv13_9 : In _ _ _); obtain ⟨o7a, o7b⟩ := (hv14_9 : In _ _ _); obtain ⟨o8a, o8b⟩ := (hv15_9 : In _ _ _); obtain ⟨o9a, o9b⟩ := (hv17_9 : In _ _ _); obtain ⟨o10a, o10b⟩ := (hv20_9 : In _ _ _); obtain ⟨o11a, o11b⟩ := (hv23_9 : In _ _ _); obtain ⟨o12a, o12b⟩ := (hv36_9 : In _ _ _); obtain ⟨o13a, o13b⟩ := (hv47_9 : In _ _ _); obtain ⟨o14a, o14b⟩ := (hv48_9 : In _ _ _); obtain ⟨o15a, o15b⟩ := (hv53_9 : In _ _ _); obtain ⟨o16a, o16b⟩ := (hv55_9 : In _ _ _); obtain ⟨o17a, o17b⟩ := (hv3_9 : In _ _ _); obtain ⟨o18a, o18b⟩ := (hb25 : In _ _ _); obtain ⟨o19a, o19b⟩ := (hb16 : In _ _ _); obtain ⟨o20a, o20b⟩ := (hy7_l3 : In _ _ _); omega)), (by simp [gset]), hv4_9, (by rw [hg4_9]; simp [gset]), hv5_9, (by rw [hg5_9]; simp [gset]), hv6_9, (by rw [hg6_9]; simp [gset]), hv8_9, hv9_9, (by rw [hg9_9]; simp [gset]), hv12_9, hv13_9, (by rw [hg13_9]; simp [gset]), hv14_9, (by rw [hg14_9]; simp [gset]), hv15_9, (by rw [hg15_9]; simp [gset]), hv17_9, (by rw [hg17_9]; simp [gset]), hv20_9, (by rw [hg20_9]; simp [gset]), hv23_9, (by rw [hg23_9]; simp [gset]), hv25_9, hv36_9, (by rw [hg36_9]; simp [gset]), hv47_9, (by rw [hg47_9]; simp [gset]), hv48_9, (by rw [hg48_9]; simp [gset]), hv53_9, (by rw [hg53_9]; simp [gset]), hv55_9, (by rw [hg55_9]; simp [gset]), hrel0_9⟩ (fun q hq => ((gset_ne (fun e => hq (by subst e; decide))).trans rfl))
          have hT : TI g ad (gset th 37 x27.toInt) f30 := TI.cast hT (by funext q; simp only [gset]; (repeat' split); all_goals first | rfl | omega | (subst_vars; rfl) | (exfalso; omega))
          exact ret_i (ty := .boolean) hx hb hr hlocks (rfl) hP hD hS (Nat.le_of_ble_eq_true rfl) (Nat.le_of_ble_eq_true rfl) (⟨rfl, ⟨x27.toInt, (show th 37 ≤ x27.toInt ∧ x27.toInt ≤ 500 from (by have oc1 : (1 : Int32).toInt = 1 := (by decide); omega)), TI.cast hT (by funext q; simp only [gset]; (repeat' split); all_goals first | rfl | omega | (subst_vars; rfl) | (exfalso; omega))⟩, hfr, (⟨by decide, by decide⟩ : In 1 0 1)⟩) dX11_takes_103
        refine lv_icmp_ge (tgt := 97) hx hb dX11_takes_70 (by decide) (fun c33 => ?_) (fun c33 => ?_)
        ·
          have cc34 : v2_9.toInt ≤ x27.toInt := i32_le.mp c33
          exact hJ97 _ _ _ hP hD hS (lv_sub hl [1, 2, 3, 0] rfl)
        ·
          have cc35 : x27.toInt < v2_9.toInt := i32_nle c33
          have hb36 : In x27 0 499 := In.lt1 hb28 hv2_9 cc35 (by omega) (by omega)
          have hb37 : In v2_9 1 500 := In.lt2 hb28 hv2_9 cc35 (by omega) (by omega)
          refine lv_aload_n hx hb dX11_takes_73 rfl (lv_at hl 1 rfl) ?_
          refine pl_get (v := .ref (ad 256)) hx hb hts (fun w h => mT (inX11 w h)) hown hG.1 hP (hst.1 255 (by decide)) hf10 rfl 1 (by decide) (hts _ (mT wg_1337)) (fun _ h => h) rfl dX11_takes_74 ?_
          refine lv_iload_n hx hb dX11_takes_77 rfl (lv_at hl 0 rfl) ?_
          obtain ⟨rw38, hf39, hc40⟩ := hT.2.2 1 (by decide)
          have hin41 : vp_in x27 500 := In.inb hb36 (by decide) (by decide)
          refine pl_bald hx hb hG.1 hP (hst.1 256 (by decide)) 2 hf39 rfl hin41 dX11_takes_78 ?_
          refine lv_topi (fun x42 ex42 => ?_)
          have hb43 : In x42 (-128) 127 := by rw [ex42]; exact hc40 _ (vp_nat hin41)
          refine lv_bipush (v := 97) hx hb dX11_takes_79 (by decide) ?_
          refine lv_icmp_lt (tgt := 97) hx hb dX11_takes_81 (by decide) (fun c44 => ?_) (fun c44 => ?_)
          ·
            have oc97 : (97 : Int32).toInt = 97 := by decide
            have cc45 : x42.toInt < (97 : Int32).toInt := i32_lt.mp c44
            have hb46 : In x42 (-128) 96 := In.lt1 hb43 (⟨by decide, by decide⟩ : In 97 97 97) cc45 (by omega) (by omega)
            exact hJ97 _ _ _ hP hD hS (lv_sub hl [1, 2, 3, 0] rfl)
          ·
            have oc97 : (97 : Int32).toInt = 97 := by decide
            have cc47 : (97 : Int32).toInt ≤ x42.toInt := i32_nlt c44
            have hb48 : In x42 97 127 := In.ge1 hb43 (⟨by decide, by decide⟩ : In 97 97 97) cc47 (by omega) (by omega)
            refine lv_aload_n hx hb dX11_takes_84 rfl (lv_at hl 1 rfl) ?_
            refine pl_get (v := .ref (ad 256)) hx hb hts (fun w h => mT (inX11 w h)) hown hG.1 hP (hst.1 255 (by decide)) hf10 rfl 1 (by decide) (hts _ (mT wg_1337)) (fun _ h => h) rfl dX11_takes_85 ?_
            refine lv_iload_n hx hb dX11_takes_88 rfl (lv_at hl 0 rfl) ?_
            have hin49 : vp_in x27 500 := In.inb hb36 (by decide) (by decide)
            refine pl_bald hx hb hG.1 hP (hst.1 256 (by decide)) 2 hf39 rfl hin49 dX11_takes_89 ?_
            refine lv_topi (fun x50 ex50 => ?_)
            obtain rfl : x42 = x50 := ex42.trans ex50.symm
            refine lv_bipush (v := 122) hx hb dX11_takes_90 (by decide) ?_
            refine lv_icmp_gt (tgt := 97) hx hb dX11_takes_92 (by decide) (fun c51 => ?_) (fun c51 => ?_)
            ·
              have oc122 : (122 : Int32).toInt = 122 := by decide
              have cc52 : (122 : Int32).toInt < x42.toInt := i32_lt.mp c51
              have hb53 : In x42 123 127 := In.gt1 hb48 (⟨by decide, by decide⟩ : In 122 122 122) cc52 (by omega) (by omega)
              exact hJ97 _ _ _ hP hD hS (lv_sub hl [1, 2, 3, 0] rfl)
            ·
              have oc122 : (122 : Int32).toInt = 122 := by decide
              have cc54 : x42.toInt ≤ (122 : Int32).toInt := i32_nlt c51
              have hb55 : In x42 97 122 := In.le1 hb48 (⟨by decide, by decide⟩ : In 122 122 122) cc54 (by omega) (by omega)
              refine lv_iconst (v := 0) hx hb dX11_takes_95 (by decide) ?_
              exact ret_i (ty := .boolean) hx hb hr hlocks (rfl) hP hD hS (Nat.le_of_ble_eq_true rfl) (Nat.le_of_ble_eq_true rfl) (⟨rfl, ⟨zz8, (show th 37 ≤ zz8 ∧ zz8 ≤ 500 from (by have oc0 : (0 : Int32).toInt = 0 := (by decide); obtain ⟨o0a, o0b⟩ := (hb37 : In _ _ _); obtain ⟨o1a, o1b⟩ := (hv3_9 : In _ _ _); obtain ⟨o2a, o2b⟩ := (hv4_9 : In _ _ _); obtain ⟨o3a, o3b⟩ := (hv5_9 : In _ _ _); obtain ⟨o4a, o4b⟩ := (hv6_9 : In _ _ _); obtain ⟨o5a, o5b⟩ := (hv9_9 : In _ _ _); obtain ⟨o6a, o6b⟩ := (hv13_9 : In _ _ _); obtain ⟨o7a, o7b⟩ := (hv14_9 : In _ _ _); obtain ⟨o8a, o8b⟩ := (hv15_9 : In _ _ _); obtain ⟨o9a, o9b⟩ := (hv17_9 : In _ _ _); obtain ⟨o10a, o10b⟩ := (hv20_9 : In _ _ _); obtain ⟨o11a, o11b⟩ := (hv23_9 : In _ _ _); obtain ⟨o12a, o12b⟩ := (hv36_9 : In _ _ _); obtain ⟨o13a, o13b⟩ := (hv47_9 : In _ _ _); obtain ⟨o14a, o14b⟩ := (hv48_9 : In _ _ _); obtain ⟨o15a, o15b⟩ := (hv53_9 : In _ _ _); obtain ⟨o16a, o16b⟩ := (hv55_9 : In _ _ _); obtain ⟨o17a, o17b⟩ := (hb36 : In _ _ _); obtain ⟨o18a, o18b⟩ := (hb25 : In _ _ _); obtain ⟨o19a, o19b⟩ := (hb16 : In _ _ _); obtain ⟨o20a, o20b⟩ := (hy7_l3 : In _ _ _); omega)), TI.cast hT (by funext q; simp only [gset]; (repeat' split); all_goals first | rfl | omega | (subst_vars; rfl) | (exfalso; omega))⟩, hfr, (⟨by decide, by decide⟩ : In 0 0 1)⟩) dX11_takes_96
      ·
        have cc56 : y7_l3.toInt < r11.toInt := i32_nle c18
        have hb57 : In y7_l3 0 6 := In.lt1 hy7_l3 hb16 cc56 (by omega) (by omega)
        have hb58 : In r11 1 7 := In.lt2 hy7_l3 hb16 cc56 (by omega) (by omega)
        refine lv_aload_n hx hb dX11_takes_15 rfl (lv_at hl 0 rfl) ?_
        refine pl_get (v := .int v3_9) hx hb hts (fun w h => mT (inX11 w h)) hown hG.1 hP (hst.1 255 (by decide)) hf10 rfl 3 (by decide) (hts _ (mT wg_1339)) (fun _ h => h) rfl dX11_takes_16 ?_
        refine lv_iload_n hx hb dX11_takes_19 rfl (lv_at hl 3 rfl) ?_
        refine lv_iadd hx hb dX11_takes_20 ?_
        refine lv_topi (fun x59 ex59 => ?_)
        have hb60 : In x59 0 506 := ex59 ▸ In.add hv3_9 hb57 (by decide) (by decide) (by decide) (by decide)
        have et61 : x59.toInt = v3_9.toInt + y7_l3.toInt := In.add2e ex59 hv3_9 hb57 (by decide) (by decide)
        refine lv_aload_n hx hb dX11_takes_21 rfl (lv_at hl 0 rfl) ?_
        refine pl_get (v := .int v2_9) hx hb hts (fun w h => mT (inX11 w h)) hown hG.1 hP (hst.1 255 (by decide)) hf10 rfl 2 (by decide) (hts _ (mT wg_1338)) (fun _ h => h) rfl dX11_takes_22 ?_
        refine lv_icmp_ge (tgt := 47) hx hb dX11_takes_25 (by decide) (fun c62 => ?_) (fun c62 => ?_)
        ·
          have cc63 : v2_9.toInt ≤ x59.toInt := i32_le.mp c62
          refine lv_iconst (v := 0) hx hb dX11_takes_47 (by decide) ?_
          exact ret_i (ty := .boolean) hx hb hr hlocks (rfl) hP hD hS (Nat.le_of_ble_eq_true rfl) (Nat.le_of_ble_eq_true rfl) (⟨rfl, ⟨zz8, (show th 37 ≤ zz8 ∧ zz8 ≤ 500 from (by have oc0 : (0 : Int32).toInt = 0 := (by decide); obtain ⟨o0a, o0b⟩ := (hv2_9 : In _ _ _); obtain ⟨o1a, o1b⟩ := (hv3_9 : In _ _ _); obtain ⟨o2a, o2b⟩ := (hv4_9 : In _ _ _); obtain ⟨o3a, o3b⟩ := (hv5_9 : In _ _ _); obtain ⟨o4a, o4b⟩ := (hv6_9 : In _ _ _); obtain ⟨o5a, o5b⟩ := (hv9_9 : In _ _ _); obtain ⟨o6a, o6b⟩ := (hv13_9 : In _ _ _); obtain ⟨o7a, o7b⟩ := (hv14_9 : In _ _ _); obtain ⟨o8a, o8b⟩ := (hv15_9 : In _ _ _); obtain ⟨o9a, o9b⟩ := (hv17_9 : In _ _ _); obtain ⟨o10a, o10b⟩ := (hv20_9 : In _ _ _); obtain ⟨o11a, o11b⟩ := (hv23_9 : In _ _ _); obtain ⟨o12a, o12b⟩ := (hv36_9 : In _ _ _); obtain ⟨o13a, o13b⟩ := (hv47_9 : In _ _ _); obtain ⟨o14a, o14b⟩ := (hv48_9 : In _ _ _); obtain ⟨o15a, o15b⟩ := (hv53_9 : In _ _ _); obtain ⟨o16a, o16b⟩ := (hv55_9 : In _ _ _); obtain ⟨o17a, o17b⟩ := (hb60 : In _ _ _); obtain ⟨o18a, o18b⟩ := (hb57 : In _ _ _); obtain ⟨o19a, o19b⟩ := (hb58 : In _ _ _); omega)), TI.cast hT (by funext q; simp only [gset]; (repeat' split); all_goals first | rfl | omega | (subst_vars; rfl) | (exfalso; omega))⟩, hfr, (⟨by decide, by decide⟩ : In 0 0 1)⟩) dX11_takes_48
        ·
          have cc64 : x59.toInt < v2_9.toInt := i32_nle c62
          have hb65 : In x59 0 499 := In.lt1 hb60 hv2_9 cc64 (by omega) (by omega)
          have hb66 : In v2_9 1 500 := In.lt2 hb60 hv2_9 cc64 (by omega) (by omega)
          refine lv_aload_n hx hb dX11_takes_28 rfl (lv_at hl 0 rfl) ?_
          refine pl_get (v := .ref (ad 256)) hx hb hts (fun w h => mT (inX11 w h)) hown hG.1 hP (hst.1 255 (by decide)) hf10 rfl 1 (by decide) (hts _ (mT wg_1337)) (fun _ h => h) rfl dX11_takes_29 ?_
          refine lv_aload_n hx hb dX11_takes_32 rfl (lv_at hl 0 rfl) ?_
          refine pl_get (v := .int v3_9) hx hb hts (fun w h => mT (inX11 w h)) hown hG.1 hP (hst.1 255 (by decide)) hf10 rfl 3 (by decide) (hts _ (mT wg_1339)) (fun _ h => h) rfl dX11_takes_33 ?_
          refine lv_iload_n hx hb dX11_takes_36 rfl (lv_at hl 3 rfl) ?_
          refine lv_iadd hx hb dX11_takes_37 ?_
          refine lv_topi (fun x67 ex67 => ?_)
          obtain rfl : x59 = x67 := ex59.trans ex67.symm
          obtain ⟨rw68, hf69, hc70⟩ := hT.2.2 1 (by decide)
          have hin71 : vp_in x59 500 := In.inb hb65 (by decide) (by decide)
          refine pl_bald hx hb hG.1 hP (hst.1 256 (by decide)) 2 hf69 rfl hin71 dX11_takes_38 ?_
          refine lv_topi (fun x72 ex72 => ?_)
          have hb73 : In x72 (-128) 127 := by rw [ex72]; exact hc70 _ (vp_nat hin71)
          refine lv_aload_n hx hb dX11_takes_39 rfl (lv_at hl 1 rfl) ?_
          refine lv_iload_n hx hb dX11_takes_40 rfl (lv_at hl 3 rfl) ?_
          refine call_i (run_VJ (rm := rm_J0_charAt) hx hb hml hown hts (i := z1) (hi_z1) (s_J0_charAt l g _ _ _ z1 y7_l3 hi_z1 (Int.le_trans (by decide) hb57.1) (by have q1 := cc56; have q2 := hle17; omega)) cV_J0_charAt_5068e wg_1543 rfl ⟨Nat.le_of_ble_eq_true rfl, Nat.le_of_ble_eq_true rfl⟩ hG hE hA hP hD hS rfl hl.1 (As := [.int y7_l3]) (rest := [.int x72]) rfl (Nat.le_of_ble_eq_true rfl) dX11_takes_41 ⟨Nat.le_of_ble_eq_true rfl, Nat.le_of_ble_eq_true rfl⟩) hA hD hS (fun r74 L75 f76 H locs hp77 hP hD hS => ?_)
          have eL78 : L75 = L := hp77.1
          have eL78f : f76 = f5 := hp77.2.1
          rw [eL78, eL78f] at hP hD
          have hb79 : In r74 0 65535 := hp77.2.2
          refine lv_icmp_eq (tgt := 49) hx hb dX11_takes_44 (by decide) (fun c80 => ?_) (fun c80 => ?_)
          ·
            have cc81 : x72.toInt = r74.toInt := congrArg Int32.toInt c80
            have hb82 : In x72 0 127 := In.eq1 hb73 hb79 cc81 (by omega) (by omega)
            have hb83 : In r74 0 127 := In.eq2 hb73 hb79 cc81 (by omega) (by omega)
            obtain ⟨x84, ex84⟩ : ∃ y : Int32, y = y7_l3 + 1 := ⟨_, rfl⟩
            have hb85 : In x84 1 7 := ex84 ▸ In.add hb57 (⟨by decide, by decide⟩ : In 1 1 1) (by decide) (by decide) (by decide) (by decide)
            have et86 : x84.toInt = y7_l3.toInt + 1 := In.adde ex84 hb57 (k := 1) (by decide) (by decide) (by decide)
            refine lv_iinc (v := x84) (lv' := [(3, .int x84), (0, .ref (ad 255)), (1, .ref (g.2.2.1 z1)), (2, .int r3)]) hx hb dX11_takes_49 hl (k := 3) rfl (by rw [ex84]; rfl) (by decide) rfl (fun ls hl => ?_)
            refine lv_goto (tgt := 7) hx hb dX11_takes_52 (by decide) ?_
            exact ih7 x84 _ _ _ (In.mono hb85 (by decide) (by decide)) hP hD hS (by have ql := Int.natCast_nonneg (lenS.getD z1 0); obtain ⟨o0a, o0b⟩ := (hb85 : In _ _ _); obtain ⟨o1a, o1b⟩ := (hb66 : In _ _ _); obtain ⟨o2a, o2b⟩ := (hv3_9 : In _ _ _); obtain ⟨o3a, o3b⟩ := (hv4_9 : In _ _ _); obtain ⟨o4a, o4b⟩ := (hv5_9 : In _ _ _); obtain ⟨o5a, o5b⟩ := (hv6_9 : In _ _ _); obtain ⟨o6a, o6b⟩ := (hv9_9 : In _ _ _); obtain ⟨o7a, o7b⟩ := (hv13_9 : In _ _ _); obtain ⟨o8a, o8b⟩ := (hv14_9 : In _ _ _); obtain ⟨o9a, o9b⟩ := (hv15_9 : In _ _ _); obtain ⟨o10a, o10b⟩ := (hv17_9 : In _ _ _); obtain ⟨o11a, o11b⟩ := (hv20_9 : In _ _ _); obtain ⟨o12a, o12b⟩ := (hv23_9 : In _ _ _); obtain ⟨o13a, o13b⟩ := (hv36_9 : In _ _ _); obtain ⟨o14a, o14b⟩ := (hv47_9 : In _ _ _); obtain ⟨o15a, o15b⟩ := (hv48_9 : In _ _ _); obtain ⟨o16a, o16b⟩ := (hv53_9 : In _ _ _); obtain ⟨o17a, o17b⟩ := (hv55_9 : In _ _ _); obtain ⟨o18a, o18b⟩ := (hb57 : In _ _ _); obtain ⟨o19a, o19b⟩ := (hb65 : In _ _ _); obtain ⟨o20a, o20b⟩ := (hb58 : In _ _ _); omega) (lv_sub hl [1, 2, 3, 0] rfl) (msu et86 (by decide) hmz7)
          ·
            have cc87 : x72.toInt ≠ r74.toInt := i32_ne c80
            refine lv_iconst (v := 0) hx hb dX11_takes_47 (by decide) ?_
            exact ret_i (ty := .boolean) hx hb hr hlocks (rfl) hP hD hS (Nat.le_of_ble_eq_true rfl) (Nat.le_of_ble_eq_true rfl) (⟨rfl, ⟨zz8, (show th 37 ≤ zz8 ∧ zz8 ≤ 500 from (by have oc0 : (0 : Int32).toInt = 0 := (by decide); obtain ⟨o0a, o0b⟩ := (hb66 : In _ _ _); obtain ⟨o1a, o1b⟩ := (hv3_9 : In _ _ _); obtain ⟨o2a, o2b⟩ := (hv4_9 : In _ _ _); obtain ⟨o3a, o3b⟩ := (hv5_9 : In _ _ _); obtain ⟨o4a, o4b⟩ := (hv6_9 : In _ _ _); obtain ⟨o5a, o5b⟩ := (hv9_9 : In _ _ _); obtain ⟨o6a, o6b⟩ := (hv13_9 : In _ _ _); obtain ⟨o7a, o7b⟩ := (hv14_9 : In _ _ _); obtain ⟨o8a, o8b⟩ := (hv15_9 : In _ _ _); obtain ⟨o9a, o9b⟩ := (hv17_9 : In _ _ _); obtain ⟨o10a, o10b⟩ := (hv20_9 : In _ _ _); obtain ⟨o11a, o11b⟩ := (hv23_9 : In _ _ _); obtain ⟨o12a, o12b⟩ := (hv36_9 : In _ _ _); obtain ⟨o13a, o13b⟩ := (hv47_9 : In _ _ _); obtain ⟨o14a, o14b⟩ := (hv48_9 : In _ _ _); obtain ⟨o15a, o15b⟩ := (hv53_9 : In _ _ _); obtain ⟨o16a, o16b⟩ := (hv55_9 : In _ _ _); obtain ⟨o17a, o17b⟩ := (hb65 : In _ _ _); obtain ⟨o18a, o18b⟩ := (hb57 : In _ _ _); obtain ⟨o19a, o19b⟩ := (hb58 : In _ _ _); omega)), TI.cast hT (by funext q; simp only [gset]; (repeat' split); all_goals first | rfl | omega | (subst_vars; rfl) | (exfalso; omega))⟩, hfr, (⟨by decide, by decide⟩ : In 0 0 1)⟩) dX11_takes_48
  exact hJ7 ((7 - (0 : Int32).toInt).toNat + 1) 0 _ _ _ (⟨by decide, by decide⟩ : In 0 0 7) hP hD hS (by have ql := Int.natCast_nonneg (lenS.getD z1 0); have oc0 : (0 : Int32).toInt = 0 := (by decide); omega) (lv_sub hl [2, 3, 1, 0] rfl) (msI _)

abbrev rm_X11_digits : Room := { frames := 2, cells := 0, slots := 0, locals := 40 }
abbrev po_X11_digits (g : GG) (ad : Nat → Nat) (th : Nat → Int) (L : List Nat) (f : HP)  : (List Nat × HP) → Prop := fun u => u.1 = L ∧ (∃ za zr zl : Int, ((th 37 ≤ zr ∧ 0 ≤ zr ∧ 0 ≤ zl ∧ zr + zl = za ∧ za ≤ 500) ∧ (∀ r0 : Nat → Int32, u.2 (ad 256) = .inl (g.2.1 2, 500, .inl r0) → ∀ i : Nat, zr ≤ (i : Int) → (i : Int) < za → In (r0 i) 48 57)) ∧ TI g ad (gset (gset (gset th 37 za) 40 zr) 41 zl) u.2) ∧ (∀ b, b ≠ (ad 255) → u.2 b = f b)
set_option maxHeartbeats 4000000 in
set_option maxRecDepth 100000 in
theorem s_X11_digits (l : Launch) (g : GG) (ad : Nat → Nat) (th : Nat → Int) (L : List Nat) (f : HP) (sz : Nat)  (hst : ST ad L) (hT : TI g ad th f)  : MtV l g yX11_digits cX11_digits 2 rm_X11_digits [.ref (ad 255)] L f sz (po_X11_digits g ad th L f ) := by
  refine MtV.of (by decide +kernel) (Nat.le_of_ble_eq_true rfl) ?_
  intro p e s m below meth c A hEn hP hD hS ls hl
  obtain ⟨hx, hb, hr, hml, hown, hlocks, hts, hG, hA, hE, hnm⟩ := hEn
  have hown : s.vm.findClass "RulerWordModel" = some m.cls := hown
  have hl : lv_has ls 2 [(0, .ref (ad 255))] := hl
  have hfr : (∀ b, b ≠ (ad 255) → f b = f b) := fun b z0_ => rfl
  refine lv_aload_n hx hb dX11_digits_0 rfl (lv_at hl 0 rfl) ?_
  obtain ⟨v0_1, v2_1, v3_1, v4_1, v5_1, v6_1, v8_1, v9_1, v12_1, v13_1, v14_1, v15_1, v16_1, v17_1, v18_1, v19_1, v20_1, v21_1, v22_1, v23_1, v25_1, v36_1, v37_1, v38_1, v39_1, v40_1, v45_1, v46_1, v47_1, v48_1, v50_1, v51_1, v53_1, v55_1, hf2, hv0_1, hv2_1, hg2_1, hv3_1, hg3_1, hv4_1, hg4_1, hv5_1, hg5_1, hv6_1, hg6_1, hv8_1, hv9_1, hg9_1, hv12_1, hv13_1, hg13_1, hv14_1, hg14_1, hv15_1, hg15_1, hv17_1, hg17_1, hv20_1, hg20_1, hv23_1, hg23_1, hv25_1, hv36_1, hg36_1, hv47_1, hg47_1, hv48_1, hg48_1, hv53_1, hg53_1, hv55_1, hg55_1, hrel0_1⟩ := hT.2.2 0 (by decide)
  refine call_i (run_V (rm := rm_X11_look) hx hb hml hown hts (s_X11_look l g ad th _ _ _  hst hT ) cV_X11_look wg_1529 ⟨Nat.le_of_ble_eq_true rfl, Nat.le_of_ble_eq_true rfl⟩ hG hE hA hP hD hS (hst.1 255 (by decide)) hf2 rfl rfl hl.1 (As := []) (rest := []) rfl (Nat.le_of_ble_eq_true rfl) dX11_digits_1 ⟨Nat.le_of_ble_eq_true rfl, Nat.le_of_ble_eq_true rfl⟩) hA hD hS (fun r3 L4 f5 H locs hp6 hP hD hS => ?_)
  obtain ⟨eL7L, eL7T, eL7F, eL7R⟩ := hp6
  have eL7L : L4 = L := eL7L
  rw [eL7L] at hP hD
  obtain ⟨zz8, hzz8, eL7T⟩ := eL7T
  have hT : TI g ad (gset th 37 zz8) f5 := eL7T
  have eL7F : ∀ b, b ≠ (ad 255) → f5 b = f b := eL7F
  have hfr : (∀ b, b ≠ (ad 255) → f5 b = f b) := fun b z0_ => (eL7F b z0_).trans (hfr b z0_)
  have eL7R : In r3 (-1) 255 := eL7R
  refine lv_istore_n (lv' := [(1, .int r3), (0, .ref (ad 255))]) hx hb dX11_digits_4 rfl hl (by decide) rfl (fun ls hl => ?_)
  refine lv_aload_n hx hb dX11_digits_5 rfl (lv_at hl 1 rfl) ?_
  refine lv_aload_n hx hb dX11_digits_6 rfl (lv_at hl 1 rfl) ?_
  obtain ⟨v0_9, v2_9, v3_9, v4_9, v5_9, v6_9, v8_9, v9_9, v12_9, v13_9, v14_9, v15_9, v16_9, v17_9, v18_9, v19_9, v20_9, v21_9, v22_9, v23_9, v25_9, v36_9, v37_9, v38_9, v39_9, v40_9, v45_9, v46_9, v47_9, v48_9, v50_9, v51_9, v53_9, v55_9, hf10, hv0_9, hv2_9, hg2_9, hv3_9, hg3_9, hv4_9, hg4_9, hv5_9, hg5_9, hv6_9, hg6_9, hv8_9, hv9_9, hg9_9, hv12_9, hv13_9, hg13_9, hv14_9, hg14_9, hv15_9, hg15_9, hv17_9, hg17_9, hv20_9, hg20_9, hv23_9, hg23_9, hv25_9, hv36_9, hg36_9, hv47_9, hg47_9, hv48_9, hg48_9, hv53_9, hg53_9, hv55_9, hg55_9, hrel0_9⟩ := hT.2.2 0 (by decide)
  have hg2_9 : v2_9.toInt = th 13 := hg2_9
  have hg3_9 : v3_9.toInt = zz8 := hg3_9
  have hg4_9 : v4_9.toInt = th 42 := hg4_9
  have hg5_9 : v5_9.toInt = th 40 := hg5_9
  have hg6_9 : v6_9.toInt = th 41 := hg6_9
  have hg9_9 : v9_9.toInt = th 35 := hg9_9
  have hg13_9 : v13_9.toInt = th 36 := hg13_9
  have hg14_9 : v14_9.toInt = th 10 := hg14_9
  have hg15_9 : v15_9.toInt = th 11 := hg15_9
  have hg17_9 : v17_9.toInt = th 12 := hg17_9
  have hg20_9 : v20_9.toInt = th 14 := hg20_9
  have hg23_9 : v23_9.toInt = th 15 := hg23_9
  have hg36_9 : v36_9.toInt = th 18 := hg36_9
  have hg47_9 : v47_9.toInt = th 16 := hg47_9
  have hg48_9 : v48_9.toInt = th 17 := hg48_9
  have hg53_9 : v53_9.toInt = th 38 := hg53_9
  have hg55_9 : v55_9.toInt = th 39 := hg55_9
  refine pl_get (v := .int v3_9) hx hb hts (fun w h => mT (inX11 w h)) hown hG.1 hP (hst.1 255 (by decide)) hf10 rfl 3 (by decide) (hts _ (mT wg_1339)) (fun _ h => h) rfl dX11_digits_7 ?_
  refine pl_put (ty := .int) (v := .int v3_9) (fs' := [.int v0_9, .ref (ad 256), .int v2_9, .int v3_9, .int v4_9, .int v3_9, .int v6_9, .ref (ad 257), .int v8_9, .int v9_9, .ref (ad 258), .ref (ad 259), .int v12_9, .int v13_9, .int v14_9, .int v15_9, .int v16_9, .int v17_9, .int v18_9, .int v19_9, .int v20_9, .long v21_9, .long v22_9, .int v23_9, .ref (ad 260), .int v25_9, .ref (ad 261), .ref (ad 262), .ref (ad 263), .ref (ad 264), .ref (ad 265), .ref (ad 266), .ref (ad 267), .ref (ad 268), .ref (ad 269), .ref (ad 270), .int v36_9, .int v37_9, .int v38_9, .int v39_9, .int v40_9, .ref (ad 271), .ref (ad 272), .ref (ad 273), .ref (ad 274), .long v45_9, .long v46_9, .int v47_9, .int v48_9, .ref (ad 275), .int v50_9, .int v51_9, .ref (ad 276), .int v53_9, .ref (ad 277), .int v55_9]) hx hb hts (fun w h => mT (inX11 w h)) tyX11 tyX11_ok nmX11 hown hG.1 hP hD hS (hst.1 255 (by decide)) hf10 rfl 5 (by decide) (hts _ (mT wg_1341)) (fun _ h => h) rfl (by decide +kernel) (rfl) (rfl) (Nat.le_of_ble_eq_true rfl) rfl dX11_digits_10 (fun H locs f11 hf12 ho13 hP hD hS => ?_)
  have hfr : (∀ b, b ≠ (ad 255) → f11 b = f b) := fun b z0_ => (ho13 b z0_).trans (hfr b z0_)
  have hT := TI.updMG (th' := (gset (gset th 37 zz8) 40 (v3_9.toInt))) hT hst (k := 0) (by decide) hf12 ho13 ⟨v0_9, v2_9, v3_9, v4_9, v3_9, v6_9, v8_9, v9_9, v12_9, v13_9, v14_9, v15_9, v16_9, v17_9, v18_9, v19_9, v20_9, v21_9, v22_9, v23_9, v25_9, v36_9, v37_9, v38_9, v39_9, v40_9, v45_9, v46_9, v47_9, v48_9, v50_9, v51_9, v53_9, v55_9, rfl, hv0_9, hv2_9, (by rw [hg2_9]; simp [gset]), hv3_9, (by rw [hg3_9]; simp [gset]), hv4_9, (by rw [hg4_9]; simp [gset]), hv3_9, (by simp [gset, hg3_9]), hv6_9, (by rw [hg6_9]; simp [gset]), hv8_9, hv9_9, (by rw [hg9_9]; simp [gset]), hv12_9, hv13_9, (by rw [hg13_9]; simp [gset]), hv14_9, (by rw [hg14_9]; simp [gset]), hv15_9, (by rw [hg15_9]; simp [gset]), hv17_9, (by rw [hg17_9]; simp [gset]), hv20_9, (by rw [hg20_9]; simp [gset]), hv23_9, (by rw [hg23_9]; simp [gset]), hv25_9, hv36_9, (by rw [hg36_9]; simp [gset]), hv47_9, (by rw [hg47_9]; simp [gset]), hv48_9, (by rw [hg48_9]; simp [gset]), hv53_9, (by rw [hg53_9]; simp [gset]), hv55_9, (by rw [hg55_9]; simp [gset]), hrel0_9⟩ (fun q hq => ((gset_ne (fun e => hq (by subst e; decide))).trans rfl))
  have hT : TI g ad (gset (gset th 37 zz8) 40 v3_9.toInt) f11 := TI.cast hT (by funext q; simp only [gset]; (repeat' split); all_goals first | rfl | omega | (subst_vars; rfl) | (exfalso; omega))
  obtain ⟨rw14, hf15, hc16⟩ := hT.2.2 1 (by decide)
  have hJ13 : ∀ (k13 : Nat) (zg13_za : Int) (f_13 : HP) (H : Heap) (locs : List Loc) (ls : Array Slot), ((gset (gset th 37 zz8) 40 v3_9.toInt) 40 ≤ zg13_za ∧ zg13_za ≤ 500 ∧ 0 ≤ zg13_za) → va_P g.1 vwCl (va_pl L f_13) H → va_D A (va_pl L f_13) → va_S A s.heap H locs → TI g ad (gset (gset th 40 v3_9.toInt) 37 zg13_za) f_13 → (∀ b, b ≠ (ad 255) → f_13 b = f b) → (∀ i : Nat, v3_9.toInt ≤ (i : Int) → (i : Int) < zg13_za → In (rw14 i) 48 57) → lv_has ls 2 [(0, .ref (ad 255)), (1, .int r3)] → 500 - zg13_za < ((k13 : Nat) : Int) → W p l e rm_X11_digits s m [.ref (ad 255)].toArray below meth c H locs 0 0 (MQ below (va_Qv (po_X11_digits g ad th L f ) (PstB g A) A) [.ref (ad 255)].toArray s rm_X11_digits.cells rm_X11_digits.slots A) (F0 m 13 ls []) := by
    intro k13
    induction k13 with
    | zero =>
      intro zg13_za f_13 H locs ls hzg13 hP hD hS hT hfr hxi13_0 hl hmz13
      exact absurd hmz13 (by omega)
    | succ k13 ih13 =>
      intro zg13_za f_13 H locs ls hzg13 hP hD hS hT hfr hxi13_0 hl hmz13
      refine lv_aload_n hx hb dX11_digits_13 rfl (lv_at hl 0 rfl) ?_
      obtain ⟨v0_17, v2_17, v3_17, v4_17, v5_17, v6_17, v8_17, v9_17, v12_17, v13_17, v14_17, v15_17, v16_17, v17_17, v18_17, v19_17, v20_17, v21_17, v22_17, v23_17, v25_17, v36_17, v37_17, v38_17, v39_17, v40_17, v45_17, v46_17, v47_17, v48_17, v50_17, v51_17, v53_17, v55_17, hf18, hv0_17, hv2_17, hg2_17, hv3_17, hg3_17, hv4_17, hg4_17, hv5_17, hg5_17, hv6_17, hg6_17, hv8_17, hv9_17, hg9_17, hv12_17, hv13_17, hg13_17, hv14_17, hg14_17, hv15_17, hg15_17, hv17_17, hg17_17, hv20_17, hg20_17, hv23_17, hg23_17, hv25_17, hv36_17, hg36_17, hv47_17, hg47_17, hv48_17, hg48_17, hv53_17, hg53_17, hv55_17, hg55_17, hrel0_17⟩ := hT.2.2 0 (by decide)
      have hg2_17 : v2_17.toInt = th 13 := hg2_17
      have hg3_17 : v3_17.toInt = zg13_za := hg3_17
      have hg4_17 : v4_17.toInt = th 42 := hg4_17
      have hg5_17 : v5_17.toInt = v3_9.toInt := hg5_17
      have hg6_17 : v6_17.toInt = th 41 := hg6_17
      have hg9_17 : v9_17.toInt = th 35 := hg9_17
      have hg13_17 : v13_17.toInt = th 36 := hg13_17
      have hg14_17 : v14_17.toInt = th 10 := hg14_17
      have hg15_17 : v15_17.toInt = th 11 := hg15_17
      have hg17_17 : v17_17.toInt = th 12 := hg17_17
      have hg20_17 : v20_17.toInt = th 14 := hg20_17
      have hg23_17 : v23_17.toInt = th 15 := hg23_17
      have hg36_17 : v36_17.toInt = th 18 := hg36_17
      have hg47_17 : v47_17.toInt = th 16 := hg47_17
      have hg48_17 : v48_17.toInt = th 17 := hg48_17
      have hg53_17 : v53_17.toInt = th 38 := hg53_17
      have hg55_17 : v55_17.toInt = th 39 := hg55_17
      refine call_i (run_V (rm := rm_X11_here) hx hb hml hown hts (s_X11_here l g ad (gset (gset th 40 v3_9.toInt) 37 zg13_za) _ _ _  hst hT ) cV_X11_here wg_1533 ⟨Nat.le_of_ble_eq_true rfl, Nat.le_of_ble_eq_true rfl⟩ hG hE hA hP hD hS (hst.1 255 (by decide)) hf18 rfl rfl hl.1 (As := []) (rest := []) rfl (Nat.le_of_ble_eq_true rfl) dX11_digits_14 ⟨Nat.le_of_ble_eq_true rfl, Nat.le_of_ble_eq_true rfl⟩) hA hD hS (fun r19 L20 f21 H locs hp22 hP hD hS => ?_)
      obtain ⟨eL23L, eL23T, eL23R, eL23X0, eL23X1⟩ := hp22
      have eL23L : L20 = L := eL23L
      have eL23T : f21 = f_13 := eL23T
      rw [eL23L, eL23T] at hP hD
      have eL23R : In r19 (-1) 255 := eL23R
      have hh24 : r19.toInt = -1 ∨ zg13_za < th 13 := eL23X0
      have hby25 : r19.toInt = -1 ∨ r19.toInt = (rw14 (zg13_za).toNat).toInt % 256 := eL23X1 _ hf15
      refine call_i (run_S (rm := rm_X11_isDigit) hx hb hml hown hts (s_X11_isDigit l g ad (gset (gset th 40 v3_9.toInt) 37 zg13_za) _ _ _ r19 hst hT ) cS_X11_isDigit wg_1574 ⟨Nat.le_of_ble_eq_true rfl, Nat.le_of_ble_eq_true rfl⟩ hG hE hA hP hD hS rfl hl.1 (As := [.int r19]) (rest := []) rfl (Nat.le_of_ble_eq_true rfl) dX11_digits_17 ⟨Nat.le_of_ble_eq_true rfl, Nat.le_of_ble_eq_true rfl⟩) hA hD hS (fun r26 L27 f28 H locs hp29 hP hD hS => ?_)
      obtain ⟨eL30L, eL30T, eL30R, eL30W0⟩ := hp29
      have eL30L : L27 = L := eL30L
      have eL30T : f28 = f_13 := eL30T
      rw [eL30L, eL30T] at hP hD
      have eL30R : In r26 0 1 := eL30R
      refine lv_if_eq (tgt := 36) hx hb dX11_digits_20 (by decide) (fun c31 => ?_) (fun c31 => ?_)
      ·
        have oc0 : (0 : Int32).toInt = 0 := by decide
        have cc32 : r26.toInt = (0 : Int32).toInt := congrArg Int32.toInt c31
        have hb33 : In r26 0 0 := In.eq1 eL30R (⟨by decide, by decide⟩ : In 0 0 0) cc32 (by omega) (by omega)
        refine lv_aload_n hx hb dX11_digits_36 rfl (lv_at hl 0 rfl) ?_
        refine lv_aload_n hx hb dX11_digits_37 rfl (lv_at hl 0 rfl) ?_
        refine pl_get (v := .int v3_17) hx hb hts (fun w h => mT (inX11 w h)) hown hG.1 hP (hst.1 255 (by decide)) hf18 rfl 3 (by decide) (hts _ (mT wg_1339)) (fun _ h => h) rfl dX11_digits_38 ?_
        refine lv_aload_n hx hb dX11_digits_41 rfl (lv_at hl 0 rfl) ?_
        refine pl_get (v := .int v5_17) hx hb hts (fun w h => mT (inX11 w h)) hown hG.1 hP (hst.1 255 (by decide)) hf18 rfl 5 (by decide) (hts _ (mT wg_1341)) (fun _ h => h) rfl dX11_digits_42 ?_
        refine lv_isub hx hb dX11_digits_45 ?_
        refine lv_topi (fun x34 ex34 => ?_)
        have hb35 : In x34 (-500) 500 := ex34 ▸ In.sub hv3_17 hv5_17 (by decide) (by decide) (by decide) (by decide)
        have et36 : x34.toInt = v3_17.toInt - v5_17.toInt := In.sub2e ex34 hv3_17 hv5_17 (by decide) (by decide)
        refine pl_put (ty := .int) (v := .int x34) (fs' := [.int v0_17, .ref (ad 256), .int v2_17, .int v3_17, .int v4_17, .int v5_17, .int x34, .ref (ad 257), .int v8_17, .int v9_17, .ref (ad 258), .ref (ad 259), .int v12_17, .int v13_17, .int v14_17, .int v15_17, .int v16_17, .int v17_17, .int v18_17, .int v19_17, .int v20_17, .long v21_17, .long v22_17, .int v23_17, .ref (ad 260), .int v25_17, .ref (ad 261), .ref (ad 262), .ref (ad 263), .ref (ad 264), .ref (ad 265), .ref (ad 266), .ref (ad 267), .ref (ad 268), .ref (ad 269), .ref (ad 270), .int v36_17, .int v37_17, .int v38_17, .int v39_17, .int v40_17, .ref (ad 271), .ref (ad 272), .ref (ad 273), .ref (ad 274), .long v45_17, .long v46_17, .int v47_17, .int v48_17, .ref (ad 275), .int v50_17, .int v51_17, .ref (ad 276), .int v53_17, .ref (ad 277), .int v55_17]) hx hb hts (fun w h => mT (inX11 w h)) tyX11 tyX11_ok nmX11 hown hG.1 hP hD hS (hst.1 255 (by decide)) hf18 rfl 6 (by decide) (hts _ (mT wg_1342)) (fun _ h => h) rfl (by decide +kernel) (rfl) (rfl) (Nat.le_of_ble_eq_true rfl) rfl dX11_digits_46 (fun H locs f37 hf38 ho39 hP hD hS => ?_)
        have hf40 := (ho39 (ad 256) (hst.ne (by decide) (by decide) (by decide))).trans hf15
        have hfr : (∀ b, b ≠ (ad 255) → f37 b = f b) := fun b z0_ => (ho39 b z0_).trans (hfr b z0_)
        have hT := TI.updMG (th' := (gset (gset (gset th 40 v3_9.toInt) 37 zg13_za) 41 (x34.toInt))) hT hst (k := 0) (by decide) hf38 ho39 ⟨v0_17, v2_17, v3_17, v4_17, v5_17, x34, v8_17, v9_17, v12_17, v13_17, v14_17, v15_17, v16_17, v17_17, v18_17, v19_17, v20_17, v21_17, v22_17, v23_17, v25_17, v36_17, v37_17, v38_17, v39_17, v40_17, v45_17, v46_17, v47_17, v48_17, v50_17, v51_17, v53_17, v55_17, rfl, hv0_17, hv2_17, (by rw [hg2_17]; simp [gset]), hv3_17, (by rw [hg3_17]; simp [gset]), hv4_17, (by rw [hg4_17]; simp [gset]), hv5_17, (by rw [hg5_17]; simp [gset]), (In.mk (by obtain ⟨o0a, o0b⟩ := (hb35 : In _ _ _); obtain ⟨o1a, o1b⟩ := (hv2_17 : In _ _ _); obtain ⟨o2a, o2b⟩ := (hv3_17 : In _ _ _); obtain ⟨o3a, o3b⟩ := (hv4_17 : In _ _ _); obtain ⟨o4a, o4b⟩ := (hv5_17 : In _ _ _); obtain ⟨o5a, o5b⟩ := (hv9_17 : In _ _ _); obtain ⟨o6a, o6b⟩ := (hv13_17 : In _ _ _); obtain ⟨o7a, o7b⟩ := (hv14_17 : In _ _ _); obtain ⟨o8a, o8b⟩ := (hv15_17 : In _ _ _); obtain ⟨o9a, o9b⟩ := (hv17_17 : In _ _ _); obtain ⟨o10a, o10b⟩ := (hv20_17 : In _ _ _); obtain ⟨o11a, o11b⟩ := (hv23_17 : In _ _ _); obtain ⟨o12a, o12b⟩ := (hv36_17 : In _ _ _); obtain ⟨o13a, o13b⟩ := (hv47_17 : In _ _ _); obtain ⟨o14a, o14b⟩ := (hv48_17 : In _ _ _); obtain ⟨o15a, o15b⟩ := (hv53_17 : In _ _ _); obtain ⟨o16a, o16b⟩ := (hv55_17 : In _ _ _); omega) (by obtain ⟨o0a, o0b⟩ := (hb35 : In _ _ _); obtain ⟨o1a, o1b⟩ := (hv2_17 : In _ _ _); obtain ⟨o2a, o2b⟩ := (hv3_17 : In _ _ _); obtain ⟨o3a, o3b⟩ := (hv4_17 : In _ _ _); obtain ⟨o4a, o4b⟩ := (hv5_17 : In _ _ _); obtain ⟨o5a, o5b⟩ := (hv9_17 : In _ _ _); obtain ⟨o6a, o6b⟩ := (hv13_17 : In _ _ _); obtain ⟨o7a, o7b⟩ := (hv14_17 : In _ _ _); obtain ⟨o8a, o8b⟩ := (hv15_17 : In _ _ _); obtain ⟨o9a, o9b⟩ := (hv17_17 : In _ _ _); obtain ⟨o10a, o10b⟩ := (hv20_17 : In _ _ _); obtain ⟨o11a, o11b⟩ := (hv23_17 : In _ _ _); obtain ⟨o12a, o12b⟩ := (hv36_17 : In _ _ _); obtain ⟨o13a, o13b⟩ := (hv47_17 : In _ _ _); obtain ⟨o14a, o14b⟩ := (hv48_17 : In _ _ _); obtain ⟨o15a, o15b⟩ := (hv53_17 : In _ _ _); obtain ⟨o16a, o16b⟩ := (hv55_17 : In _ _ _); omega)), (by simp [gset]), hv8_17, hv9_17, (by rw [hg9_17]; simp [gset]), hv12_17, hv13_17, (by rw [hg13_17]; simp [gset]), hv14_17, (by rw [hg14_17]; simp [gset]), hv15_17, (by rw [hg15_17]; simp [gset]), hv17_17, (by rw [hg17_17]; simp [gset]), hv20_17, (by rw [hg20_17]; simp [gset]), hv23_17, (by rw [hg23_17]; simp [gset]), hv25_17, hv36_17, (by rw [hg36_17]; simp [gset]), hv47_17, (by rw [hg47_17]; simp [gset]), hv48_17, (by rw [hg48_17]; simp [gset]), hv53_17, (by rw [hg53_17]; simp [gset]), hv55_17, (by rw [hg55_17]; simp [gset]), hrel0_17⟩ (fun q hq => ((gset_ne (fun e => hq (by subst e; decide))).trans rfl))
        have hT : TI g ad (gset (gset (gset th 40 v3_9.toInt) 37 zg13_za) 41 x34.toInt) f37 := TI.cast hT (by funext q; simp only [gset]; (repeat' split); all_goals first | rfl | omega | (subst_vars; rfl) | (exfalso; omega))
        exact ret_v hx hb hr hlocks hP hD hS (Nat.le_of_ble_eq_true rfl) (Nat.le_of_ble_eq_true rfl) (⟨rfl, ⟨zg13_za, v3_9.toInt, x34.toInt, ⟨(show (th 37 ≤ v3_9.toInt ∧ 0 ≤ v3_9.toInt ∧ 0 ≤ x34.toInt ∧ v3_9.toInt + x34.toInt = zg13_za ∧ zg13_za ≤ 500) from (by omega)), fun r0 q0 => by have q1 := hf40.symm.trans q0; injection q1 with q1; injection q1 with _ q1; injection q1 with _ q1; injection q1 with q1; rw [← q1]; exact fun i a b => hxi13_0 i a (by omega)⟩, TI.cast hT (by funext q; simp only [gset]; (repeat' split); all_goals first | rfl | omega | (subst_vars; rfl) | (exfalso; omega))⟩, hfr⟩) dX11_digits_49
      ·
        have oc0 : (0 : Int32).toInt = 0 := by decide
        have cc41 : r26.toInt ≠ (0 : Int32).toInt := i32_ne c31
        have hb42 : In r26 1 1 := In.ne1 eL30R (⟨by decide, by decide⟩ : In 0 0 0) cc41 (by omega) (by omega)
        have hb43 : In r19 48 57 := In.both (eL30W0 c31) eL23R (by decide) (by decide)
        have hdd44 : In (rw14 (zg13_za).toNat) 48 57 := dg_at (hc16 _ (by obtain ⟨o0a, o0b⟩ := (hb43 : In _ _ _); obtain ⟨o1a, o1b⟩ := (hv2_17 : In _ _ _); obtain ⟨o2a, o2b⟩ := (hv3_17 : In _ _ _); obtain ⟨o3a, o3b⟩ := (hv4_17 : In _ _ _); obtain ⟨o4a, o4b⟩ := (hv5_17 : In _ _ _); obtain ⟨o5a, o5b⟩ := (hv6_17 : In _ _ _); obtain ⟨o6a, o6b⟩ := (hv9_17 : In _ _ _); obtain ⟨o7a, o7b⟩ := (hv13_17 : In _ _ _); obtain ⟨o8a, o8b⟩ := (hv14_17 : In _ _ _); obtain ⟨o9a, o9b⟩ := (hv15_17 : In _ _ _); obtain ⟨o10a, o10b⟩ := (hv17_17 : In _ _ _); obtain ⟨o11a, o11b⟩ := (hv20_17 : In _ _ _); obtain ⟨o12a, o12b⟩ := (hv23_17 : In _ _ _); obtain ⟨o13a, o13b⟩ := (hv36_17 : In _ _ _); obtain ⟨o14a, o14b⟩ := (hv47_17 : In _ _ _); obtain ⟨o15a, o15b⟩ := (hv48_17 : In _ _ _); obtain ⟨o16a, o16b⟩ := (hv53_17 : In _ _ _); obtain ⟨o17a, o17b⟩ := (hv55_17 : In _ _ _); omega)) hb43 hby25
        refine lv_aload_n hx hb dX11_digits_23 rfl (lv_at hl 0 rfl) ?_
        refine lv_dup hx hb dX11_digits_24 rfl ?_
        refine pl_get (v := .int v3_17) hx hb hts (fun w h => mT (inX11 w h)) hown hG.1 hP (hst.1 255 (by decide)) hf18 rfl 3 (by decide) (hts _ (mT wg_1339)) (fun _ h => h) rfl dX11_digits_25 ?_
        refine lv_iconst (v := 1) hx hb dX11_digits_28 (by decide) ?_
        refine lv_iadd hx hb dX11_digits_29 ?_
        refine lv_topi (fun x45 ex45 => ?_)
        have hb46 : In x45 1 501 := ex45 ▸ In.add hv3_17 (⟨by decide, by decide⟩ : In 1 1 1) (by decide) (by decide) (by decide) (by decide)
        have et47 : x45.toInt = v3_17.toInt + 1 := In.adde ex45 hv3_17 (k := 1) (by decide) (by decide) (by decide)
        refine pl_put (ty := .int) (v := .int x45) (fs' := [.int v0_17, .ref (ad 256), .int v2_17, .int x45, .int v4_17, .int v5_17, .int v6_17, .ref (ad 257), .int v8_17, .int v9_17, .ref (ad 258), .ref (ad 259), .int v12_17, .int v13_17, .int v14_17, .int v15_17, .int v16_17, .int v17_17, .int v18_17, .int v19_17, .int v20_17, .long v21_17, .long v22_17, .int v23_17, .ref (ad 260), .int v25_17, .ref (ad 261), .ref (ad 262), .ref (ad 263), .ref (ad 264), .ref (ad 265), .ref (ad 266), .ref (ad 267), .ref (ad 268), .ref (ad 269), .ref (ad 270), .int v36_17, .int v37_17, .int v38_17, .int v39_17, .int v40_17, .ref (ad 271), .ref (ad 272), .ref (ad 273), .ref (ad 274), .long v45_17, .long v46_17, .int v47_17, .int v48_17, .ref (ad 275), .int v50_17, .int v51_17, .ref (ad 276), .int v53_17, .ref (ad 277), .int v55_17]) hx hb hts (fun w h => mT (inX11 w h)) tyX11 tyX11_ok nmX11 hown hG.1 hP hD hS (hst.1 255 (by decide)) hf18 rfl 3 (by decide) (hts _ (mT wg_1339)) (fun _ h => h) rfl (by decide +kernel) (rfl) (rfl) (Nat.le_of_ble_eq_true rfl) rfl dX11_digits_30 (fun H locs f48 hf49 ho50 hP hD hS => ?_)
        have hf51 := (ho50 (ad 256) (hst.ne (by decide) (by decide) (by decide))).trans hf15
        have hfr : (∀ b, b ≠ (ad 255) → f48 b = f b) := fun b z0_ => (ho50 b z0_).trans (hfr b z0_)
        have hT := TI.updMG (th' := (gset (gset (gset th 40 v3_9.toInt) 37 zg13_za) 37 (x45.toInt))) hT hst (k := 0) (by decide) hf49 ho50 ⟨v0_17, v2_17, x45, v4_17, v5_17, v6_17, v8_17, v9_17, v12_17, v13_17, v14_17, v15_17, v16_17, v17_17, v18_17, v19_17, v20_17, v21_17, v22_17, v23_17, v25_17, v36_17, v37_17, v38_17, v39_17, v40_17, v45_17, v46_17, v47_17, v48_17, v50_17, v51_17, v53_17, v55_17, rfl, hv0_17, hv2_17, (by rw [hg2_17]; simp [gset]), (In.mk (by obtain ⟨o0a, o0b⟩ := (hb46 : In _ _ _); obtain ⟨o1a, o1b⟩ := (hv2_17 : In _ _ _); obtain ⟨o2a, o2b⟩ := (hv4_17 : In _ _ _); obtain ⟨o3a, o3b⟩ := (hv5_17 : In _ _ _); obtain ⟨o4a, o4b⟩ := (hv6_17 : In _ _ _); obtain ⟨o5a, o5b⟩ := (hv9_17 : In _ _ _); obtain ⟨o6a, o6b⟩ := (hv13_17 : In _ _ _); obtain ⟨o7a, o7b⟩ := (hv14_17 : In _ _ _); obtain ⟨o8a, o8b⟩ := (hv15_17 : In _ _ _); obtain ⟨o9a, o9b⟩ := (hv17_17 : In _ _ _); obtain ⟨o10a, o10b⟩ := (hv20_17 : In _ _ _); obtain ⟨o11a, o11b⟩ := (hv23_17 : In _ _ _); obtain ⟨o12a, o12b⟩ := (hv36_17 : In _ _ _); obtain ⟨o13a, o13b⟩ := (hv47_17 : In _ _ _); obtain ⟨o14a, o14b⟩ := (hv48_17 : In _ _ _); obtain ⟨o15a, o15b⟩ := (hv53_17 : In _ _ _); obtain ⟨o16a, o16b⟩ := (hv55_17 : In _ _ _); obtain ⟨o17a, o17b⟩ := (hv3_17 : In _ _ _); omega) (by obtain ⟨o0a, o0b⟩ := (hb46 : In _ _ _); obtain ⟨o1a, o1b⟩ := (hv2_17 : In _ _ _); obtain ⟨o2a, o2b⟩ := (hv4_17 : In _ _ _); obtain ⟨o3a, o3b⟩ := (hv5_17 : In _ _ _); obtain ⟨o4a, o4b⟩ := (hv6_17 : In _ _ _); obtain ⟨o5a, o5b⟩ := (hv9_17 : In _ _ _); obtain ⟨o6a, o6b⟩ := (hv13_17 : In _ _ _); obtain ⟨o7a, o7b⟩ := (hv14_17 : In _ _ _); obtain ⟨o8a, o8b⟩ := (hv15_17 : In _ _ _); obtain ⟨o9a, o9b⟩ := (hv17_17 : In _ _ _); obtain ⟨o10a, o10b⟩ := (hv20_17 : In _ _ _); obtain ⟨o11a, o11b⟩ := (hv23_17 : In _ _ _); obtain ⟨o12a, o12b⟩ := (hv36_17 : In _ _ _); obtain ⟨o13a, o13b⟩ := (hv47_17 : In _ _ _); obtain ⟨o14a, o14b⟩ := (hv48_17 : In _ _ _); obtain ⟨o15a, o15b⟩ := (hv53_17 : In _ _ _); obtain ⟨o16a, o16b⟩ := (hv55_17 : In _ _ _); obtain ⟨o17a, o17b⟩ := (hv3_17 : In _ _ _); omega)), (by simp [gset]), hv4_17, (by rw [hg4_17]; simp [gset]), hv5_17, (by rw [hg5_17]; simp [gset]), hv6_17, (by rw [hg6_17]; simp [gset]), hv8_17, hv9_17, (by rw [hg9_17]; simp [gset]), hv12_17, hv13_17, (by rw [hg13_17]; simp [gset]), hv14_17, (by rw [hg14_17]; simp [gset]), hv15_17, (by rw [hg15_17]; simp [gset]), hv17_17, (by rw [hg17_17]; simp [gset]), hv20_17, (by rw [hg20_17]; simp [gset]), hv23_17, (by rw [hg23_17]; simp [gset]), hv25_17, hv36_17, (by rw [hg36_17]; simp [gset]), hv47_17, (by rw [hg47_17]; simp [gset]), hv48_17, (by rw [hg48_17]; simp [gset]), hv53_17, (by rw [hg53_17]; simp [gset]), hv55_17, (by rw [hg55_17]; simp [gset]), hrel0_17⟩ (fun q hq => ((gset_ne (fun e => hq (by subst e; decide))).trans rfl))
        have hT : TI g ad (gset (gset th 40 v3_9.toInt) 37 x45.toInt) f48 := TI.cast hT (by funext q; simp only [gset]; (repeat' split); all_goals first | rfl | omega | (subst_vars; rfl) | (exfalso; omega))
        refine lv_goto (tgt := 13) hx hb dX11_digits_33 (by decide) ?_
        exact ih13 x45.toInt _ _ _ _ (show ((gset (gset th 37 zz8) 40 v3_9.toInt) 40 ≤ x45.toInt ∧ x45.toInt ≤ 500 ∧ 0 ≤ x45.toInt) from (by omega)) hP hD hS (TI.cast hT (by funext q; simp only [gset]; (repeat' split); all_goals first | rfl | omega | (subst_vars; rfl) | (exfalso; omega))) hfr (fun i q1 q2 => dg_step hxi13_0 hdd44 i q1 (by omega)) (lv_sub hl [0, 1] rfl) (show 500 - (x45.toInt) < ((k13 : Nat) : Int) from (by omega))
  obtain ⟨rw52, hf53, hc54⟩ := hT.2.2 1 (by decide)
  exact hJ13 ((500 - zz8).toNat + 1) zz8 _ _ _ _ (show ((gset (gset th 37 zz8) 40 v3_9.toInt) 40 ≤ zz8 ∧ zz8 ≤ 500 ∧ 0 ≤ zz8) from (by omega)) hP hD hS (TI.cast hT (by funext q; simp only [gset]; (repeat' split); all_goals first | rfl | omega | (subst_vars; rfl) | (exfalso; omega))) hfr (fun i q1 q2 => by omega) (lv_sub hl [1, 0] rfl) (msI _)

abbrev rm_X11_digitAt : Room := { frames := 0, cells := 0, slots := 0, locals := 0 }
abbrev po_X11_digitAt (g : GG) (ad : Nat → Nat) (th : Nat → Int) (L : List Nat) (f : HP) (z1 : Int32) : Int32 → (List Nat × HP) → Prop := fun r u => u.1 = L ∧ u.2 = f ∧ In r (-176) 79 ∧ (∀ r0 : Nat → Int32, f (ad 256) = .inl (g.2.1 2, 500, .inl r0) → r.toInt = (r0 (th 40 + z1.toInt).toNat).toInt - 48)
set_option maxHeartbeats 4000000 in
set_option maxRecDepth 100000 in
theorem s_X11_digitAt (l : Launch) (g : GG) (ad : Nat → Nat) (th : Nat → Int) (L : List Nat) (f : HP) (sz : Nat) (z1 : Int32) (hst : ST ad L) (hT : TI g ad th f) (hz1 : In z1 0 499) (hw1 : th 40 + z1.toInt < 500) : MtI l g yX11_digitAt cX11_digitAt 2 (some .int) rm_X11_digitAt [.ref (ad 255), .int z1] L f sz (po_X11_digitAt g ad th L f z1) := by
  refine MtI.of (by decide +kernel) (Nat.le_of_ble_eq_true rfl) ?_
  intro p e s m below meth c A hEn hP hD hS ls hl
  obtain ⟨hx, hb, hr, hml, hown, hlocks, hts, hG, hA, hE, hnm⟩ := hEn
  have hown : s.vm.findClass "RulerWordModel" = some m.cls := hown
  have hl : lv_has ls 2 [(0, .ref (ad 255)), (1, .int z1)] := hl
  refine lv_aload_n hx hb dX11_digitAt_0 rfl (lv_at hl 0 rfl) ?_
  obtain ⟨v0_1, v2_1, v3_1, v4_1, v5_1, v6_1, v8_1, v9_1, v12_1, v13_1, v14_1, v15_1, v16_1, v17_1, v18_1, v19_1, v20_1, v21_1, v22_1, v23_1, v25_1, v36_1, v37_1, v38_1, v39_1, v40_1, v45_1, v46_1, v47_1, v48_1, v50_1, v51_1, v53_1, v55_1, hf2, hv0_1, hv2_1, hg2_1, hv3_1, hg3_1, hv4_1, hg4_1, hv5_1, hg5_1, hv6_1, hg6_1, hv8_1, hv9_1, hg9_1, hv12_1, hv13_1, hg13_1, hv14_1, hg14_1, hv15_1, hg15_1, hv17_1, hg17_1, hv20_1, hg20_1, hv23_1, hg23_1, hv25_1, hv36_1, hg36_1, hv47_1, hg47_1, hv48_1, hg48_1, hv53_1, hg53_1, hv55_1, hg55_1, hrel0_1⟩ := hT.2.2 0 (by decide)
  have ew : w.toInt = v5_1.toInt := congrArg Int32.toInt (FLD.eq hfw hf2 rfl)
  refine pl_get (v := .ref (ad 256)) hx hb hts (fun w h => mT (inX11 w h)) hown hG.1 hP (hst.1 255 (by decide)) hf2 rfl 1 (by decide) (hts _ (mT wg_1337)) (fun _ h => h) rfl dX11_digitAt_1 ?_
  refine lv_aload_n hx hb dX11_digitAt_4 rfl (lv_at hl 0 rfl) ?_
  refine pl_get (v := .int v5_1) hx hb hts (fun w h => mT (inX11 w h)) hown hG.1 hP (hst.1 255 (by decide)) hf2 rfl 5 (by decide) (hts _ (mT wg_1341)) (fun _ h => h) rfl dX11_digitAt_5 ?_
  refine lv_iload_n hx hb dX11_digitAt_8 rfl (lv_at hl 1 rfl) ?_
  refine lv_iadd hx hb dX11_digitAt_9 ?_
  refine lv_topi (fun x3 ex3 => ?_)
  have hb4 : In x3 0 999 := ex3 ▸ In.add hv5_1 hz1 (by decide) (by decide) (by decide) (by decide)
  have et5 : x3.toInt = v5_1.toInt + z1.toInt := In.add2e ex3 hv5_1 hz1 (by decide) (by decide)
  obtain ⟨rw6, hf7, hc8⟩ := hT.2.2 1 (by decide)
  have hin9 : vp_in x3 500 := vp_of (by obtain ⟨o0a, o0b⟩ := (hb4 : In _ _ _); obtain ⟨o1a, o1b⟩ := (hv2_1 : In _ _ _); obtain ⟨o2a, o2b⟩ := (hv3_1 : In _ _ _); obtain ⟨o3a, o3b⟩ := (hv4_1 : In _ _ _); obtain ⟨o4a, o4b⟩ := (hv5_1 : In _ _ _); obtain ⟨o5a, o5b⟩ := (hv6_1 : In _ _ _); obtain ⟨o6a, o6b⟩ := (hv9_1 : In _ _ _); obtain ⟨o7a, o7b⟩ := (hv13_1 : In _ _ _); obtain ⟨o8a, o8b⟩ := (hv14_1 : In _ _ _); obtain ⟨o9a, o9b⟩ := (hv15_1 : In _ _ _); obtain ⟨o10a, o10b⟩ := (hv17_1 : In _ _ _); obtain ⟨o11a, o11b⟩ := (hv20_1 : In _ _ _); obtain ⟨o12a, o12b⟩ := (hv23_1 : In _ _ _); obtain ⟨o13a, o13b⟩ := (hv36_1 : In _ _ _); obtain ⟨o14a, o14b⟩ := (hv47_1 : In _ _ _); obtain ⟨o15a, o15b⟩ := (hv48_1 : In _ _ _); obtain ⟨o16a, o16b⟩ := (hv53_1 : In _ _ _); obtain ⟨o17a, o17b⟩ := (hv55_1 : In _ _ _); obtain ⟨o18a, o18b⟩ := (hz1 : In _ _ _); omega) (by obtain ⟨o0a, o0b⟩ := (hb4 : In _ _ _); obtain ⟨o1a, o1b⟩ := (hv2_1 : In _ _ _); obtain ⟨o2a, o2b⟩ := (hv3_1 : In _ _ _); obtain ⟨o3a, o3b⟩ := (hv4_1 : In _ _ _); obtain ⟨o4a, o4b⟩ := (hv5_1 : In _ _ _); obtain ⟨o5a, o5b⟩ := (hv6_1 : In _ _ _); obtain ⟨o6a, o6b⟩ := (hv9_1 : In _ _ _); obtain ⟨o7a, o7b⟩ := (hv13_1 : In _ _ _); obtain ⟨o8a, o8b⟩ := (hv14_1 : In _ _ _); obtain ⟨o9a, o9b⟩ := (hv15_1 : In _ _ _); obtain ⟨o10a, o10b⟩ := (hv17_1 : In _ _ _); obtain ⟨o11a, o11b⟩ := (hv20_1 : In _ _ _); obtain ⟨o12a, o12b⟩ := (hv23_1 : In _ _ _); obtain ⟨o13a, o13b⟩ := (hv36_1 : In _ _ _); obtain ⟨o14a, o14b⟩ := (hv47_1 : In _ _ _); obtain ⟨o15a, o15b⟩ := (hv48_1 : In _ _ _); obtain ⟨o16a, o16b⟩ := (hv53_1 : In _ _ _); obtain ⟨o17a, o17b⟩ := (hv55_1 : In _ _ _); obtain ⟨o18a, o18b⟩ := (hz1 : In _ _ _); omega)
  refine pl_bald hx hb hG.1 hP (hst.1 256 (by decide)) 2 hf7 rfl hin9 dX11_digitAt_10 ?_
  refine lv_topi (fun x10 ex10 => ?_)
  have hb11 : In x10 (-128) 127 := by rw [ex10]; exact hc8 _ (vp_nat hin9)
  refine lv_bipush (v := 48) hx hb dX11_digitAt_11 (by decide) ?_
  refine lv_isub hx hb dX11_digitAt_13 ?_
  refine lv_topi (fun x12 ex12 => ?_)
  have hb13 : In x12 (-176) 79 := ex12 ▸ In.sub hb11 (⟨by decide, by decide⟩ : In 48 48 48) (by decide) (by decide) (by decide) (by decide)
  have et14 : x12.toInt = x10.toInt + (-48) := In.sube ex12 hb11 (k := 48) (by decide) (by decide) (by decide)
  exact ret_i (ty := .int) hx hb hr hlocks (rfl) hP hD hS (Nat.le_of_ble_eq_true rfl) (Nat.le_of_ble_eq_true rfl) (⟨rfl, rfl, hb13, (fun r0 q0 => by have q1 := hf7.symm.trans q0; injection q1 with q1; injection q1 with _ q1; injection q1 with _ q1; injection q1 with q1; rw [← q1, et14, ex10]; show (rw6 x3.toInt.toNat).toInt + -48 = _; rw [et5, hg5_1]; rfl)⟩) dX11_digitAt_14

abbrev rm_X11_digit_3_9 : Room := { frames := 3, cells := 0, slots := 0, locals := 61 }
abbrev po_X11_digit_3_9 (g : GG) (ad : Nat → Nat) (th : Nat → Int) (L : List Nat) (f : HP)  : Int32 → (List Nat × HP) → Prop := fun r u => u.1 = L ∧ (∃ za zr zl ze : Int, ((th 37 ≤ zr ∧ 0 ≤ zr ∧ 0 ≤ zl ∧ zr + zl = za ∧ za ≤ 500)) ∧ TI g ad (gset (gset (gset (gset th 37 za) 40 zr) 41 zl) 42 ze) u.2) ∧ (∀ b, b ≠ (ad 255) → u.2 b = f b) ∧ In r 3 9
set_option maxHeartbeats 4000000 in
set_option maxRecDepth 100000 in
theorem s_X11_digit_3_9 (l : Launch) (g : GG) (ad : Nat → Nat) (th : Nat → Int) (L : List Nat) (f : HP) (sz : Nat)  (hst : ST ad L) (hT : TI g ad th f)  : MtI l g yX11_digit cX11_digit 3 (some .int) rm_X11_digit_3_9 [.ref (ad 255), .int 3, .int 9] L f sz (po_X11_digit_3_9 g ad th L f ) := by
  refine MtI.of (by decide +kernel) (Nat.le_of_ble_eq_true rfl) ?_
  intro p e s m below meth c A hEn hP hD hS ls hl
  obtain ⟨hx, hb, hr, hml, hown, hlocks, hts, hG, hA, hE, hnm⟩ := hEn
  have hown : s.vm.findClass "RulerWordModel" = some m.cls := hown
  have hl : lv_has ls 3 [(0, .ref (ad 255)), (1, .int 3), (2, .int 9)] := hl
  have hfr : (∀ b, b ≠ (ad 255) → f b = f b) := fun b z0_ => rfl
  refine lv_aload_n hx hb dX11_digit_0 rfl (lv_at hl 0 rfl) ?_
  obtain ⟨v0_1, v2_1, v3_1, v4_1, v5_1, v6_1, v8_1, v9_1, v12_1, v13_1, v14_1, v15_1, v16_1, v17_1, v18_1, v19_1, v20_1, v21_1, v22_1, v23_1, v25_1, v36_1, v37_1, v38_1, v39_1, v40_1, v45_1, v46_1, v47_1, v48_1, v50_1, v51_1, v53_1, v55_1, hf2, hv0_1, hv2_1, hg2_1, hv3_1, hg3_1, hv4_1, hg4_1, hv5_1, hg5_1, hv6_1, hg6_1, hv8_1, hv9_1, hg9_1, hv12_1, hv13_1, hg13_1, hv14_1, hg14_1, hv15_1, hg15_1, hv17_1, hg17_1, hv20_1, hg20_1, hv23_1, hg23_1, hv25_1, hv36_1, hg36_1, hv47_1, hg47_1, hv48_1, hg48_1, hv53_1, hg53_1, hv55_1, hg55_1, hrel0_1⟩ := hT.2.2 0 (by decide)
  refine call_v (run_V (rm := rm_X11_digits) hx hb hml hown hts (s_X11_digits l g ad th _ _ _  hst hT ) cV_X11_digits wg_1570 ⟨Nat.le_of_ble_eq_true rfl, Nat.le_of_ble_eq_true rfl⟩ hG hE hA hP hD hS (hst.1 255 (by decide)) hf2 rfl rfl hl.1 (As := []) (rest := []) rfl (Nat.le_of_ble_eq_true rfl) dX11_digit_1 ⟨Nat.le_of_ble_eq_true rfl, Nat.le_of_ble_eq_true rfl⟩) hA hD hS (fun L4 f5 H locs hp6 hP hD hS => ?_)
  obtain ⟨eL7L, eL7T, eL7F⟩ := hp6
  have eL7L : L4 = L := eL7L
  rw [eL7L] at hP hD
  obtain ⟨zz8, zz9, zz10, hzz8, eL7T⟩ := eL7T
  have hT : TI g ad (gset (gset (gset th 37 zz8) 40 zz9) 41 zz10) f5 := eL7T
  have eL7F : ∀ b, b ≠ (ad 255) → f5 b = f b := eL7F
  have hfr : (∀ b, b ≠ (ad 255) → f5 b = f b) := fun b z0_ => (eL7F b z0_).trans (hfr b z0_)
  refine lv_aload_n hx hb dX11_digit_4 rfl (lv_at hl 0 rfl) ?_
  obtain ⟨v0_11, v2_11, v3_11, v4_11, v5_11, v6_11, v8_11, v9_11, v12_11, v13_11, v14_11, v15_11, v16_11, v17_11, v18_11, v19_11, v20_11, v21_11, v22_11, v23_11, v25_11, v36_11, v37_11, v38_11, v39_11, v40_11, v45_11, v46_11, v47_11, v48_11, v50_11, v51_11, v53_11, v55_11, hf12, hv0_11, hv2_11, hg2_11, hv3_11, hg3_11, hv4_11, hg4_11, hv5_11, hg5_11, hv6_11, hg6_11, hv8_11, hv9_11, hg9_11, hv12_11, hv13_11, hg13_11, hv14_11, hg14_11, hv15_11, hg15_11, hv17_11, hg17_11, hv20_11, hg20_11, hv23_11, hg23_11, hv25_11, hv36_11, hg36_11, hv47_11, hg47_11, hv48_11, hg48_11, hv53_11, hg53_11, hv55_11, hg55_11, hrel0_11⟩ := hT.2.2 0 (by decide)
  have hg2_11 : v2_11.toInt = th 13 := hg2_11
  have hg3_11 : v3_11.toInt = zz8 := hg3_11
  have hg4_11 : v4_11.toInt = th 42 := hg4_11
  have hg5_11 : v5_11.toInt = zz9 := hg5_11
  have hg6_11 : v6_11.toInt = zz10 := hg6_11
  have hg9_11 : v9_11.toInt = th 35 := hg9_11
  have hg13_11 : v13_11.toInt = th 36 := hg13_11
  have hg14_11 : v14_11.toInt = th 10 := hg14_11
  have hg15_11 : v15_11.toInt = th 11 := hg15_11
  have hg17_11 : v17_11.toInt = th 12 := hg17_11
  have hg20_11 : v20_11.toInt = th 14 := hg20_11
  have hg23_11 : v23_11.toInt = th 15 := hg23_11
  have hg36_11 : v36_11.toInt = th 18 := hg36_11
  have hg47_11 : v47_11.toInt = th 16 := hg47_11
  have hg48_11 : v48_11.toInt = th 17 := hg48_11
  have hg53_11 : v53_11.toInt = th 38 := hg53_11
  have hg55_11 : v55_11.toInt = th 39 := hg55_11
  refine pl_get (v := .int v6_11) hx hb hts (fun w h => mT (inX11 w h)) hown hG.1 hP (hst.1 255 (by decide)) hf12 rfl 6 (by decide) (hts _ (mT wg_1342)) (fun _ h => h) rfl dX11_digit_5 ?_
  refine lv_iconst (v := 1) hx hb dX11_digit_8 (by decide) ?_
  have hJ28 : ∀ (H : Heap) (locs : List Loc) (ls : Array Slot), va_P g.1 vwCl (va_pl L f5) H → va_D A (va_pl L f5) → va_S A s.heap H locs → lv_has ls 3 [(0, .ref (ad 255)), (1, .int 3), (2, .int 9)] → W p l e rm_X11_digit_3_9 s m [.ref (ad 255), .int 3, .int 9].toArray below meth c H locs 0 0 (MQ below (va_Qi (po_X11_digit_3_9 g ad th L f ) (PstB g A) A) [.ref (ad 255), .int 3, .int 9].toArray s rm_X11_digit_3_9.cells rm_X11_digit_3_9.slots A) (F0 m 28 ls []) := by
    intro H locs ls hP hD hS hl
    refine lv_aload_n hx hb dX11_digit_28 rfl (lv_at hl 0 rfl) ?_
    refine lv_aload_n hx hb dX11_digit_29 rfl (lv_at hl 0 rfl) ?_
    refine pl_get (v := .int v5_11) hx hb hts (fun w h => mT (inX11 w h)) hown hG.1 hP (hst.1 255 (by decide)) hf12 rfl 5 (by decide) (hts _ (mT wg_1341)) (fun _ h => h) rfl dX11_digit_30 ?_
    refine call_v (run_V (rm := rm_X11_fails) hx hb hml hown hts (s_X11_fails l g ad (gset (gset (gset th 37 zz8) 40 zz9) 41 zz10) _ _ _ v5_11 hst hT hv5_11) cV_X11_fails wg_1545 ⟨Nat.le_of_ble_eq_true rfl, Nat.le_of_ble_eq_true rfl⟩ hG hE hA hP hD hS (hst.1 255 (by decide)) hf12 rfl rfl hl.1 (As := [.int v5_11]) (rest := []) rfl (Nat.le_of_ble_eq_true rfl) dX11_digit_33 ⟨Nat.le_of_ble_eq_true rfl, Nat.le_of_ble_eq_true rfl⟩) hA hD hS (fun L14 f15 H locs hp16 hP hD hS => ?_)
    obtain ⟨eL17L, eL17T, eL17F⟩ := hp16
    have eL17L : L14 = L := eL17L
    rw [eL17L] at hP hD
    obtain ⟨zz18, hzz18, eL17T⟩ := eL17T
    have hT : TI g ad (gset (gset (gset (gset th 37 zz8) 40 zz9) 41 zz10) 42 zz18) f15 := eL17T
    have eL17F : ∀ b, b ≠ (ad 255) → f15 b = f5 b := eL17F
    have hfr : (∀ b, b ≠ (ad 255) → f15 b = f b) := fun b z0_ => (eL17F b z0_).trans (hfr b z0_)
    refine lv_iload_n hx hb dX11_digit_36 rfl (lv_at hl 1 rfl) ?_
    exact ret_i (ty := .int) hx hb hr hlocks (rfl) hP hD hS (Nat.le_of_ble_eq_true rfl) (Nat.le_of_ble_eq_true rfl) (⟨rfl, ⟨zz8, zz9, zz10, zz18, (show (th 37 ≤ zz9 ∧ 0 ≤ zz9 ∧ 0 ≤ zz10 ∧ zz9 + zz10 = zz8 ∧ zz8 ≤ 500) from (by have oc3 : (3 : Int32).toInt = 3 := (by decide); omega)), TI.cast hT (by funext q; simp only [gset]; (repeat' split); all_goals first | rfl | omega | (subst_vars; rfl) | (exfalso; omega))⟩, hfr, (⟨by decide, by decide⟩ : In 3 3 9)⟩) dX11_digit_37
  refine lv_icmp_ne (tgt := 28) hx hb dX11_digit_9 (by decide) (fun c19 => ?_) (fun c19 => ?_)
  ·
    have oc1 : (1 : Int32).toInt = 1 := by decide
    have cc20 : v6_11.toInt ≠ (1 : Int32).toInt := i32_ne c19
    exact hJ28 _ _ _ hP hD hS (lv_sub hl [0, 1, 2] rfl)
  ·
    have oc1 : (1 : Int32).toInt = 1 := by decide
    have cc21 : v6_11.toInt = (1 : Int32).toInt := congrArg Int32.toInt c19
    have hb22 : In v6_11 1 1 := In.eq1 hv6_11 (⟨by decide, by decide⟩ : In 1 1 1) cc21 (by omega) (by omega)
    refine lv_aload_n hx hb dX11_digit_12 rfl (lv_at hl 0 rfl) ?_
    refine lv_iconst (v := 0) hx hb dX11_digit_13 (by decide) ?_
    refine call_i (run_V (rm := rm_X11_digitAt) hx hb hml hown hts (s_X11_digitAt l g ad (gset (gset (gset th 37 zz8) 40 zz9) 41 zz10) _ _ _ 0 hst hT (⟨by decide, by decide⟩ : In 0 0 499) (show zz9 + (0 : Int32).toInt < 500 from (by have oc0 : (0 : Int32).toInt = 0 := (by decide); obtain ⟨o0a, o0b⟩ := (hv2_11 : In _ _ _); obtain ⟨o1a, o1b⟩ := (hv3_11 : In _ _ _); obtain ⟨o2a, o2b⟩ := (hv4_11 : In _ _ _); obtain ⟨o3a, o3b⟩ := (hv5_11 : In _ _ _); obtain ⟨o4a, o4b⟩ := (hb22 : In _ _ _); obtain ⟨o5a, o5b⟩ := (hv9_11 : In _ _ _); obtain ⟨o6a, o6b⟩ := (hv13_11 : In _ _ _); obtain ⟨o7a, o7b⟩ := (hv14_11 : In _ _ _); obtain ⟨o8a, o8b⟩ := (hv15_11 : In _ _ _); obtain ⟨o9a, o9b⟩ := (hv17_11 : In _ _ _); obtain ⟨o10a, o10b⟩ := (hv20_11 : In _ _ _); obtain ⟨o11a, o11b⟩ := (hv23_11 : In _ _ _); obtain ⟨o12a, o12b⟩ := (hv36_11 : In _ _ _); obtain ⟨o13a, o13b⟩ := (hv47_11 : In _ _ _); obtain ⟨o14a, o14b⟩ := (hv48_11 : In _ _ _); obtain ⟨o15a, o15b⟩ := (hv53_11 : In _ _ _); obtain ⟨o16a, o16b⟩ := (hv55_11 : In _ _ _); omega))) cV_X11_digitAt wg_1577 ⟨Nat.le_of_ble_eq_true rfl, Nat.le_of_ble_eq_true rfl⟩ hG hE hA hP hD hS (hst.1 255 (by decide)) hf12 rfl rfl hl.1 (As := [.int 0]) (rest := []) rfl (Nat.le_of_ble_eq_true rfl) dX11_digit_14 ⟨Nat.le_of_ble_eq_true rfl, Nat.le_of_ble_eq_true rfl⟩) hA hD hS (fun r23 L24 f25 H locs hp26 hP hD hS => ?_)
    obtain ⟨eL27L, eL27T, eL27R, eL27X0⟩ := hp26
    have eL27L : L24 = L := eL27L
    have eL27T : f25 = f5 := eL27T
    rw [eL27L, eL27T] at hP hD
    have eL27R : In r23 (-176) 79 := eL27R
    obtain ⟨rw28, hf29, hc30⟩ := hT.2.2 1 (by decide)
    have hda31 : r23.toInt = (rw28 (zz9 + 0).toNat).toInt - 48 := (eL27X0 _ hf29)
    refine lv_i2l hx hb dX11_digit_17 rfl ?_
    refine lv_iload_n hx hb dX11_digit_18 rfl (lv_at hl 1 rfl) ?_
    refine lv_i2l (v := 3) hx hb dX11_digit_19 (by decide) ?_
    refine lv_iload_n hx hb dX11_digit_20 rfl (lv_at hl 2 rfl) ?_
    refine lv_i2l (v := 9) hx hb dX11_digit_21 (by decide) ?_
    refine call_i (run_S (rm := rm_X11_isIn) hx hb hml hown hts (s_X11_isIn l g ad (gset (gset (gset th 37 zz8) 40 zz9) 41 zz10) _ _ _ (r23.toInt64) 3 9 hst hT ) cS_X11_isIn wg_1581 ⟨Nat.le_of_ble_eq_true rfl, Nat.le_of_ble_eq_true rfl⟩ hG hE hA hP hD hS rfl hl.1 (As := [.long (r23.toInt64), .long 3, .long 9]) (rest := []) rfl (Nat.le_of_ble_eq_true rfl) dX11_digit_22 ⟨Nat.le_of_ble_eq_true rfl, Nat.le_of_ble_eq_true rfl⟩) hA hD hS (fun r32 L33 f34 H locs hp35 hP hD hS => ?_)
    obtain ⟨eL36L, eL36T, eL36R, eL36X0⟩ := hp35
    have eL36L : L33 = L := eL36L
    have eL36T : f34 = f5 := eL36T
    rw [eL36L, eL36T] at hP hD
    have eL36R : In r32 0 1 := eL36R
    have hii37 : r32.toInt = 0 ∨ (3 ≤ r23.toInt ∧ r23.toInt ≤ 9) := by have z := eL36X0; rw [i2l_t r23, (by decide : (3 : Int64).toInt = 3), (by decide : (9 : Int64).toInt = 9)] at z; exact z
    have hii37w : ¬ r32 = 0 → In r23 3 9 := fun c => by have c2 := i32_ne c; have e0 : (0 : Int32).toInt = 0 := (by decide); exact ⟨by omega, by omega⟩
    refine lv_if_ne (tgt := 38) hx hb dX11_digit_25 (by decide) (fun c38 => ?_) (fun c38 => ?_)
    ·
      have oc0 : (0 : Int32).toInt = 0 := by decide
      have cc39 : r32.toInt ≠ (0 : Int32).toInt := i32_ne c38
      have hb40 : In r32 1 1 := In.ne1 eL36R (⟨by decide, by decide⟩ : In 0 0 0) cc39 (by omega) (by omega)
      have hb41 : In r23 3 9 := In.both (hii37w c38) eL27R (by decide) (by decide)
      refine lv_aload_n hx hb dX11_digit_38 rfl (lv_at hl 0 rfl) ?_
      refine lv_iconst (v := 0) hx hb dX11_digit_39 (by decide) ?_
      refine call_i (run_V (rm := rm_X11_digitAt) hx hb hml hown hts (s_X11_digitAt l g ad (gset (gset (gset th 37 zz8) 40 zz9) 41 zz10) _ _ _ 0 hst hT (⟨by decide, by decide⟩ : In 0 0 499) (show zz9 + (0 : Int32).toInt < 500 from (by have oc0 : (0 : Int32).toInt = 0 := (by decide); obtain ⟨o0a, o0b⟩ := (hv2_11 : In _ _ _); obtain ⟨o1a, o1b⟩ := (hv3_11 : In _ _ _); obtain ⟨o2a, o2b⟩ := (hv4_11 : In _ _ _); obtain ⟨o3a, o3b⟩ := (hv5_11 : In _ _ _); obtain ⟨o4a, o4b⟩ := (hb22 : In _ _ _); obtain ⟨o5a, o5b⟩ := (hv9_11 : In _ _ _); obtain ⟨o6a, o6b⟩ := (hv13_11 : In _ _ _); obtain ⟨o7a, o7b⟩ := (hv14_11 : In _ _ _); obtain ⟨o8a, o8b⟩ := (hv15_11 : In _ _ _); obtain ⟨o9a, o9b⟩ := (hv17_11 : In _ _ _); obtain ⟨o10a, o10b⟩ := (hv20_11 : In _ _ _); obtain ⟨o11a, o11b⟩ := (hv23_11 : In _ _ _); obtain ⟨o12a, o12b⟩ := (hv36_11 : In _ _ _); obtain ⟨o13a, o13b⟩ := (hv47_11 : In _ _ _); obtain ⟨o14a, o14b⟩ := (hv48_11 : In _ _ _); obtain ⟨o15a, o15b⟩ := (hv53_11 : In _ _ _); obtain ⟨o16a, o16b⟩ := (hv55_11 : In _ _ _); omega))) cV_X11_digitAt wg_1577 ⟨Nat.le_of_ble_eq_true rfl, Nat.le_of_ble_eq_true rfl⟩ hG hE hA hP hD hS (hst.1 255 (by decide)) hf12 rfl rfl hl.1 (As := [.int 0]) (rest := []) rfl (Nat.le_of_ble_eq_true rfl) dX11_digit_40 ⟨Nat.le_of_ble_eq_true rfl, Nat.le_of_ble_eq_true rfl⟩) hA hD hS (fun r42 L43 f44 H locs hp45 hP hD hS => ?_)
      obtain ⟨eL46L, eL46T, eL46R, eL46X0⟩ := hp45
      have eL46L : L43 = L := eL46L
      have eL46T : f44 = f5 := eL46T
      rw [eL46L, eL46T] at hP hD
      have eL46R : In r42 (-176) 79 := eL46R
      have hda47 : r42.toInt = (rw28 (zz9 + 0).toNat).toInt - 48 := (eL46X0 _ hf29)
      exact ret_i (ty := .int) hx hb hr hlocks (rfl) hP hD hS (Nat.le_of_ble_eq_true rfl) (Nat.le_of_ble_eq_true rfl) (⟨rfl, ⟨zz8, zz9, zz10, (th 42), (show (th 37 ≤ zz9 ∧ 0 ≤ zz9 ∧ 0 ≤ zz10 ∧ zz9 + zz10 = zz8 ∧ zz8 ≤ 500) from (by obtain ⟨o0a, o0b⟩ := (eL46R : In _ _ _); obtain ⟨o1a, o1b⟩ := (hv2_11 : In _ _ _); obtain ⟨o2a, o2b⟩ := (hv3_11 : In _ _ _); obtain ⟨o3a, o3b⟩ := (hv4_11 : In _ _ _); obtain ⟨o4a, o4b⟩ := (hv5_11 : In _ _ _); obtain ⟨o5a, o5b⟩ := (hb22 : In _ _ _); obtain ⟨o6a, o6b⟩ := (hv9_11 : In _ _ _); obtain ⟨o7a, o7b⟩ := (hv13_11 : In _ _ _); obtain ⟨o8a, o8b⟩ := (hv14_11 : In _ _ _); obtain ⟨o9a, o9b⟩ := (hv15_11 : In _ _ _); obtain ⟨o10a, o10b⟩ := (hv17_11 : In _ _ _); obtain ⟨o11a, o11b⟩ := (hv20_11 : In _ _ _); obtain ⟨o12a, o12b⟩ := (hv23_11 : In _ _ _); obtain ⟨o13a, o13b⟩ := (hv36_11 : In _ _ _); obtain ⟨o14a, o14b⟩ := (hv47_11 : In _ _ _); obtain ⟨o15a, o15b⟩ := (hv48_11 : In _ _ _); obtain ⟨o16a, o16b⟩ := (hv53_11 : In _ _ _); obtain ⟨o17a, o17b⟩ := (hv55_11 : In _ _ _); omega)), TI.cast hT (by funext q; simp only [gset]; (repeat' split); all_goals first | rfl | omega | (subst_vars; rfl) | (exfalso; omega))⟩, hfr, (In.mk (by obtain ⟨o0a, o0b⟩ := (eL46R : In _ _ _); obtain ⟨o1a, o1b⟩ := (hv2_11 : In _ _ _); obtain ⟨o2a, o2b⟩ := (hv3_11 : In _ _ _); obtain ⟨o3a, o3b⟩ := (hv4_11 : In _ _ _); obtain ⟨o4a, o4b⟩ := (hv5_11 : In _ _ _); obtain ⟨o5a, o5b⟩ := (hb22 : In _ _ _); obtain ⟨o6a, o6b⟩ := (hv9_11 : In _ _ _); obtain ⟨o7a, o7b⟩ := (hv13_11 : In _ _ _); obtain ⟨o8a, o8b⟩ := (hv14_11 : In _ _ _); obtain ⟨o9a, o9b⟩ := (hv15_11 : In _ _ _); obtain ⟨o10a, o10b⟩ := (hv17_11 : In _ _ _); obtain ⟨o11a, o11b⟩ := (hv20_11 : In _ _ _); obtain ⟨o12a, o12b⟩ := (hv23_11 : In _ _ _); obtain ⟨o13a, o13b⟩ := (hv36_11 : In _ _ _); obtain ⟨o14a, o14b⟩ := (hv47_11 : In _ _ _); obtain ⟨o15a, o15b⟩ := (hv48_11 : In _ _ _); obtain ⟨o16a, o16b⟩ := (hv53_11 : In _ _ _); obtain ⟨o17a, o17b⟩ := (hv55_11 : In _ _ _); omega) (by obtain ⟨o0a, o0b⟩ := (eL46R : In _ _ _); obtain ⟨o1a, o1b⟩ := (hv2_11 : In _ _ _); obtain ⟨o2a, o2b⟩ := (hv3_11 : In _ _ _); obtain ⟨o3a, o3b⟩ := (hv4_11 : In _ _ _); obtain ⟨o4a, o4b⟩ := (hv5_11 : In _ _ _); obtain ⟨o5a, o5b⟩ := (hb22 : In _ _ _); obtain ⟨o6a, o6b⟩ := (hv9_11 : In _ _ _); obtain ⟨o7a, o7b⟩ := (hv13_11 : In _ _ _); obtain ⟨o8a, o8b⟩ := (hv14_11 : In _ _ _); obtain ⟨o9a, o9b⟩ := (hv15_11 : In _ _ _); obtain ⟨o10a, o10b⟩ := (hv17_11 : In _ _ _); obtain ⟨o11a, o11b⟩ := (hv20_11 : In _ _ _); obtain ⟨o12a, o12b⟩ := (hv23_11 : In _ _ _); obtain ⟨o13a, o13b⟩ := (hv36_11 : In _ _ _); obtain ⟨o14a, o14b⟩ := (hv47_11 : In _ _ _); obtain ⟨o15a, o15b⟩ := (hv48_11 : In _ _ _); obtain ⟨o16a, o16b⟩ := (hv53_11 : In _ _ _); obtain ⟨o17a, o17b⟩ := (hv55_11 : In _ _ _); omega))⟩) dX11_digit_43
    ·
      have oc0 : (0 : Int32).toInt = 0 := by decide
      have cc48 : r32.toInt = (0 : Int32).toInt := congrArg Int32.toInt c38
      have hb49 : In r32 0 0 := In.eq1 eL36R (⟨by decide, by decide⟩ : In 0 0 0) cc48 (by omega) (by omega)
      exact hJ28 _ _ _ hP hD hS (lv_sub hl [0, 1, 2] rfl)

abbrev rm_X11_digit_0_4 : Room := { frames := 3, cells := 0, slots := 0, locals := 61 }
abbrev po_X11_digit_0_4 (g : GG) (ad : Nat → Nat) (th : Nat → Int) (L : List Nat) (f : HP)  : Int32 → (List Nat × HP) → Prop := fun r u => u.1 = L ∧ (∃ za zr zl ze : Int, ((th 37 ≤ zr ∧ 0 ≤ zr ∧ 0 ≤ zl ∧ zr + zl = za ∧ za ≤ 500)) ∧ TI g ad (gset (gset (gset (gset th 37 za) 40 zr) 41 zl) 42 ze) u.2) ∧ (∀ b, b ≠ (ad 255) → u.2 b = f b) ∧ In r 0 4
set_option maxHeartbeats 4000000 in
set_option maxRecDepth 100000 in
theorem s_X11_digit_0_4 (l : Launch) (g : GG) (ad : Nat → Nat) (th : Nat → Int) (L : List Nat) (f : HP) (sz : Nat)  (hst : ST ad L) (hT : TI g ad th f)  : MtI l g yX11_digit cX11_digit 3 (some .int) rm_X11_digit_0_4 [.ref (ad 255), .int 0, .int 4] L f sz (po_X11_digit_0_4 g ad th L f ) := by
  refine MtI.of (by decide +kernel) (Nat.le_of_ble_eq_true rfl) ?_
  intro p e s m below meth c A hEn hP hD hS ls hl
  obtain ⟨hx, hb, hr, hml, hown, hlocks, hts, hG, hA, hE, hnm⟩ := hEn
  have hown : s.vm.findClass "RulerWordModel" = some m.cls := hown
  have hl : lv_has ls 3 [(0, .ref (ad 255)), (1, .int 0), (2, .int 4)] := hl
  have hfr : (∀ b, b ≠ (ad 255) → f b = f b) := fun b z0_ => rfl
  refine lv_aload_n hx hb dX11_digit_0 rfl (lv_at hl 0 rfl) ?_
  obtain ⟨v0_1, v2_1, v3_1, v4_1, v5_1, v6_1, v8_1, v9_1, v12_1, v13_1, v14_1, v15_1, v16_1, v17_1, v18_1, v19_1, v20_1, v21_1, v22_1, v23_1, v25_1, v36_1, v37_1, v38_1, v39_1, v40_1, v45_1, v46_1, v47_1, v48_1, v50_1, v51_1, v53_1, v55_1, hf2, hv0_1, hv2_1, hg2_1, hv3_1, hg3_1, hv4_1, hg4_1, hv5_1, hg5_1, hv6_1, hg6_1, hv8_1, hv9_1, hg9_1, hv12_1, hv13_1, hg13_1, hv14_1, hg14_1, hv15_1, hg15_1, hv17_1, hg17_1, hv20_1, hg20_1, hv23_1, hg23_1, hv25_1, hv36_1, hg36_1, hv47_1, hg47_1, hv48_1, hg48_1, hv53_1, hg53_1, hv55_1, hg55_1, hrel0_1⟩ := hT.2.2 0 (by decide)
  refine call_v (run_V (rm := rm_X11_digits) hx hb hml hown hts (s_X11_digits l g ad th _ _ _  hst hT ) cV_X11_digits wg_1570 ⟨Nat.le_of_ble_eq_true rfl, Nat.le_of_ble_eq_true rfl⟩ hG hE hA hP hD hS (hst.1 255 (by decide)) hf2 rfl rfl hl.1 (As := []) (rest := []) rfl (Nat.le_of_ble_eq_true rfl) dX11_digit_1 ⟨Nat.le_of_ble_eq_true rfl, Nat.le_of_ble_eq_true rfl⟩) hA hD hS (fun L4 f5 H locs hp6 hP hD hS => ?_)
  obtain ⟨eL7L, eL7T, eL7F⟩ := hp6
  have eL7L : L4 = L := eL7L
  rw [eL7L] at hP hD
  obtain ⟨zz8, zz9, zz10, hzz8, eL7T⟩ := eL7T
  have hT : TI g ad (gset (gset (gset th 37 zz8) 40 zz9) 41 zz10) f5 := eL7T
  have eL7F : ∀ b, b ≠ (ad 255) → f5 b = f b := eL7F
  have hfr : (∀ b, b ≠ (ad 255) → f5 b = f b) := fun b z0_ => (eL7F b z0_).trans (hfr b z0_)
  refine lv_aload_n hx hb dX11_digit_4 rfl (lv_at hl 0 rfl) ?_
  obtain ⟨v0_11, v2_11, v3_11, v4_11, v5_11, v6_11, v8_11, v9_11, v12_11, v13_11, v14_11, v15_11, v16_11, v17_11, v18_11, v19_11, v20_11, v21_11, v22_11, v23_11, v25_11, v36_11, v37_11, v38_11, v39_11, v40_11, v45_11, v46_11, v47_11, v48_11, v50_11, v51_11, v53_11, v55_11, hf12, hv0_11, hv2_11, hg2_11, hv3_11, hg3_11, hv4_11, hg4_11, hv5_11, hg5_11, hv6_11, hg6_11, hv8_11, hv9_11, hg9_11, hv12_11, hv13_11, hg13_11, hv14_11, hg14_11, hv15_11, hg15_11, hv17_11, hg17_11, hv20_11, hg20_11, hv23_11, hg23_11, hv25_11, hv36_11, hg36_11, hv47_11, hg47_11, hv48_11, hg48_11, hv53_11, hg53_11, hv55_11, hg55_11, hrel0_11⟩ := hT.2.2 0 (by decide)
  have hg2_11 : v2_11.toInt = th 13 := hg2_11
  have hg3_11 : v3_11.toInt = zz8 := hg3_11
  have hg4_11 : v4_11.toInt = th 42 := hg4_11
  have hg5_11 : v5_11.toInt = zz9 := hg5_11
  have hg6_11 : v6_11.toInt = zz10 := hg6_11
  have hg9_11 : v9_11.toInt = th 35 := hg9_11
  have hg13_11 : v13_11.toInt = th 36 := hg13_11
  have hg14_11 : v14_11.toInt = th 10 := hg14_11
  have hg15_11 : v15_11.toInt = th 11 := hg15_11
  have hg17_11 : v17_11.toInt = th 12 := hg17_11
  have hg20_11 : v20_11.toInt = th 14 := hg20_11
  have hg23_11 : v23_11.toInt = th 15 := hg23_11
  have hg36_11 : v36_11.toInt = th 18 := hg36_11
  have hg47_11 : v47_11.toInt = th 16 := hg47_11
  have hg48_11 : v48_11.toInt = th 17 := hg48_11
  have hg53_11 : v53_11.toInt = th 38 := hg53_11
  have hg55_11 : v55_11.toInt = th 39 := hg55_11
  refine pl_get (v := .int v6_11) hx hb hts (fun w h => mT (inX11 w h)) hown hG.1 hP (hst.1 255 (by decide)) hf12 rfl 6 (by decide) (hts _ (mT wg_1342)) (fun _ h => h) rfl dX11_digit_5 ?_
  refine lv_iconst (v := 1) hx hb dX11_digit_8 (by decide) ?_
  have hJ28 : ∀ (H : Heap) (locs : List Loc) (ls : Array Slot), va_P g.1 vwCl (va_pl L f5) H → va_D A (va_pl L f5) → va_S A s.heap H locs → lv_has ls 3 [(0, .ref (ad 255)), (1, .int 0), (2, .int 4)] → W p l e rm_X11_digit_0_4 s m [.ref (ad 255), .int 0, .int 4].toArray below meth c H locs 0 0 (MQ below (va_Qi (po_X11_digit_0_4 g ad th L f ) (PstB g A) A) [.ref (ad 255), .int 0, .int 4].toArray s rm_X11_digit_0_4.cells rm_X11_digit_0_4.slots A) (F0 m 28 ls []) := by
    intro H locs ls hP hD hS hl
    refine lv_aload_n hx hb dX11_digit_28 rfl (lv_at hl 0 rfl) ?_
    refine lv_aload_n hx hb dX11_digit_29 rfl (lv_at hl 0 rfl) ?_
    refine pl_get (v := .int v5_11) hx hb hts (fun w h => mT (inX11 w h)) hown hG.1 hP (hst.1 255 (by decide)) hf12 rfl 5 (by decide) (hts _ (mT wg_1341)) (fun _ h => h) rfl dX11_digit_30 ?_
    refine call_v (run_V (rm := rm_X11_fails) hx hb hml hown hts (s_X11_fails l g ad (gset (gset (gset th 37 zz8) 40 zz9) 41 zz10) _ _ _ v5_11 hst hT hv5_11) cV_X11_fails wg_1545 ⟨Nat.le_of_ble_eq_true rfl, Nat.le_of_ble_eq_true rfl⟩ hG hE hA hP hD hS (hst.1 255 (by decide)) hf12 rfl rfl hl.1 (As := [.int v5_11]) (rest := []) rfl (Nat.le_of_ble_eq_true rfl) dX11_digit_33 ⟨Nat.le_of_ble_eq_true rfl, Nat.le_of_ble_eq_true rfl⟩) hA hD hS (fun L14 f15 H locs hp16 hP hD hS => ?_)
    obtain ⟨eL17L, eL17T, eL17F⟩ := hp16
    have eL17L : L14 = L := eL17L
    rw [eL17L] at hP hD
    obtain ⟨zz18, hzz18, eL17T⟩ := eL17T
    have hT : TI g ad (gset (gset (gset (gset th 37 zz8) 40 zz9) 41 zz10) 42 zz18) f15 := eL17T
    have eL17F : ∀ b, b ≠ (ad 255) → f15 b = f5 b := eL17F
    have hfr : (∀ b, b ≠ (ad 255) → f15 b = f b) := fun b z0_ => (eL17F b z0_).trans (hfr b z0_)
    refine lv_iload_n hx hb dX11_digit_36 rfl (lv_at hl 1 rfl) ?_
    exact ret_i (ty := .int) hx hb hr hlocks (rfl) hP hD hS (Nat.le_of_ble_eq_true rfl) (Nat.le_of_ble_eq_true rfl) (⟨rfl, ⟨zz8, zz9, zz10, zz18, (show (th 37 ≤ zz9 ∧ 0 ≤ zz9 ∧ 0 ≤ zz10 ∧ zz9 + zz10 = zz8 ∧ zz8 ≤ 500) from (by have oc0 : (0 : Int32).toInt = 0 := (by decide); omega)), TI.cast hT (by funext q; simp only [gset]; (repeat' split); all_goals first | rfl | omega | (subst_vars; rfl) | (exfalso; omega))⟩, hfr, (⟨by decide, by decide⟩ : In 0 0 4)⟩) dX11_digit_37
  refine lv_icmp_ne (tgt := 28) hx hb dX11_digit_9 (by decide) (fun c19 => ?_) (fun c19 => ?_)
  ·
    have oc1 : (1 : Int32).toInt = 1 := by decide
    have cc20 : v6_11.toInt ≠ (1 : Int32).toInt := i32_ne c19
    exact hJ28 _ _ _ hP hD hS (lv_sub hl [0, 1, 2] rfl)
  ·
    have oc1 : (1 : Int32).toInt = 1 := by decide
    have cc21 : v6_11.toInt = (1 : Int32).toInt := congrArg Int32.toInt c19
    have hb22 : In v6_11 1 1 := In.eq1 hv6_11 (⟨by decide, by decide⟩ : In 1 1 1) cc21 (by omega) (by omega)
    refine lv_aload_n hx hb dX11_digit_12 rfl (lv_at hl 0 rfl) ?_
    refine lv_iconst (v := 0) hx hb dX11_digit_13 (by decide) ?_
    refine call_i (run_V (rm := rm_X11_digitAt) hx hb hml hown hts (s_X11_digitAt l g ad (gset (gset (gset th 37 zz8) 40 zz9) 41 zz10) _ _ _ 0 hst hT (⟨by decide, by decide⟩ : In 0 0 499) (show zz9 + (0 : Int32).toInt < 500 from (by have oc0 : (0 : Int32).toInt = 0 := (by decide); obtain ⟨o0a, o0b⟩ := (hv2_11 : In _ _ _); obtain ⟨o1a, o1b⟩ := (hv3_11 : In _ _ _); obtain ⟨o2a, o2b⟩ := (hv4_11 : In _ _ _); obtain ⟨o3a, o3b⟩ := (hv5_11 : In _ _ _); obtain ⟨o4a, o4b⟩ := (hb22 : In _ _ _); obtain ⟨o5a, o5b⟩ := (hv9_11 : In _ _ _); obtain ⟨o6a, o6b⟩ := (hv13_11 : In _ _ _); obtain ⟨o7a, o7b⟩ := (hv14_11 : In _ _ _); obtain ⟨o8a, o8b⟩ := (hv15_11 : In _ _ _); obtain ⟨o9a, o9b⟩ := (hv17_11 : In _ _ _); obtain ⟨o10a, o10b⟩ := (hv20_11 : In _ _ _); obtain ⟨o11a, o11b⟩ := (hv23_11 : In _ _ _); obtain ⟨o12a, o12b⟩ := (hv36_11 : In _ _ _); obtain ⟨o13a, o13b⟩ := (hv47_11 : In _ _ _); obtain ⟨o14a, o14b⟩ := (hv48_11 : In _ _ _); obtain ⟨o15a, o15b⟩ := (hv53_11 : In _ _ _); obtain ⟨o16a, o16b⟩ := (hv55_11 : In _ _ _); omega))) cV_X11_digitAt wg_1577 ⟨Nat.le_of_ble_eq_true rfl, Nat.le_of_ble_eq_true rfl⟩ hG hE hA hP hD hS (hst.1 255 (by decide)) hf12 rfl rfl hl.1 (As := [.int 0]) (rest := []) rfl (Nat.le_of_ble_eq_true rfl) dX11_digit_14 ⟨Nat.le_of_ble_eq_true rfl, Nat.le_of_ble_eq_true rfl⟩) hA hD hS (fun r23 L24 f25 H locs hp26 hP hD hS => ?_)
    obtain ⟨eL27L, eL27T, eL27R, eL27X0⟩ := hp26
    have eL27L : L24 = L := eL27L
    have eL27T : f25 = f5 := eL27T
    rw [eL27L, eL27T] at hP hD
    have eL27R : In r23 (-176) 79 := eL27R
    obtain ⟨rw28, hf29, hc30⟩ := hT.2.2 1 (by decide)
    have hda31 : r23.toInt = (rw28 (zz9 + 0).toNat).toInt - 48 := (eL27X0 _ hf29)
    refine lv_i2l hx hb dX11_digit_17 rfl ?_
    refine lv_iload_n hx hb dX11_digit_18 rfl (lv_at hl 1 rfl) ?_
    refine lv_i2l (v := 0) hx hb dX11_digit_19 (by decide) ?_
    refine lv_iload_n hx hb dX11_digit_20 rfl (lv_at hl 2 rfl) ?_
    refine lv_i2l (v := 4) hx hb dX11_digit_21 (by decide) ?_
    refine call_i (run_S (rm := rm_X11_isIn) hx hb hml hown hts (s_X11_isIn l g ad (gset (gset (gset th 37 zz8) 40 zz9) 41 zz10) _ _ _ (r23.toInt64) 0 4 hst hT ) cS_X11_isIn wg_1581 ⟨Nat.le_of_ble_eq_true rfl, Nat.le_of_ble_eq_true rfl⟩ hG hE hA hP hD hS rfl hl.1 (As := [.long (r23.toInt64), .long 0, .long 4]) (rest := []) rfl (Nat.le_of_ble_eq_true rfl) dX11_digit_22 ⟨Nat.le_of_ble_eq_true rfl, Nat.le_of_ble_eq_true rfl⟩) hA hD hS (fun r32 L33 f34 H locs hp35 hP hD hS => ?_)
    obtain ⟨eL36L, eL36T, eL36R, eL36X0⟩ := hp35
    have eL36L : L33 = L := eL36L
    have eL36T : f34 = f5 := eL36T
    rw [eL36L, eL36T] at hP hD
    have eL36R : In r32 0 1 := eL36R
    have hii37 : r32.toInt = 0 ∨ (0 ≤ r23.toInt ∧ r23.toInt ≤ 4) := by have z := eL36X0; rw [i2l_t r23, (by decide : (0 : Int64).toInt = 0), (by decide : (4 : Int64).toInt = 4)] at z; exact z
    have hii37w : ¬ r32 = 0 → In r23 0 4 := fun c => by have c2 := i32_ne c; have e0 : (0 : Int32).toInt = 0 := (by decide); exact ⟨by omega, by omega⟩
    refine lv_if_ne (tgt := 38) hx hb dX11_digit_25 (by decide) (fun c38 => ?_) (fun c38 => ?_)
    ·
      have oc0 : (0 : Int32).toInt = 0 := by decide
      have cc39 : r32.toInt ≠ (0 : Int32).toInt := i32_ne c38
      have hb40 : In r32 1 1 := In.ne1 eL36R (⟨by decide, by decide⟩ : In 0 0 0) cc39 (by omega) (by omega)
      have hb41 : In r23 0 4 := In.both (hii37w c38) eL27R (by decide) (by decide)
      refine lv_aload_n hx hb dX11_digit_38 rfl (lv_at hl 0 rfl) ?_
      refine lv_iconst (v := 0) hx hb dX11_digit_39 (by decide) ?_
      refine call_i (run_V (rm := rm_X11_digitAt) hx hb hml hown hts (s_X11_digitAt l g ad (gset (gset (gset th 37 zz8) 40 zz9) 41 zz10) _ _ _ 0 hst hT (⟨by decide, by decide⟩ : In 0 0 499) (show zz9 + (0 : Int32).toInt < 500 from (by have oc0 : (0 : Int32).toInt = 0 := (by decide); obtain ⟨o0a, o0b⟩ := (hv2_11 : In _ _ _); obtain ⟨o1a, o1b⟩ := (hv3_11 : In _ _ _); obtain ⟨o2a, o2b⟩ := (hv4_11 : In _ _ _); obtain ⟨o3a, o3b⟩ := (hv5_11 : In _ _ _); obtain ⟨o4a, o4b⟩ := (hb22 : In _ _ _); obtain ⟨o5a, o5b⟩ := (hv9_11 : In _ _ _); obtain ⟨o6a, o6b⟩ := (hv13_11 : In _ _ _); obtain ⟨o7a, o7b⟩ := (hv14_11 : In _ _ _); obtain ⟨o8a, o8b⟩ := (hv15_11 : In _ _ _); obtain ⟨o9a, o9b⟩ := (hv17_11 : In _ _ _); obtain ⟨o10a, o10b⟩ := (hv20_11 : In _ _ _); obtain ⟨o11a, o11b⟩ := (hv23_11 : In _ _ _); obtain ⟨o12a, o12b⟩ := (hv36_11 : In _ _ _); obtain ⟨o13a, o13b⟩ := (hv47_11 : In _ _ _); obtain ⟨o14a, o14b⟩ := (hv48_11 : In _ _ _); obtain ⟨o15a, o15b⟩ := (hv53_11 : In _ _ _); obtain ⟨o16a, o16b⟩ := (hv55_11 : In _ _ _); omega))) cV_X11_digitAt wg_1577 ⟨Nat.le_of_ble_eq_true rfl, Nat.le_of_ble_eq_true rfl⟩ hG hE hA hP hD hS (hst.1 255 (by decide)) hf12 rfl rfl hl.1 (As := [.int 0]) (rest := []) rfl (Nat.le_of_ble_eq_true rfl) dX11_digit_40 ⟨Nat.le_of_ble_eq_true rfl, Nat.le_of_ble_eq_true rfl⟩) hA hD hS (fun r42 L43 f44 H locs hp45 hP hD hS => ?_)
      obtain ⟨eL46L, eL46T, eL46R, eL46X0⟩ := hp45
      have eL46L : L43 = L := eL46L
      have eL46T : f44 = f5 := eL46T
      rw [eL46L, eL46T] at hP hD
      have eL46R : In r42 (-176) 79 := eL46R
      have hda47 : r42.toInt = (rw28 (zz9 + 0).toNat).toInt - 48 := (eL46X0 _ hf29)
      exact ret_i (ty := .int) hx hb hr hlocks (rfl) hP hD hS (Nat.le_of_ble_eq_true rfl) (Nat.le_of_ble_eq_true rfl) (⟨rfl, ⟨zz8, zz9, zz10, (th 42), (show (th 37 ≤ zz9 ∧ 0 ≤ zz9 ∧ 0 ≤ zz10 ∧ zz9 + zz10 = zz8 ∧ zz8 ≤ 500) from (by obtain ⟨o0a, o0b⟩ := (eL46R : In _ _ _); obtain ⟨o1a, o1b⟩ := (hv2_11 : In _ _ _); obtain ⟨o2a, o2b⟩ := (hv3_11 : In _ _ _); obtain ⟨o3a, o3b⟩ := (hv4_11 : In _ _ _); obtain ⟨o4a, o4b⟩ := (hv5_11 : In _ _ _); obtain ⟨o5a, o5b⟩ := (hb22 : In _ _ _); obtain ⟨o6a, o6b⟩ := (hv9_11 : In _ _ _); obtain ⟨o7a, o7b⟩ := (hv13_11 : In _ _ _); obtain ⟨o8a, o8b⟩ := (hv14_11 : In _ _ _); obtain ⟨o9a, o9b⟩ := (hv15_11 : In _ _ _); obtain ⟨o10a, o10b⟩ := (hv17_11 : In _ _ _); obtain ⟨o11a, o11b⟩ := (hv20_11 : In _ _ _); obtain ⟨o12a, o12b⟩ := (hv23_11 : In _ _ _); obtain ⟨o13a, o13b⟩ := (hv36_11 : In _ _ _); obtain ⟨o14a, o14b⟩ := (hv47_11 : In _ _ _); obtain ⟨o15a, o15b⟩ := (hv48_11 : In _ _ _); obtain ⟨o16a, o16b⟩ := (hv53_11 : In _ _ _); obtain ⟨o17a, o17b⟩ := (hv55_11 : In _ _ _); omega)), TI.cast hT (by funext q; simp only [gset]; (repeat' split); all_goals first | rfl | omega | (subst_vars; rfl) | (exfalso; omega))⟩, hfr, (In.mk (by obtain ⟨o0a, o0b⟩ := (eL46R : In _ _ _); obtain ⟨o1a, o1b⟩ := (hv2_11 : In _ _ _); obtain ⟨o2a, o2b⟩ := (hv3_11 : In _ _ _); obtain ⟨o3a, o3b⟩ := (hv4_11 : In _ _ _); obtain ⟨o4a, o4b⟩ := (hv5_11 : In _ _ _); obtain ⟨o5a, o5b⟩ := (hb22 : In _ _ _); obtain ⟨o6a, o6b⟩ := (hv9_11 : In _ _ _); obtain ⟨o7a, o7b⟩ := (hv13_11 : In _ _ _); obtain ⟨o8a, o8b⟩ := (hv14_11 : In _ _ _); obtain ⟨o9a, o9b⟩ := (hv15_11 : In _ _ _); obtain ⟨o10a, o10b⟩ := (hv17_11 : In _ _ _); obtain ⟨o11a, o11b⟩ := (hv20_11 : In _ _ _); obtain ⟨o12a, o12b⟩ := (hv23_11 : In _ _ _); obtain ⟨o13a, o13b⟩ := (hv36_11 : In _ _ _); obtain ⟨o14a, o14b⟩ := (hv47_11 : In _ _ _); obtain ⟨o15a, o15b⟩ := (hv48_11 : In _ _ _); obtain ⟨o16a, o16b⟩ := (hv53_11 : In _ _ _); obtain ⟨o17a, o17b⟩ := (hv55_11 : In _ _ _); omega) (by obtain ⟨o0a, o0b⟩ := (eL46R : In _ _ _); obtain ⟨o1a, o1b⟩ := (hv2_11 : In _ _ _); obtain ⟨o2a, o2b⟩ := (hv3_11 : In _ _ _); obtain ⟨o3a, o3b⟩ := (hv4_11 : In _ _ _); obtain ⟨o4a, o4b⟩ := (hv5_11 : In _ _ _); obtain ⟨o5a, o5b⟩ := (hb22 : In _ _ _); obtain ⟨o6a, o6b⟩ := (hv9_11 : In _ _ _); obtain ⟨o7a, o7b⟩ := (hv13_11 : In _ _ _); obtain ⟨o8a, o8b⟩ := (hv14_11 : In _ _ _); obtain ⟨o9a, o9b⟩ := (hv15_11 : In _ _ _); obtain ⟨o10a, o10b⟩ := (hv17_11 : In _ _ _); obtain ⟨o11a, o11b⟩ := (hv20_11 : In _ _ _); obtain ⟨o12a, o12b⟩ := (hv23_11 : In _ _ _); obtain ⟨o13a, o13b⟩ := (hv36_11 : In _ _ _); obtain ⟨o14a, o14b⟩ := (hv47_11 : In _ _ _); obtain ⟨o15a, o15b⟩ := (hv48_11 : In _ _ _); obtain ⟨o16a, o16b⟩ := (hv53_11 : In _ _ _); obtain ⟨o17a, o17b⟩ := (hv55_11 : In _ _ _); omega))⟩) dX11_digit_43
    ·
      have oc0 : (0 : Int32).toInt = 0 := by decide
      have cc48 : r32.toInt = (0 : Int32).toInt := congrArg Int32.toInt c38
      have hb49 : In r32 0 0 := In.eq1 eL36R (⟨by decide, by decide⟩ : In 0 0 0) cc48 (by omega) (by omega)
      exact hJ28 _ _ _ hP hD hS (lv_sub hl [0, 1, 2] rfl)

abbrev rm_X11_digit_1_6 : Room := { frames := 3, cells := 0, slots := 0, locals := 61 }
abbrev po_X11_digit_1_6 (g : GG) (ad : Nat → Nat) (th : Nat → Int) (L : List Nat) (f : HP)  : Int32 → (List Nat × HP) → Prop := fun r u => u.1 = L ∧ (∃ za zr zl ze : Int, ((th 37 ≤ zr ∧ 0 ≤ zr ∧ 0 ≤ zl ∧ zr + zl = za ∧ za ≤ 500)) ∧ TI g ad (gset (gset (gset (gset th 37 za) 40 zr) 41 zl) 42 ze) u.2) ∧ (∀ b, b ≠ (ad 255) → u.2 b = f b) ∧ In r 1 6
set_option maxHeartbeats 4000000 in
set_option maxRecDepth 100000 in
theorem s_X11_digit_1_6 (l : Launch) (g : GG) (ad : Nat → Nat) (th : Nat → Int) (L : List Nat) (f : HP) (sz : Nat)  (hst : ST ad L) (hT : TI g ad th f)  : MtI l g yX11_digit cX11_digit 3 (some .int) rm_X11_digit_1_6 [.ref (ad 255), .int 1, .int 6] L f sz (po_X11_digit_1_6 g ad th L f ) := by
  refine MtI.of (by decide +kernel) (Nat.le_of_ble_eq_true rfl) ?_
  intro p e s m below meth c A hEn hP hD hS ls hl
  obtain ⟨hx, hb, hr, hml, hown, hlocks, hts, hG, hA, hE, hnm⟩ := hEn
  have hown : s.vm.findClass "RulerWordModel" = some m.cls := hown
  have hl : lv_has ls 3 [(0, .ref (ad 255)), (1, .int 1), (2, .int 6)] := hl
  have hfr : (∀ b, b ≠ (ad 255) → f b = f b) := fun b z0_ => rfl
  refine lv_aload_n hx hb dX11_digit_0 rfl (lv_at hl 0 rfl) ?_
  obtain ⟨v0_1, v2_1, v3_1, v4_1, v5_1, v6_1, v8_1, v9_1, v12_1, v13_1, v14_1, v15_1, v16_1, v17_1, v18_1, v19_1, v20_1, v21_1, v22_1, v23_1, v25_1, v36_1, v37_1, v38_1, v39_1, v40_1, v45_1, v46_1, v47_1, v48_1, v50_1, v51_1, v53_1, v55_1, hf2, hv0_1, hv2_1, hg2_1, hv3_1, hg3_1, hv4_1, hg4_1, hv5_1, hg5_1, hv6_1, hg6_1, hv8_1, hv9_1, hg9_1, hv12_1, hv13_1, hg13_1, hv14_1, hg14_1, hv15_1, hg15_1, hv17_1, hg17_1, hv20_1, hg20_1, hv23_1, hg23_1, hv25_1, hv36_1, hg36_1, hv47_1, hg47_1, hv48_1, hg48_1, hv53_1, hg53_1, hv55_1, hg55_1, hrel0_1⟩ := hT.2.2 0 (by decide)
  refine call_v (run_V (rm := rm_X11_digits) hx hb hml hown hts (s_X11_digits l g ad th _ _ _  hst hT ) cV_X11_digits wg_1570 ⟨Nat.le_of_ble_eq_true rfl, Nat.le_of_ble_eq_true rfl⟩ hG hE hA hP hD hS (hst.1 255 (by decide)) hf2 rfl rfl hl.1 (As := []) (rest := []) rfl (Nat.le_of_ble_eq_true rfl) dX11_digit_1 ⟨Nat.le_of_ble_eq_true rfl, Nat.le_of_ble_eq_true rfl⟩) hA hD hS (fun L4 f5 H locs hp6 hP hD hS => ?_)
  obtain ⟨eL7L, eL7T, eL7F⟩ := hp6
  have eL7L : L4 = L := eL7L
  rw [eL7L] at hP hD
  obtain ⟨zz8, zz9, zz10, hzz8, eL7T⟩ := eL7T
  have hT : TI g ad (gset (gset (gset th 37 zz8) 40 zz9) 41 zz10) f5 := eL7T
  have eL7F : ∀ b, b ≠ (ad 255) → f5 b = f b := eL7F
  have hfr : (∀ b, b ≠ (ad 255) → f5 b = f b) := fun b z0_ => (eL7F b z0_).trans (hfr b z0_)
  refine lv_aload_n hx hb dX11_digit_4 rfl (lv_at hl 0 rfl) ?_
  obtain ⟨v0_11, v2_11, v3_11, v4_11, v5_11, v6_11, v8_11, v9_11, v12_11, v13_11, v14_11, v15_11, v16_11, v17_11, v18_11, v19_11, v20_11, v21_11, v22_11, v23_11, v25_11, v36_11, v37_11, v38_11, v39_11, v40_11, v45_11, v46_11, v47_11, v48_11, v50_11, v51_11, v53_11, v55_11, hf12, hv0_11, hv2_11, hg2_11, hv3_11, hg3_11, hv4_11, hg4_11, hv5_11, hg5_11, hv6_11, hg6_11, hv8_11, hv9_11, hg9_11, hv12_11, hv13_11, hg13_11, hv14_11, hg14_11, hv15_11, hg15_11, hv17_11, hg17_11, hv20_11, hg20_11, hv23_11, hg23_11, hv25_11, hv36_11, hg36_11, hv47_11, hg47_11, hv48_11, hg48_11, hv53_11, hg53_11, hv55_11, hg55_11, hrel0_11⟩ := hT.2.2 0 (by decide)
  have hg2_11 : v2_11.toInt = th 13 := hg2_11
  have hg3_11 : v3_11.toInt = zz8 := hg3_11
  have hg4_11 : v4_11.toInt = th 42 := hg4_11
  have hg5_11 : v5_11.toInt = zz9 := hg5_11
  have hg6_11 : v6_11.toInt = zz10 := hg6_11
  have hg9_11 : v9_11.toInt = th 35 := hg9_11
  have hg13_11 : v13_11.toInt = th 36 := hg13_11
  have hg14_11 : v14_11.toInt = th 10 := hg14_11
  have hg15_11 : v15_11.toInt = th 11 := hg15_11
  have hg17_11 : v17_11.toInt = th 12 := hg17_11
  have hg20_11 : v20_11.toInt = th 14 := hg20_11
  have hg23_11 : v23_11.toInt = th 15 := hg23_11
  have hg36_11 : v36_11.toInt = th 18 := hg36_11
  have hg47_11 : v47_11.toInt = th 16 := hg47_11
  have hg48_11 : v48_11.toInt = th 17 := hg48_11
  have hg53_11 : v53_11.toInt = th 38 := hg53_11
  have hg55_11 : v55_11.toInt = th 39 := hg55_11
  refine pl_get (v := .int v6_11) hx hb hts (fun w h => mT (inX11 w h)) hown hG.1 hP (hst.1 255 (by decide)) hf12 rfl 6 (by decide) (hts _ (mT wg_1342)) (fun _ h => h) rfl dX11_digit_5 ?_
  refine lv_iconst (v := 1) hx hb dX11_digit_8 (by decide) ?_
  have hJ28 : ∀ (H : Heap) (locs : List Loc) (ls : Array Slot), va_P g.1 vwCl (va_pl L f5) H → va_D A (va_pl L f5) → va_S A s.heap H locs → lv_has ls 3 [(0, .ref (ad 255)), (1, .int 1), (2, .int 6)] → W p l e rm_X11_digit_1_6 s m [.ref (ad 255), .int 1, .int 6].toArray below meth c H locs 0 0 (MQ below (va_Qi (po_X11_digit_1_6 g ad th L f ) (PstB g A) A) [.ref (ad 255), .int 1, .int 6].toArray s rm_X11_digit_1_6.cells rm_X11_digit_1_6.slots A) (F0 m 28 ls []) := by
    intro H locs ls hP hD hS hl
    refine lv_aload_n hx hb dX11_digit_28 rfl (lv_at hl 0 rfl) ?_
    refine lv_aload_n hx hb dX11_digit_29 rfl (lv_at hl 0 rfl) ?_
    refine pl_get (v := .int v5_11) hx hb hts (fun w h => mT (inX11 w h)) hown hG.1 hP (hst.1 255 (by decide)) hf12 rfl 5 (by decide) (hts _ (mT wg_1341)) (fun _ h => h) rfl dX11_digit_30 ?_
    refine call_v (run_V (rm := rm_X11_fails) hx hb hml hown hts (s_X11_fails l g ad (gset (gset (gset th 37 zz8) 40 zz9) 41 zz10) _ _ _ v5_11 hst hT hv5_11) cV_X11_fails wg_1545 ⟨Nat.le_of_ble_eq_true rfl, Nat.le_of_ble_eq_true rfl⟩ hG hE hA hP hD hS (hst.1 255 (by decide)) hf12 rfl rfl hl.1 (As := [.int v5_11]) (rest := []) rfl (Nat.le_of_ble_eq_true rfl) dX11_digit_33 ⟨Nat.le_of_ble_eq_true rfl, Nat.le_of_ble_eq_true rfl⟩) hA hD hS (fun L14 f15 H locs hp16 hP hD hS => ?_)
    obtain ⟨eL17L, eL17T, eL17F⟩ := hp16
    have eL17L : L14 = L := eL17L
    rw [eL17L] at hP hD
    obtain ⟨zz18, hzz18, eL17T⟩ := eL17T
    have hT : TI g ad (gset (gset (gset (gset th 37 zz8) 40 zz9) 41 zz10) 42 zz18) f15 := eL17T
    have eL17F : ∀ b, b ≠ (ad 255) → f15 b = f5 b := eL17F
    have hfr : (∀ b, b ≠ (ad 255) → f15 b = f b) := fun b z0_ => (eL17F b z0_).trans (hfr b z0_)
    refine lv_iload_n hx hb dX11_digit_36 rfl (lv_at hl 1 rfl) ?_
    exact ret_i (ty := .int) hx hb hr hlocks (rfl) hP hD hS (Nat.le_of_ble_eq_true rfl) (Nat.le_of_ble_eq_true rfl) (⟨rfl, ⟨zz8, zz9, zz10, zz18, (show (th 37 ≤ zz9 ∧ 0 ≤ zz9 ∧ 0 ≤ zz10 ∧ zz9 + zz10 = zz8 ∧ zz8 ≤ 500) from (by have oc1 : (1 : Int32).toInt = 1 := (by decide); omega)), TI.cast hT (by funext q; simp only [gset]; (repeat' split); all_goals first | rfl | omega | (subst_vars; rfl) | (exfalso; omega))⟩, hfr, (⟨by decide, by decide⟩ : In 1 1 6)⟩) dX11_digit_37
  refine lv_icmp_ne (tgt := 28) hx hb dX11_digit_9 (by decide) (fun c19 => ?_) (fun c19 => ?_)
  ·
    have oc1 : (1 : Int32).toInt = 1 := by decide
    have cc20 : v6_11.toInt ≠ (1 : Int32).toInt := i32_ne c19
    exact hJ28 _ _ _ hP hD hS (lv_sub hl [0, 1, 2] rfl)
  ·
    have oc1 : (1 : Int32).toInt = 1 := by decide
    have cc21 : v6_11.toInt = (1 : Int32).toInt := congrArg Int32.toInt c19
    have hb22 : In v6_11 1 1 := In.eq1 hv6_11 (⟨by decide, by decide⟩ : In 1 1 1) cc21 (by omega) (by omega)
    refine lv_aload_n hx hb dX11_digit_12 rfl (lv_at hl 0 rfl) ?_
    refine lv_iconst (v := 0) hx hb dX11_digit_13 (by decide) ?_
    refine call_i (run_V (rm := rm_X11_digitAt) hx hb hml hown hts (s_X11_digitAt l g ad (gset (gset (gset th 37 zz8) 40 zz9) 41 zz10) _ _ _ 0 hst hT (⟨by decide, by decide⟩ : In 0 0 499) (show zz9 + (0 : Int32).toInt < 500 from (by have oc0 : (0 : Int32).toInt = 0 := (by decide); obtain ⟨o0a, o0b⟩ := (hv2_11 : In _ _ _); obtain ⟨o1a, o1b⟩ := (hv3_11 : In _ _ _); obtain ⟨o2a, o2b⟩ := (hv4_11 : In _ _ _); obtain ⟨o3a, o3b⟩ := (hv5_11 : In _ _ _); obtain ⟨o4a, o4b⟩ := (hb22 : In _ _ _); obtain ⟨o5a, o5b⟩ := (hv9_11 : In _ _ _); obtain ⟨o6a, o6b⟩ := (hv13_11 : In _ _ _); obtain ⟨o7a, o7b⟩ := (hv14_11 : In _ _ _); obtain ⟨o8a, o8b⟩ := (hv15_11 : In _ _ _); obtain ⟨o9a, o9b⟩ := (hv17_11 : In _ _ _); obtain ⟨o10a, o10b⟩ := (hv20_11 : In _ _ _); obtain ⟨o11a, o11b⟩ := (hv23_11 : In _ _ _); obtain ⟨o12a, o12b⟩ := (hv36_11 : In _ _ _); obtain ⟨o13a, o13b⟩ := (hv47_11 : In _ _ _); obtain ⟨o14a, o14b⟩ := (hv48_11 : In _ _ _); obtain ⟨o15a, o15b⟩ := (hv53_11 : In _ _ _); obtain ⟨o16a, o16b⟩ := (hv55_11 : In _ _ _); omega))) cV_X11_digitAt wg_1577 ⟨Nat.le_of_ble_eq_true rfl, Nat.le_of_ble_eq_true rfl⟩ hG hE hA hP hD hS (hst.1 255 (by decide)) hf12 rfl rfl hl.1 (As := [.int 0]) (rest := []) rfl (Nat.le_of_ble_eq_true rfl) dX11_digit_14 ⟨Nat.le_of_ble_eq_true rfl, Nat.le_of_ble_eq_true rfl⟩) hA hD hS (fun r23 L24 f25 H locs hp26 hP hD hS => ?_)
    obtain ⟨eL27L, eL27T, eL27R, eL27X0⟩ := hp26
    have eL27L : L24 = L := eL27L
    have eL27T : f25 = f5 := eL27T
    rw [eL27L, eL27T] at hP hD
    have eL27R : In r23 (-176) 79 := eL27R
    obtain ⟨rw28, hf29, hc30⟩ := hT.2.2 1 (by decide)
    have hda31 : r23.toInt = (rw28 (zz9 + 0).toNat).toInt - 48 := (eL27X0 _ hf29)
    refine lv_i2l hx hb dX11_digit_17 rfl ?_
    refine lv_iload_n hx hb dX11_digit_18 rfl (lv_at hl 1 rfl) ?_
    refine lv_i2l (v := 1) hx hb dX11_digit_19 (by decide) ?_
    refine lv_iload_n hx hb dX11_digit_20 rfl (lv_at hl 2 rfl) ?_
    refine lv_i2l (v := 6) hx hb dX11_digit_21 (by decide) ?_
    refine call_i (run_S (rm := rm_X11_isIn) hx hb hml hown hts (s_X11_isIn l g ad (gset (gset (gset th 37 zz8) 40 zz9) 41 zz10) _ _ _ (r23.toInt64) 1 6 hst hT ) cS_X11_isIn wg_1581 ⟨Nat.le_of_ble_eq_true rfl, Nat.le_of_ble_eq_true rfl⟩ hG hE hA hP hD hS rfl hl.1 (As := [.long (r23.toInt64), .long 1, .long 6]) (rest := []) rfl (Nat.le_of_ble_eq_true rfl) dX11_digit_22 ⟨Nat.le_of_ble_eq_true rfl, Nat.le_of_ble_eq_true rfl⟩) hA hD hS (fun r32 L33 f34 H locs hp35 hP hD hS => ?_)
    obtain ⟨eL36L, eL36T, eL36R, eL36X0⟩ := hp35
    have eL36L : L33 = L := eL36L
    have eL36T : f34 = f5 := eL36T
    rw [eL36L, eL36T] at hP hD
    have eL36R : In r32 0 1 := eL36R
    have hii37 : r32.toInt = 0 ∨ (1 ≤ r23.toInt ∧ r23.toInt ≤ 6) := by have z := eL36X0; rw [i2l_t r23, (by decide : (1 : Int64).toInt = 1), (by decide : (6 : Int64).toInt = 6)] at z; exact z
    have hii37w : ¬ r32 = 0 → In r23 1 6 := fun c => by have c2 := i32_ne c; have e0 : (0 : Int32).toInt = 0 := (by decide); exact ⟨by omega, by omega⟩
    refine lv_if_ne (tgt := 38) hx hb dX11_digit_25 (by decide) (fun c38 => ?_) (fun c38 => ?_)
    ·
      have oc0 : (0 : Int32).toInt = 0 := by decide
      have cc39 : r32.toInt ≠ (0 : Int32).toInt := i32_ne c38
      have hb40 : In r32 1 1 := In.ne1 eL36R (⟨by decide, by decide⟩ : In 0 0 0) cc39 (by omega) (by omega)
      have hb41 : In r23 1 6 := In.both (hii37w c38) eL27R (by decide) (by decide)
      refine lv_aload_n hx hb dX11_digit_38 rfl (lv_at hl 0 rfl) ?_
      refine lv_iconst (v := 0) hx hb dX11_digit_39 (by decide) ?_
      refine call_i (run_V (rm := rm_X11_digitAt) hx hb hml hown hts (s_X11_digitAt l g ad (gset (gset (gset th 37 zz8) 40 zz9) 41 zz10) _ _ _ 0 hst hT (⟨by decide, by decide⟩ : In 0 0 499) (show zz9 + (0 : Int32).toInt < 500 from (by have oc0 : (0 : Int32).toInt = 0 := (by decide); obtain ⟨o0a, o0b⟩ := (hv2_11 : In _ _ _); obtain ⟨o1a, o1b⟩ := (hv3_11 : In _ _ _); obtain ⟨o2a, o2b⟩ := (hv4_11 : In _ _ _); obtain ⟨o3a, o3b⟩ := (hv5_11 : In _ _ _); obtain ⟨o4a, o4b⟩ := (hb22 : In _ _ _); obtain ⟨o5a, o5b⟩ := (hv9_11 : In _ _ _); obtain ⟨o6a, o6b⟩ := (hv13_11 : In _ _ _); obtain ⟨o7a, o7b⟩ := (hv14_11 : In _ _ _); obtain ⟨o8a, o8b⟩ := (hv15_11 : In _ _ _); obtain ⟨o9a, o9b⟩ := (hv17_11 : In _ _ _); obtain ⟨o10a, o10b⟩ := (hv20_11 : In _ _ _); obtain ⟨o11a, o11b⟩ := (hv23_11 : In _ _ _); obtain ⟨o12a, o12b⟩ := (hv36_11 : In _ _ _); obtain ⟨o13a, o13b⟩ := (hv47_11 : In _ _ _); obtain ⟨o14a, o14b⟩ := (hv48_11 : In _ _ _); obtain ⟨o15a, o15b⟩ := (hv53_11 : In _ _ _); obtain ⟨o16a, o16b⟩ := (hv55_11 : In _ _ _); omega))) cV_X11_digitAt wg_1577 ⟨Nat.le_of_ble_eq_true rfl, Nat.le_of_ble_eq_true rfl⟩ hG hE hA hP hD hS (hst.1 255 (by decide)) hf12 rfl rfl hl.1 (As := [.int 0]) (rest := []) rfl (Nat.le_of_ble_eq_true rfl) dX11_digit_40 ⟨Nat.le_of_ble_eq_true rfl, Nat.le_of_ble_eq_true rfl⟩) hA hD hS (fun r42 L43 f44 H locs hp45 hP hD hS => ?_)
      obtain ⟨eL46L, eL46T, eL46R, eL46X0⟩ := hp45
      have eL46L : L43 = L := eL46L
      have eL46T : f44 = f5 := eL46T
      rw [eL46L, eL46T] at hP hD
      have eL46R : In r42 (-176) 79 := eL46R
      have hda47 : r42.toInt = (rw28 (zz9 + 0).toNat).toInt - 48 := (eL46X0 _ hf29)
      exact ret_i (ty := .int) hx hb hr hlocks (rfl) hP hD hS (Nat.le_of_ble_eq_true rfl) (Nat.le_of_ble_eq_true rfl) (⟨rfl, ⟨zz8, zz9, zz10, (th 42), (show (th 37 ≤ zz9 ∧ 0 ≤ zz9 ∧ 0 ≤ zz10 ∧ zz9 + zz10 = zz8 ∧ zz8 ≤ 500) from (by obtain ⟨o0a, o0b⟩ := (eL46R : In _ _ _); obtain ⟨o1a, o1b⟩ := (hv2_11 : In _ _ _); obtain ⟨o2a, o2b⟩ := (hv3_11 : In _ _ _); obtain ⟨o3a, o3b⟩ := (hv4_11 : In _ _ _); obtain ⟨o4a, o4b⟩ := (hv5_11 : In _ _ _); obtain ⟨o5a, o5b⟩ := (hb22 : In _ _ _); obtain ⟨o6a, o6b⟩ := (hv9_11 : In _ _ _); obtain ⟨o7a, o7b⟩ := (hv13_11 : In _ _ _); obtain ⟨o8a, o8b⟩ := (hv14_11 : In _ _ _); obtain ⟨o9a, o9b⟩ := (hv15_11 : In _ _ _); obtain ⟨o10a, o10b⟩ := (hv17_11 : In _ _ _); obtain ⟨o11a, o11b⟩ := (hv20_11 : In _ _ _); obtain ⟨o12a, o12b⟩ := (hv23_11 : In _ _ _); obtain ⟨o13a, o13b⟩ := (hv36_11 : In _ _ _); obtain ⟨o14a, o14b⟩ := (hv47_11 : In _ _ _); obtain ⟨o15a, o15b⟩ := (hv48_11 : In _ _ _); obtain ⟨o16a, o16b⟩ := (hv53_11 : In _ _ _); obtain ⟨o17a, o17b⟩ := (hv55_11 : In _ _ _); omega)), TI.cast hT (by funext q; simp only [gset]; (repeat' split); all_goals first | rfl | omega | (subst_vars; rfl) | (exfalso; omega))⟩, hfr, (In.mk (by obtain ⟨o0a, o0b⟩ := (eL46R : In _ _ _); obtain ⟨o1a, o1b⟩ := (hv2_11 : In _ _ _); obtain ⟨o2a, o2b⟩ := (hv3_11 : In _ _ _); obtain ⟨o3a, o3b⟩ := (hv4_11 : In _ _ _); obtain ⟨o4a, o4b⟩ := (hv5_11 : In _ _ _); obtain ⟨o5a, o5b⟩ := (hb22 : In _ _ _); obtain ⟨o6a, o6b⟩ := (hv9_11 : In _ _ _); obtain ⟨o7a, o7b⟩ := (hv13_11 : In _ _ _); obtain ⟨o8a, o8b⟩ := (hv14_11 : In _ _ _); obtain ⟨o9a, o9b⟩ := (hv15_11 : In _ _ _); obtain ⟨o10a, o10b⟩ := (hv17_11 : In _ _ _); obtain ⟨o11a, o11b⟩ := (hv20_11 : In _ _ _); obtain ⟨o12a, o12b⟩ := (hv23_11 : In _ _ _); obtain ⟨o13a, o13b⟩ := (hv36_11 : In _ _ _); obtain ⟨o14a, o14b⟩ := (hv47_11 : In _ _ _); obtain ⟨o15a, o15b⟩ := (hv48_11 : In _ _ _); obtain ⟨o16a, o16b⟩ := (hv53_11 : In _ _ _); obtain ⟨o17a, o17b⟩ := (hv55_11 : In _ _ _); omega) (by obtain ⟨o0a, o0b⟩ := (eL46R : In _ _ _); obtain ⟨o1a, o1b⟩ := (hv2_11 : In _ _ _); obtain ⟨o2a, o2b⟩ := (hv3_11 : In _ _ _); obtain ⟨o3a, o3b⟩ := (hv4_11 : In _ _ _); obtain ⟨o4a, o4b⟩ := (hv5_11 : In _ _ _); obtain ⟨o5a, o5b⟩ := (hb22 : In _ _ _); obtain ⟨o6a, o6b⟩ := (hv9_11 : In _ _ _); obtain ⟨o7a, o7b⟩ := (hv13_11 : In _ _ _); obtain ⟨o8a, o8b⟩ := (hv14_11 : In _ _ _); obtain ⟨o9a, o9b⟩ := (hv15_11 : In _ _ _); obtain ⟨o10a, o10b⟩ := (hv17_11 : In _ _ _); obtain ⟨o11a, o11b⟩ := (hv20_11 : In _ _ _); obtain ⟨o12a, o12b⟩ := (hv23_11 : In _ _ _); obtain ⟨o13a, o13b⟩ := (hv36_11 : In _ _ _); obtain ⟨o14a, o14b⟩ := (hv47_11 : In _ _ _); obtain ⟨o15a, o15b⟩ := (hv48_11 : In _ _ _); obtain ⟨o16a, o16b⟩ := (hv53_11 : In _ _ _); obtain ⟨o17a, o17b⟩ := (hv55_11 : In _ _ _); omega))⟩) dX11_digit_43
    ·
      have oc0 : (0 : Int32).toInt = 0 := by decide
      have cc48 : r32.toInt = (0 : Int32).toInt := congrArg Int32.toInt c38
      have hb49 : In r32 0 0 := In.eq1 eL36R (⟨by decide, by decide⟩ : In 0 0 0) cc48 (by omega) (by omega)
      exact hJ28 _ _ _ hP hD hS (lv_sub hl [0, 1, 2] rfl)

abbrev rm_X11_digit_0_5 : Room := { frames := 3, cells := 0, slots := 0, locals := 61 }
abbrev po_X11_digit_0_5 (g : GG) (ad : Nat → Nat) (th : Nat → Int) (L : List Nat) (f : HP)  : Int32 → (List Nat × HP) → Prop := fun r u => u.1 = L ∧ (∃ za zr zl ze : Int, ((th 37 ≤ zr ∧ 0 ≤ zr ∧ 0 ≤ zl ∧ zr + zl = za ∧ za ≤ 500)) ∧ TI g ad (gset (gset (gset (gset th 37 za) 40 zr) 41 zl) 42 ze) u.2) ∧ (∀ b, b ≠ (ad 255) → u.2 b = f b) ∧ In r 0 5
set_option maxHeartbeats 4000000 in
set_option maxRecDepth 100000 in
theorem s_X11_digit_0_5 (l : Launch) (g : GG) (ad : Nat → Nat) (th : Nat → Int) (L : List Nat) (f : HP) (sz : Nat)  (hst : ST ad L) (hT : TI g ad th f)  : MtI l g yX11_digit cX11_digit 3 (some .int) rm_X11_digit_0_5 [.ref (ad 255), .int 0, .int 5] L f sz (po_X11_digit_0_5 g ad th L f ) := by
  refine MtI.of (by decide +kernel) (Nat.le_of_ble_eq_true rfl) ?_
  intro p e s m below meth c A hEn hP hD hS ls hl
  obtain ⟨hx, hb, hr, hml, hown, hlocks, hts, hG, hA, hE, hnm⟩ := hEn
  have hown : s.vm.findClass "RulerWordModel" = some m.cls := hown
  have hl : lv_has ls 3 [(0, .ref (ad 255)), (1, .int 0), (2, .int 5)] := hl
  have hfr : (∀ b, b ≠ (ad 255) → f b = f b) := fun b z0_ => rfl
  refine lv_aload_n hx hb dX11_digit_0 rfl (lv_at hl 0 rfl) ?_
  obtain ⟨v0_1, v2_1, v3_1, v4_1, v5_1, v6_1, v8_1, v9_1, v12_1, v13_1, v14_1, v15_1, v16_1, v17_1, v18_1, v19_1, v20_1, v21_1, v22_1, v23_1, v25_1, v36_1, v37_1, v38_1, v39_1, v40_1, v45_1, v46_1, v47_1, v48_1, v50_1, v51_1, v53_1, v55_1, hf2, hv0_1, hv2_1, hg2_1, hv3_1, hg3_1, hv4_1, hg4_1, hv5_1, hg5_1, hv6_1, hg6_1, hv8_1, hv9_1, hg9_1, hv12_1, hv13_1, hg13_1, hv14_1, hg14_1, hv15_1, hg15_1, hv17_1, hg17_1, hv20_1, hg20_1, hv23_1, hg23_1, hv25_1, hv36_1, hg36_1, hv47_1, hg47_1, hv48_1, hg48_1, hv53_1, hg53_1, hv55_1, hg55_1, hrel0_1⟩ := hT.2.2 0 (by decide)
  refine call_v (run_V (rm := rm_X11_digits) hx hb hml hown hts (s_X11_digits l g ad th _ _ _  hst hT ) cV_X11_digits wg_1570 ⟨Nat.le_of_ble_eq_true rfl, Nat.le_of_ble_eq_true rfl⟩ hG hE hA hP hD hS (hst.1 255 (by decide)) hf2 rfl rfl hl.1 (As := []) (rest := []) rfl (Nat.le_of_ble_eq_true rfl) dX11_digit_1 ⟨Nat.le_of_ble_eq_true rfl, Nat.le_of_ble_eq_true rfl⟩) hA hD hS (fun L4 f5 H locs hp6 hP hD hS => ?_)
  obtain ⟨eL7L, eL7T, eL7F⟩ := hp6
  have eL7L : L4 = L := eL7L
  rw [eL7L] at hP hD
  obtain ⟨zz8, zz9, zz10, hzz8, eL7T⟩ := eL7T
  have hT : TI g ad (gset (gset (gset th 37 zz8) 40 zz9) 41 zz10) f5 := eL7T
  have eL7F : ∀ b, b ≠ (ad 255) → f5 b = f b := eL7F
  have hfr : (∀ b, b ≠ (ad 255) → f5 b = f b) := fun b z0_ => (eL7F b z0_).trans (hfr b z0_)
  refine lv_aload_n hx hb dX11_digit_4 rfl (lv_at hl 0 rfl) ?_
  obtain ⟨v0_11, v2_11, v3_11, v4_11, v5_11, v6_11, v8_11, v9_11, v12_11, v13_11, v14_11, v15_11, v16_11, v17_11, v18_11, v19_11, v20_11, v21_11, v22_11, v23_11, v25_11, v36_11, v37_11, v38_11, v39_11, v40_11, v45_11, v46_11, v47_11, v48_11, v50_11, v51_11, v53_11, v55_11, hf12, hv0_11, hv2_11, hg2_11, hv3_11, hg3_11, hv4_11, hg4_11, hv5_11, hg5_11, hv6_11, hg6_11, hv8_11, hv9_11, hg9_11, hv12_11, hv13_11, hg13_11, hv14_11, hg14_11, hv15_11, hg15_11, hv17_11, hg17_11, hv20_11, hg20_11, hv23_11, hg23_11, hv25_11, hv36_11, hg36_11, hv47_11, hg47_11, hv48_11, hg48_11, hv53_11, hg53_11, hv55_11, hg55_11, hrel0_11⟩ := hT.2.2 0 (by decide)
  have hg2_11 : v2_11.toInt = th 13 := hg2_11
  have hg3_11 : v3_11.toInt = zz8 := hg3_11
  have hg4_11 : v4_11.toInt = th 42 := hg4_11
  have hg5_11 : v5_11.toInt = zz9 := hg5_11
  have hg6_11 : v6_11.toInt = zz10 := hg6_11
  have hg9_11 : v9_11.toInt = th 35 := hg9_11
  have hg13_11 : v13_11.toInt = th 36 := hg13_11
  have hg14_11 : v14_11.toInt = th 10 := hg14_11
  have hg15_11 : v15_11.toInt = th 11 := hg15_11
  have hg17_11 : v17_11.toInt = th 12 := hg17_11
  have hg20_11 : v20_11.toInt = th 14 := hg20_11
  have hg23_11 : v23_11.toInt = th 15 := hg23_11
  have hg36_11 : v36_11.toInt = th 18 := hg36_11
  have hg47_11 : v47_11.toInt = th 16 := hg47_11
  have hg48_11 : v48_11.toInt = th 17 := hg48_11
  have hg53_11 : v53_11.toInt = th 38 := hg53_11
  have hg55_11 : v55_11.toInt = th 39 := hg55_11
  refine pl_get (v := .int v6_11) hx hb hts (fun w h => mT (inX11 w h)) hown hG.1 hP (hst.1 255 (by decide)) hf12 rfl 6 (by decide) (hts _ (mT wg_1342)) (fun _ h => h) rfl dX11_digit_5 ?_
  refine lv_iconst (v := 1) hx hb dX11_digit_8 (by decide) ?_
  have hJ28 : ∀ (H : Heap) (locs : List Loc) (ls : Array Slot), va_P g.1 vwCl (va_pl L f5) H → va_D A (va_pl L f5) → va_S A s.heap H locs → lv_has ls 3 [(0, .ref (ad 255)), (1, .int 0), (2, .int 5)] → W p l e rm_X11_digit_0_5 s m [.ref (ad 255), .int 0, .int 5].toArray below meth c H locs 0 0 (MQ below (va_Qi (po_X11_digit_0_5 g ad th L f ) (PstB g A) A) [.ref (ad 255), .int 0, .int 5].toArray s rm_X11_digit_0_5.cells rm_X11_digit_0_5.slots A) (F0 m 28 ls []) := by
    intro H locs ls hP hD hS hl
    refine lv_aload_n hx hb dX11_digit_28 rfl (lv_at hl 0 rfl) ?_
    refine lv_aload_n hx hb dX11_digit_29 rfl (lv_at hl 0 rfl) ?_
    refine pl_get (v := .int v5_11) hx hb hts (fun w h => mT (inX11 w h)) hown hG.1 hP (hst.1 255 (by decide)) hf12 rfl 5 (by decide) (hts _ (mT wg_1341)) (fun _ h => h) rfl dX11_digit_30 ?_
    refine call_v (run_V (rm := rm_X11_fails) hx hb hml hown hts (s_X11_fails l g ad (gset (gset (gset th 37 zz8) 40 zz9) 41 zz10) _ _ _ v5_11 hst hT hv5_11) cV_X11_fails wg_1545 ⟨Nat.le_of_ble_eq_true rfl, Nat.le_of_ble_eq_true rfl⟩ hG hE hA hP hD hS (hst.1 255 (by decide)) hf12 rfl rfl hl.1 (As := [.int v5_11]) (rest := []) rfl (Nat.le_of_ble_eq_true rfl) dX11_digit_33 ⟨Nat.le_of_ble_eq_true rfl, Nat.le_of_ble_eq_true rfl⟩) hA hD hS (fun L14 f15 H locs hp16 hP hD hS => ?_)
    obtain ⟨eL17L, eL17T, eL17F⟩ := hp16
    have eL17L : L14 = L := eL17L
    rw [eL17L] at hP hD
    obtain ⟨zz18, hzz18, eL17T⟩ := eL17T
    have hT : TI g ad (gset (gset (gset (gset th 37 zz8) 40 zz9) 41 zz10) 42 zz18) f15 := eL17T
    have eL17F : ∀ b, b ≠ (ad 255) → f15 b = f5 b := eL17F
    have hfr : (∀ b, b ≠ (ad 255) → f15 b = f b) := fun b z0_ => (eL17F b z0_).trans (hfr b z0_)
    refine lv_iload_n hx hb dX11_digit_36 rfl (lv_at hl 1 rfl) ?_
    exact ret_i (ty := .int) hx hb hr hlocks (rfl) hP hD hS (Nat.le_of_ble_eq_true rfl) (Nat.le_of_ble_eq_true rfl) (⟨rfl, ⟨zz8, zz9, zz10, zz18, (show (th 37 ≤ zz9 ∧ 0 ≤ zz9 ∧ 0 ≤ zz10 ∧ zz9 + zz10 = zz8 ∧ zz8 ≤ 500) from (by have oc0 : (0 : Int32).toInt = 0 := (by decide); omega)), TI.cast hT (by funext q; simp only [gset]; (repeat' split); all_goals first | rfl | omega | (subst_vars; rfl) | (exfalso; omega))⟩, hfr, (⟨by decide, by decide⟩ : In 0 0 5)⟩) dX11_digit_37
  refine lv_icmp_ne (tgt := 28) hx hb dX11_digit_9 (by decide) (fun c19 => ?_) (fun c19 => ?_)
  ·
    have oc1 : (1 : Int32).toInt = 1 := by decide
    have cc20 : v6_11.toInt ≠ (1 : Int32).toInt := i32_ne c19
    exact hJ28 _ _ _ hP hD hS (lv_sub hl [0, 1, 2] rfl)
  ·
    have oc1 : (1 : Int32).toInt = 1 := by decide
    have cc21 : v6_11.toInt = (1 : Int32).toInt := congrArg Int32.toInt c19
    have hb22 : In v6_11 1 1 := In.eq1 hv6_11 (⟨by decide, by decide⟩ : In 1 1 1) cc21 (by omega) (by omega)
    refine lv_aload_n hx hb dX11_digit_12 rfl (lv_at hl 0 rfl) ?_
    refine lv_iconst (v := 0) hx hb dX11_digit_13 (by decide) ?_
    refine call_i (run_V (rm := rm_X11_digitAt) hx hb hml hown hts (s_X11_digitAt l g ad (gset (gset (gset th 37 zz8) 40 zz9) 41 zz10) _ _ _ 0 hst hT (⟨by decide, by decide⟩ : In 0 0 499) (show zz9 + (0 : Int32).toInt < 500 from (by have oc0 : (0 : Int32).toInt = 0 := (by decide); obtain ⟨o0a, o0b⟩ := (hv2_11 : In _ _ _); obtain ⟨o1a, o1b⟩ := (hv3_11 : In _ _ _); obtain ⟨o2a, o2b⟩ := (hv4_11 : In _ _ _); obtain ⟨o3a, o3b⟩ := (hv5_11 : In _ _ _); obtain ⟨o4a, o4b⟩ := (hb22 : In _ _ _); obtain ⟨o5a, o5b⟩ := (hv9_11 : In _ _ _); obtain ⟨o6a, o6b⟩ := (hv13_11 : In _ _ _); obtain ⟨o7a, o7b⟩ := (hv14_11 : In _ _ _); obtain ⟨o8a, o8b⟩ := (hv15_11 : In _ _ _); obtain ⟨o9a, o9b⟩ := (hv17_11 : In _ _ _); obtain ⟨o10a, o10b⟩ := (hv20_11 : In _ _ _); obtain ⟨o11a, o11b⟩ := (hv23_11 : In _ _ _); obtain ⟨o12a, o12b⟩ := (hv36_11 : In _ _ _); obtain ⟨o13a, o13b⟩ := (hv47_11 : In _ _ _); obtain ⟨o14a, o14b⟩ := (hv48_11 : In _ _ _); obtain ⟨o15a, o15b⟩ := (hv53_11 : In _ _ _); obtain ⟨o16a, o16b⟩ := (hv55_11 : In _ _ _); omega))) cV_X11_digitAt wg_1577 ⟨Nat.le_of_ble_eq_true rfl, Nat.le_of_ble_eq_true rfl⟩ hG hE hA hP hD hS (hst.1 255 (by decide)) hf12 rfl rfl hl.1 (As := [.int 0]) (rest := []) rfl (Nat.le_of_ble_eq_true rfl) dX11_digit_14 ⟨Nat.le_of_ble_eq_true rfl, Nat.le_of_ble_eq_true rfl⟩) hA hD hS (fun r23 L24 f25 H locs hp26 hP hD hS => ?_)
    obtain ⟨eL27L, eL27T, eL27R, eL27X0⟩ := hp26
    have eL27L : L24 = L := eL27L
    have eL27T : f25 = f5 := eL27T
    rw [eL27L, eL27T] at hP hD
    have eL27R : In r23 (-176) 79 := eL27R
    obtain ⟨rw28, hf29, hc30⟩ := hT.2.2 1 (by decide)
    have hda31 : r23.toInt = (rw28 (zz9 + 0).toNat).toInt - 48 := (eL27X0 _ hf29)
    refine lv_i2l hx hb dX11_digit_17 rfl ?_
    refine lv_iload_n hx hb dX11_digit_18 rfl (lv_at hl 1 rfl) ?_
    refine lv_i2l (v := 0) hx hb dX11_digit_19 (by decide) ?_
    refine lv_iload_n hx hb dX11_digit_20 rfl (lv_at hl 2 rfl) ?_
    refine lv_i2l (v := 5) hx hb dX11_digit_21 (by decide) ?_
    refine call_i (run_S (rm := rm_X11_isIn) hx hb hml hown hts (s_X11_isIn l g ad (gset (gset (gset th 37 zz8) 40 zz9) 41 zz10) _ _ _ (r23.toInt64) 0 5 hst hT ) cS_X11_isIn wg_1581 ⟨Nat.le_of_ble_eq_true rfl, Nat.le_of_ble_eq_true rfl⟩ hG hE hA hP hD hS rfl hl.1 (As := [.long (r23.toInt64), .long 0, .long 5]) (rest := []) rfl (Nat.le_of_ble_eq_true rfl) dX11_digit_22 ⟨Nat.le_of_ble_eq_true rfl, Nat.le_of_ble_eq_true rfl⟩) hA hD hS (fun r32 L33 f34 H locs hp35 hP hD hS => ?_)
    obtain ⟨eL36L, eL36T, eL36R, eL36X0⟩ := hp35
    have eL36L : L33 = L := eL36L
    have eL36T : f34 = f5 := eL36T
    rw [eL36L, eL36T] at hP hD
    have eL36R : In r32 0 1 := eL36R
    have hii37 : r32.toInt = 0 ∨ (0 ≤ r23.toInt ∧ r23.toInt ≤ 5) := by have z := eL36X0; rw [i2l_t r23, (by decide : (0 : Int64).toInt = 0), (by decide : (5 : Int64).toInt = 5)] at z; exact z
    have hii37w : ¬ r32 = 0 → In r23 0 5 := fun c => by have c2 := i32_ne c; have e0 : (0 : Int32).toInt = 0 := (by decide); exact ⟨by omega, by omega⟩
    refine lv_if_ne (tgt := 38) hx hb dX11_digit_25 (by decide) (fun c38 => ?_) (fun c38 => ?_)
    ·
      have oc0 : (0 : Int32).toInt = 0 := by decide
      have cc39 : r32.toInt ≠ (0 : Int32).toInt := i32_ne c38
      have hb40 : In r32 1 1 := In.ne1 eL36R (⟨by decide, by decide⟩ : In 0 0 0) cc39 (by omega) (by omega)
      have hb41 : In r23 0 5 := In.both (hii37w c38) eL27R (by decide) (by decide)
      refine lv_aload_n hx hb dX11_digit_38 rfl (lv_at hl 0 rfl) ?_
      refine lv_iconst (v := 0) hx hb dX11_digit_39 (by decide) ?_
      refine call_i (run_V (rm := rm_X11_digitAt) hx hb hml hown hts (s_X11_digitAt l g ad (gset (gset (gset th 37 zz8) 40 zz9) 41 zz10) _ _ _ 0 hst hT (⟨by decide, by decide⟩ : In 0 0 499) (show zz9 + (0 : Int32).toInt < 500 from (by have oc0 : (0 : Int32).toInt = 0 := (by decide); obtain ⟨o0a, o0b⟩ := (hv2_11 : In _ _ _); obtain ⟨o1a, o1b⟩ := (hv3_11 : In _ _ _); obtain ⟨o2a, o2b⟩ := (hv4_11 : In _ _ _); obtain ⟨o3a, o3b⟩ := (hv5_11 : In _ _ _); obtain ⟨o4a, o4b⟩ := (hb22 : In _ _ _); obtain ⟨o5a, o5b⟩ := (hv9_11 : In _ _ _); obtain ⟨o6a, o6b⟩ := (hv13_11 : In _ _ _); obtain ⟨o7a, o7b⟩ := (hv14_11 : In _ _ _); obtain ⟨o8a, o8b⟩ := (hv15_11 : In _ _ _); obtain ⟨o9a, o9b⟩ := (hv17_11 : In _ _ _); obtain ⟨o10a, o10b⟩ := (hv20_11 : In _ _ _); obtain ⟨o11a, o11b⟩ := (hv23_11 : In _ _ _); obtain ⟨o12a, o12b⟩ := (hv36_11 : In _ _ _); obtain ⟨o13a, o13b⟩ := (hv47_11 : In _ _ _); obtain ⟨o14a, o14b⟩ := (hv48_11 : In _ _ _); obtain ⟨o15a, o15b⟩ := (hv53_11 : In _ _ _); obtain ⟨o16a, o16b⟩ := (hv55_11 : In _ _ _); omega))) cV_X11_digitAt wg_1577 ⟨Nat.le_of_ble_eq_true rfl, Nat.le_of_ble_eq_true rfl⟩ hG hE hA hP hD hS (hst.1 255 (by decide)) hf12 rfl rfl hl.1 (As := [.int 0]) (rest := []) rfl (Nat.le_of_ble_eq_true rfl) dX11_digit_40 ⟨Nat.le_of_ble_eq_true rfl, Nat.le_of_ble_eq_true rfl⟩) hA hD hS (fun r42 L43 f44 H locs hp45 hP hD hS => ?_)
      obtain ⟨eL46L, eL46T, eL46R, eL46X0⟩ := hp45
      have eL46L : L43 = L := eL46L
      have eL46T : f44 = f5 := eL46T
      rw [eL46L, eL46T] at hP hD
      have eL46R : In r42 (-176) 79 := eL46R
      have hda47 : r42.toInt = (rw28 (zz9 + 0).toNat).toInt - 48 := (eL46X0 _ hf29)
      exact ret_i (ty := .int) hx hb hr hlocks (rfl) hP hD hS (Nat.le_of_ble_eq_true rfl) (Nat.le_of_ble_eq_true rfl) (⟨rfl, ⟨zz8, zz9, zz10, (th 42), (show (th 37 ≤ zz9 ∧ 0 ≤ zz9 ∧ 0 ≤ zz10 ∧ zz9 + zz10 = zz8 ∧ zz8 ≤ 500) from (by obtain ⟨o0a, o0b⟩ := (eL46R : In _ _ _); obtain ⟨o1a, o1b⟩ := (hv2_11 : In _ _ _); obtain ⟨o2a, o2b⟩ := (hv3_11 : In _ _ _); obtain ⟨o3a, o3b⟩ := (hv4_11 : In _ _ _); obtain ⟨o4a, o4b⟩ := (hv5_11 : In _ _ _); obtain ⟨o5a, o5b⟩ := (hb22 : In _ _ _); obtain ⟨o6a, o6b⟩ := (hv9_11 : In _ _ _); obtain ⟨o7a, o7b⟩ := (hv13_11 : In _ _ _); obtain ⟨o8a, o8b⟩ := (hv14_11 : In _ _ _); obtain ⟨o9a, o9b⟩ := (hv15_11 : In _ _ _); obtain ⟨o10a, o10b⟩ := (hv17_11 : In _ _ _); obtain ⟨o11a, o11b⟩ := (hv20_11 : In _ _ _); obtain ⟨o12a, o12b⟩ := (hv23_11 : In _ _ _); obtain ⟨o13a, o13b⟩ := (hv36_11 : In _ _ _); obtain ⟨o14a, o14b⟩ := (hv47_11 : In _ _ _); obtain ⟨o15a, o15b⟩ := (hv48_11 : In _ _ _); obtain ⟨o16a, o16b⟩ := (hv53_11 : In _ _ _); obtain ⟨o17a, o17b⟩ := (hv55_11 : In _ _ _); omega)), TI.cast hT (by funext q; simp only [gset]; (repeat' split); all_goals first | rfl | omega | (subst_vars; rfl) | (exfalso; omega))⟩, hfr, (In.mk (by obtain ⟨o0a, o0b⟩ := (eL46R : In _ _ _); obtain ⟨o1a, o1b⟩ := (hv2_11 : In _ _ _); obtain ⟨o2a, o2b⟩ := (hv3_11 : In _ _ _); obtain ⟨o3a, o3b⟩ := (hv4_11 : In _ _ _); obtain ⟨o4a, o4b⟩ := (hv5_11 : In _ _ _); obtain ⟨o5a, o5b⟩ := (hb22 : In _ _ _); obtain ⟨o6a, o6b⟩ := (hv9_11 : In _ _ _); obtain ⟨o7a, o7b⟩ := (hv13_11 : In _ _ _); obtain ⟨o8a, o8b⟩ := (hv14_11 : In _ _ _); obtain ⟨o9a, o9b⟩ := (hv15_11 : In _ _ _); obtain ⟨o10a, o10b⟩ := (hv17_11 : In _ _ _); obtain ⟨o11a, o11b⟩ := (hv20_11 : In _ _ _); obtain ⟨o12a, o12b⟩ := (hv23_11 : In _ _ _); obtain ⟨o13a, o13b⟩ := (hv36_11 : In _ _ _); obtain ⟨o14a, o14b⟩ := (hv47_11 : In _ _ _); obtain ⟨o15a, o15b⟩ := (hv48_11 : In _ _ _); obtain ⟨o16a, o16b⟩ := (hv53_11 : In _ _ _); obtain ⟨o17a, o17b⟩ := (hv55_11 : In _ _ _); omega) (by obtain ⟨o0a, o0b⟩ := (eL46R : In _ _ _); obtain ⟨o1a, o1b⟩ := (hv2_11 : In _ _ _); obtain ⟨o2a, o2b⟩ := (hv3_11 : In _ _ _); obtain ⟨o3a, o3b⟩ := (hv4_11 : In _ _ _); obtain ⟨o4a, o4b⟩ := (hv5_11 : In _ _ _); obtain ⟨o5a, o5b⟩ := (hb22 : In _ _ _); obtain ⟨o6a, o6b⟩ := (hv9_11 : In _ _ _); obtain ⟨o7a, o7b⟩ := (hv13_11 : In _ _ _); obtain ⟨o8a, o8b⟩ := (hv14_11 : In _ _ _); obtain ⟨o9a, o9b⟩ := (hv15_11 : In _ _ _); obtain ⟨o10a, o10b⟩ := (hv17_11 : In _ _ _); obtain ⟨o11a, o11b⟩ := (hv20_11 : In _ _ _); obtain ⟨o12a, o12b⟩ := (hv23_11 : In _ _ _); obtain ⟨o13a, o13b⟩ := (hv36_11 : In _ _ _); obtain ⟨o14a, o14b⟩ := (hv47_11 : In _ _ _); obtain ⟨o15a, o15b⟩ := (hv48_11 : In _ _ _); obtain ⟨o16a, o16b⟩ := (hv53_11 : In _ _ _); obtain ⟨o17a, o17b⟩ := (hv55_11 : In _ _ _); omega))⟩) dX11_digit_43
    ·
      have oc0 : (0 : Int32).toInt = 0 := by decide
      have cc48 : r32.toInt = (0 : Int32).toInt := congrArg Int32.toInt c38
      have hb49 : In r32 0 0 := In.eq1 eL36R (⟨by decide, by decide⟩ : In 0 0 0) cc48 (by omega) (by omega)
      exact hJ28 _ _ _ hP hD hS (lv_sub hl [0, 1, 2] rfl)

abbrev rm_X11_digit_0_2 : Room := { frames := 3, cells := 0, slots := 0, locals := 61 }
abbrev po_X11_digit_0_2 (g : GG) (ad : Nat → Nat) (th : Nat → Int) (L : List Nat) (f : HP)  : Int32 → (List Nat × HP) → Prop := fun r u => u.1 = L ∧ (∃ za zr zl ze : Int, ((th 37 ≤ zr ∧ 0 ≤ zr ∧ 0 ≤ zl ∧ zr + zl = za ∧ za ≤ 500)) ∧ TI g ad (gset (gset (gset (gset th 37 za) 40 zr) 41 zl) 42 ze) u.2) ∧ (∀ b, b ≠ (ad 255) → u.2 b = f b) ∧ In r 0 2
set_option maxHeartbeats 4000000 in
set_option maxRecDepth 100000 in
theorem s_X11_digit_0_2 (l : Launch) (g : GG) (ad : Nat → Nat) (th : Nat → Int) (L : List Nat) (f : HP) (sz : Nat)  (hst : ST ad L) (hT : TI g ad th f)  : MtI l g yX11_digit cX11_digit 3 (some .int) rm_X11_digit_0_2 [.ref (ad 255), .int 0, .int 2] L f sz (po_X11_digit_0_2 g ad th L f ) := by
  refine MtI.of (by decide +kernel) (Nat.le_of_ble_eq_true rfl) ?_
  intro p e s m below meth c A hEn hP hD hS ls hl
  obtain ⟨hx, hb, hr, hml, hown, hlocks, hts, hG, hA, hE, hnm⟩ := hEn
  have hown : s.vm.findClass "RulerWordModel" = some m.cls := hown
  have hl : lv_has ls 3 [(0, .ref (ad 255)), (1, .int 0), (2, .int 2)] := hl
  have hfr : (∀ b, b ≠ (ad 255) → f b = f b) := fun b z0_ => rfl
  refine lv_aload_n hx hb dX11_digit_0 rfl (lv_at hl 0 rfl) ?_
  obtain ⟨v0_1, v2_1, v3_1, v4_1, v5_1, v6_1, v8_1, v9_1, v12_1, v13_1, v14_1, v15_1, v16_1, v17_1, v18_1, v19_1, v20_1, v21_1, v22_1, v23_1, v25_1, v36_1, v37_1, v38_1, v39_1, v40_1, v45_1, v46_1, v47_1, v48_1, v50_1, v51_1, v53_1, v55_1, hf2, hv0_1, hv2_1, hg2_1, hv3_1, hg3_1, hv4_1, hg4_1, hv5_1, hg5_1, hv6_1, hg6_1, hv8_1, hv9_1, hg9_1, hv12_1, hv13_1, hg13_1, hv14_1, hg14_1, hv15_1, hg15_1, hv17_1, hg17_1, hv20_1, hg20_1, hv23_1, hg23_1, hv25_1, hv36_1, hg36_1, hv47_1, hg47_1, hv48_1, hg48_1, hv53_1, hg53_1, hv55_1, hg55_1, hrel0_1⟩ := hT.2.2 0 (by decide)
  refine call_v (run_V (rm := rm_X11_digits) hx hb hml hown hts (s_X11_digits l g ad th _ _ _  hst hT ) cV_X11_digits wg_1570 ⟨Nat.le_of_ble_eq_true rfl, Nat.le_of_ble_eq_true rfl⟩ hG hE hA hP hD hS (hst.1 255 (by decide)) hf2 rfl rfl hl.1 (As := []) (rest := []) rfl (Nat.le_of_ble_eq_true rfl) dX11_digit_1 ⟨Nat.le_of_ble_eq_true rfl, Nat.le_of_ble_eq_true rfl⟩) hA hD hS (fun L4 f5 H locs hp6 hP hD hS => ?_)
  obtain ⟨eL7L, eL7T, eL7F⟩ := hp6
  have eL7L : L4 = L := eL7L
  rw [eL7L] at hP hD
  obtain ⟨zz8, zz9, zz10, hzz8, eL7T⟩ := eL7T
  have hT : TI g ad (gset (gset (gset th 37 zz8) 40 zz9) 41 zz10) f5 := eL7T
  have eL7F : ∀ b, b ≠ (ad 255) → f5 b = f b := eL7F
  have hfr : (∀ b, b ≠ (ad 255) → f5 b = f b) := fun b z0_ => (eL7F b z0_).trans (hfr b z0_)
  refine lv_aload_n hx hb dX11_digit_4 rfl (lv_at hl 0 rfl) ?_
  obtain ⟨v0_11, v2_11, v3_11, v4_11, v5_11, v6_11, v8_11, v9_11, v12_11, v13_11, v14_11, v15_11, v16_11, v17_11, v18_11, v19_11, v20_11, v21_11, v22_11, v23_11, v25_11, v36_11, v37_11, v38_11, v39_11, v40_11, v45_11, v46_11, v47_11, v48_11, v50_11, v51_11, v53_11, v55_11, hf12, hv0_11, hv2_11, hg2_11, hv3_11, hg3_11, hv4_11, hg4_11, hv5_11, hg5_11, hv6_11, hg6_11, hv8_11, hv9_11, hg9_11, hv12_11, hv13_11, hg13_11, hv14_11, hg14_11, hv15_11, hg15_11, hv17_11, hg17_11, hv20_11, hg20_11, hv23_11, hg23_11, hv25_11, hv36_11, hg36_11, hv47_11, hg47_11, hv48_11, hg48_11, hv53_11, hg53_11, hv55_11, hg55_11, hrel0_11⟩ := hT.2.2 0 (by decide)
  have hg2_11 : v2_11.toInt = th 13 := hg2_11
  have hg3_11 : v3_11.toInt = zz8 := hg3_11
  have hg4_11 : v4_11.toInt = th 42 := hg4_11
  have hg5_11 : v5_11.toInt = zz9 := hg5_11
  have hg6_11 : v6_11.toInt = zz10 := hg6_11
  have hg9_11 : v9_11.toInt = th 35 := hg9_11
  have hg13_11 : v13_11.toInt = th 36 := hg13_11
  have hg14_11 : v14_11.toInt = th 10 := hg14_11
  have hg15_11 : v15_11.toInt = th 11 := hg15_11
  have hg17_11 : v17_11.toInt = th 12 := hg17_11
  have hg20_11 : v20_11.toInt = th 14 := hg20_11
  have hg23_11 : v23_11.toInt = th 15 := hg23_11
  have hg36_11 : v36_11.toInt = th 18 := hg36_11
  have hg47_11 : v47_11.toInt = th 16 := hg47_11
  have hg48_11 : v48_11.toInt = th 17 := hg48_11
  have hg53_11 : v53_11.toInt = th 38 := hg53_11
  have hg55_11 : v55_11.toInt = th 39 := hg55_11
  refine pl_get (v := .int v6_11) hx hb hts (fun w h => mT (inX11 w h)) hown hG.1 hP (hst.1 255 (by decide)) hf12 rfl 6 (by decide) (hts _ (mT wg_1342)) (fun _ h => h) rfl dX11_digit_5 ?_
  refine lv_iconst (v := 1) hx hb dX11_digit_8 (by decide) ?_
  have hJ28 : ∀ (H : Heap) (locs : List Loc) (ls : Array Slot), va_P g.1 vwCl (va_pl L f5) H → va_D A (va_pl L f5) → va_S A s.heap H locs → lv_has ls 3 [(0, .ref (ad 255)), (1, .int 0), (2, .int 2)] → W p l e rm_X11_digit_0_2 s m [.ref (ad 255), .int 0, .int 2].toArray below meth c H locs 0 0 (MQ below (va_Qi (po_X11_digit_0_2 g ad th L f ) (PstB g A) A) [.ref (ad 255), .int 0, .int 2].toArray s rm_X11_digit_0_2.cells rm_X11_digit_0_2.slots A) (F0 m 28 ls []) := by
    intro H locs ls hP hD hS hl
    refine lv_aload_n hx hb dX11_digit_28 rfl (lv_at hl 0 rfl) ?_
    refine lv_aload_n hx hb dX11_digit_29 rfl (lv_at hl 0 rfl) ?_
    refine pl_get (v := .int v5_11) hx hb hts (fun w h => mT (inX11 w h)) hown hG.1 hP (hst.1 255 (by decide)) hf12 rfl 5 (by decide) (hts _ (mT wg_1341)) (fun _ h => h) rfl dX11_digit_30 ?_
    refine call_v (run_V (rm := rm_X11_fails) hx hb hml hown hts (s_X11_fails l g ad (gset (gset (gset th 37 zz8) 40 zz9) 41 zz10) _ _ _ v5_11 hst hT hv5_11) cV_X11_fails wg_1545 ⟨Nat.le_of_ble_eq_true rfl, Nat.le_of_ble_eq_true rfl⟩ hG hE hA hP hD hS (hst.1 255 (by decide)) hf12 rfl rfl hl.1 (As := [.int v5_11]) (rest := []) rfl (Nat.le_of_ble_eq_true rfl) dX11_digit_33 ⟨Nat.le_of_ble_eq_true rfl, Nat.le_of_ble_eq_true rfl⟩) hA hD hS (fun L14 f15 H locs hp16 hP hD hS => ?_)
    obtain ⟨eL17L, eL17T, eL17F⟩ := hp16
    have eL17L : L14 = L := eL17L
    rw [eL17L] at hP hD
    obtain ⟨zz18, hzz18, eL17T⟩ := eL17T
    have hT : TI g ad (gset (gset (gset (gset th 37 zz8) 40 zz9) 41 zz10) 42 zz18) f15 := eL17T
    have eL17F : ∀ b, b ≠ (ad 255) → f15 b = f5 b := eL17F
    have hfr : (∀ b, b ≠ (ad 255) → f15 b = f b) := fun b z0_ => (eL17F b z0_).trans (hfr b z0_)
    refine lv_iload_n hx hb dX11_digit_36 rfl (lv_at hl 1 rfl) ?_
    exact ret_i (ty := .int) hx hb hr hlocks (rfl) hP hD hS (Nat.le_of_ble_eq_true rfl) (Nat.le_of_ble_eq_true rfl) (⟨rfl, ⟨zz8, zz9, zz10, zz18, (show (th 37 ≤ zz9 ∧ 0 ≤ zz9 ∧ 0 ≤ zz10 ∧ zz9 + zz10 = zz8 ∧ zz8 ≤ 500) from (by have oc0 : (0 : Int32).toInt = 0 := (by decide); omega)), TI.cast hT (by funext q; simp only [gset]; (repeat' split); all_goals first | rfl | omega | (subst_vars; rfl) | (exfalso; omega))⟩, hfr, (⟨by decide, by decide⟩ : In 0 0 2)⟩) dX11_digit_37
  refine lv_icmp_ne (tgt := 28) hx hb dX11_digit_9 (by decide) (fun c19 => ?_) (fun c19 => ?_)
  ·
    have oc1 : (1 : Int32).toInt = 1 := by decide
    have cc20 : v6_11.toInt ≠ (1 : Int32).toInt := i32_ne c19
    exact hJ28 _ _ _ hP hD hS (lv_sub hl [0, 1, 2] rfl)
  ·
    have oc1 : (1 : Int32).toInt = 1 := by decide
    have cc21 : v6_11.toInt = (1 : Int32).toInt := congrArg Int32.toInt c19
    have hb22 : In v6_11 1 1 := In.eq1 hv6_11 (⟨by decide, by decide⟩ : In 1 1 1) cc21 (by omega) (by omega)
    refine lv_aload_n hx hb dX11_digit_12 rfl (lv_at hl 0 rfl) ?_
    refine lv_iconst (v := 0) hx hb dX11_digit_13 (by decide) ?_
    refine call_i (run_V (rm := rm_X11_digitAt) hx hb hml hown hts (s_X11_digitAt l g ad (gset (gset (gset th 37 zz8) 40 zz9) 41 zz10) _ _ _ 0 hst hT (⟨by decide, by decide⟩ : In 0 0 499) (show zz9 + (0 : Int32).toInt < 500 from (by have oc0 : (0 : Int32).toInt = 0 := (by decide); obtain ⟨o0a, o0b⟩ := (hv2_11 : In _ _ _); obtain ⟨o1a, o1b⟩ := (hv3_11 : In _ _ _); obtain ⟨o2a, o2b⟩ := (hv4_11 : In _ _ _); obtain ⟨o3a, o3b⟩ := (hv5_11 : In _ _ _); obtain ⟨o4a, o4b⟩ := (hb22 : In _ _ _); obtain ⟨o5a, o5b⟩ := (hv9_11 : In _ _ _); obtain ⟨o6a, o6b⟩ := (hv13_11 : In _ _ _); obtain ⟨o7a, o7b⟩ := (hv14_11 : In _ _ _); obtain ⟨o8a, o8b⟩ := (hv15_11 : In _ _ _); obtain ⟨o9a, o9b⟩ := (hv17_11 : In _ _ _); obtain ⟨o10a, o10b⟩ := (hv20_11 : In _ _ _); obtain ⟨o11a, o11b⟩ := (hv23_11 : In _ _ _); obtain ⟨o12a, o12b⟩ := (hv36_11 : In _ _ _); obtain ⟨o13a, o13b⟩ := (hv47_11 : In _ _ _); obtain ⟨o14a, o14b⟩ := (hv48_11 : In _ _ _); obtain ⟨o15a, o15b⟩ := (hv53_11 : In _ _ _); obtain ⟨o16a, o16b⟩ := (hv55_11 : In _ _ _); omega))) cV_X11_digitAt wg_1577 ⟨Nat.le_of_ble_eq_true rfl, Nat.le_of_ble_eq_true rfl⟩ hG hE hA hP hD hS (hst.1 255 (by decide)) hf12 rfl rfl hl.1 (As := [.int 0]) (rest := []) rfl (Nat.le_of_ble_eq_true rfl) dX11_digit_14 ⟨Nat.le_of_ble_eq_true rfl, Nat.le_of_ble_eq_true rfl⟩) hA hD hS (fun r23 L24 f25 H locs hp26 hP hD hS => ?_)
    obtain ⟨eL27L, eL27T, eL27R, eL27X0⟩ := hp26
    have eL27L : L24 = L := eL27L
    have eL27T : f25 = f5 := eL27T
    rw [eL27L, eL27T] at hP hD
    have eL27R : In r23 (-176) 79 := eL27R
    obtain ⟨rw28, hf29, hc30⟩ := hT.2.2 1 (by decide)
    have hda31 : r23.toInt = (rw28 (zz9 + 0).toNat).toInt - 48 := (eL27X0 _ hf29)
    refine lv_i2l hx hb dX11_digit_17 rfl ?_
    refine lv_iload_n hx hb dX11_digit_18 rfl (lv_at hl 1 rfl) ?_
    refine lv_i2l (v := 0) hx hb dX11_digit_19 (by decide) ?_
    refine lv_iload_n hx hb dX11_digit_20 rfl (lv_at hl 2 rfl) ?_
    refine lv_i2l (v := 2) hx hb dX11_digit_21 (by decide) ?_
    refine call_i (run_S (rm := rm_X11_isIn) hx hb hml hown hts (s_X11_isIn l g ad (gset (gset (gset th 37 zz8) 40 zz9) 41 zz10) _ _ _ (r23.toInt64) 0 2 hst hT ) cS_X11_isIn wg_1581 ⟨Nat.le_of_ble_eq_true rfl, Nat.le_of_ble_eq_true rfl⟩ hG hE hA hP hD hS rfl hl.1 (As := [.long (r23.toInt64), .long 0, .long 2]) (rest := []) rfl (Nat.le_of_ble_eq_true rfl) dX11_digit_22 ⟨Nat.le_of_ble_eq_true rfl, Nat.le_of_ble_eq_true rfl⟩) hA hD hS (fun r32 L33 f34 H locs hp35 hP hD hS => ?_)
    obtain ⟨eL36L, eL36T, eL36R, eL36X0⟩ := hp35
    have eL36L : L33 = L := eL36L
    have eL36T : f34 = f5 := eL36T
    rw [eL36L, eL36T] at hP hD
    have eL36R : In r32 0 1 := eL36R
    have hii37 : r32.toInt = 0 ∨ (0 ≤ r23.toInt ∧ r23.toInt ≤ 2) := by have z := eL36X0; rw [i2l_t r23, (by decide : (0 : Int64).toInt = 0), (by decide : (2 : Int64).toInt = 2)] at z; exact z
    have hii37w : ¬ r32 = 0 → In r23 0 2 := fun c => by have c2 := i32_ne c; have e0 : (0 : Int32).toInt = 0 := (by decide); exact ⟨by omega, by omega⟩
    refine lv_if_ne (tgt := 38) hx hb dX11_digit_25 (by decide) (fun c38 => ?_) (fun c38 => ?_)
    ·
      have oc0 : (0 : Int32).toInt = 0 := by decide
      have cc39 : r32.toInt ≠ (0 : Int32).toInt := i32_ne c38
      have hb40 : In r32 1 1 := In.ne1 eL36R (⟨by decide, by decide⟩ : In 0 0 0) cc39 (by omega) (by omega)
      have hb41 : In r23 0 2 := In.both (hii37w c38) eL27R (by decide) (by decide)
      refine lv_aload_n hx hb dX11_digit_38 rfl (lv_at hl 0 rfl) ?_
      refine lv_iconst (v := 0) hx hb dX11_digit_39 (by decide) ?_
      refine call_i (run_V (rm := rm_X11_digitAt) hx hb hml hown hts (s_X11_digitAt l g ad (gset (gset (gset th 37 zz8) 40 zz9) 41 zz10) _ _ _ 0 hst hT (⟨by decide, by decide⟩ : In 0 0 499) (show zz9 + (0 : Int32).toInt < 500 from (by have oc0 : (0 : Int32).toInt = 0 := (by decide); obtain ⟨o0a, o0b⟩ := (hv2_11 : In _ _ _); obtain ⟨o1a, o1b⟩ := (hv3_11 : In _ _ _); obtain ⟨o2a, o2b⟩ := (hv4_11 : In _ _ _); obtain ⟨o3a, o3b⟩ := (hv5_11 : In _ _ _); obtain ⟨o4a, o4b⟩ := (hb22 : In _ _ _); obtain ⟨o5a, o5b⟩ := (hv9_11 : In _ _ _); obtain ⟨o6a, o6b⟩ := (hv13_11 : In _ _ _); obtain ⟨o7a, o7b⟩ := (hv14_11 : In _ _ _); obtain ⟨o8a, o8b⟩ := (hv15_11 : In _ _ _); obtain ⟨o9a, o9b⟩ := (hv17_11 : In _ _ _); obtain ⟨o10a, o10b⟩ := (hv20_11 : In _ _ _); obtain ⟨o11a, o11b⟩ := (hv23_11 : In _ _ _); obtain ⟨o12a, o12b⟩ := (hv36_11 : In _ _ _); obtain ⟨o13a, o13b⟩ := (hv47_11 : In _ _ _); obtain ⟨o14a, o14b⟩ := (hv48_11 : In _ _ _); obtain ⟨o15a, o15b⟩ := (hv53_11 : In _ _ _); obtain ⟨o16a, o16b⟩ := (hv55_11 : In _ _ _); omega))) cV_X11_digitAt wg_1577 ⟨Nat.le_of_ble_eq_true rfl, Nat.le_of_ble_eq_true rfl⟩ hG hE hA hP hD hS (hst.1 255 (by decide)) hf12 rfl rfl hl.1 (As := [.int 0]) (rest := []) rfl (Nat.le_of_ble_eq_true rfl) dX11_digit_40 ⟨Nat.le_of_ble_eq_true rfl, Nat.le_of_ble_eq_true rfl⟩) hA hD hS (fun r42 L43 f44 H locs hp45 hP hD hS => ?_)
      obtain ⟨eL46L, eL46T, eL46R, eL46X0⟩ := hp45
      have eL46L : L43 = L := eL46L
      have eL46T : f44 = f5 := eL46T
      rw [eL46L, eL46T] at hP hD
      have eL46R : In r42 (-176) 79 := eL46R
      have hda47 : r42.toInt = (rw28 (zz9 + 0).toNat).toInt - 48 := (eL46X0 _ hf29)
      exact ret_i (ty := .int) hx hb hr hlocks (rfl) hP hD hS (Nat.le_of_ble_eq_true rfl) (Nat.le_of_ble_eq_true rfl) (⟨rfl, ⟨zz8, zz9, zz10, (th 42), (show (th 37 ≤ zz9 ∧ 0 ≤ zz9 ∧ 0 ≤ zz10 ∧ zz9 + zz10 = zz8 ∧ zz8 ≤ 500) from (by obtain ⟨o0a, o0b⟩ := (eL46R : In _ _ _); obtain ⟨o1a, o1b⟩ := (hv2_11 : In _ _ _); obtain ⟨o2a, o2b⟩ := (hv3_11 : In _ _ _); obtain ⟨o3a, o3b⟩ := (hv4_11 : In _ _ _); obtain ⟨o4a, o4b⟩ := (hv5_11 : In _ _ _); obtain ⟨o5a, o5b⟩ := (hb22 : In _ _ _); obtain ⟨o6a, o6b⟩ := (hv9_11 : In _ _ _); obtain ⟨o7a, o7b⟩ := (hv13_11 : In _ _ _); obtain ⟨o8a, o8b⟩ := (hv14_11 : In _ _ _); obtain ⟨o9a, o9b⟩ := (hv15_11 : In _ _ _); obtain ⟨o10a, o10b⟩ := (hv17_11 : In _ _ _); obtain ⟨o11a, o11b⟩ := (hv20_11 : In _ _ _); obtain ⟨o12a, o12b⟩ := (hv23_11 : In _ _ _); obtain ⟨o13a, o13b⟩ := (hv36_11 : In _ _ _); obtain ⟨o14a, o14b⟩ := (hv47_11 : In _ _ _); obtain ⟨o15a, o15b⟩ := (hv48_11 : In _ _ _); obtain ⟨o16a, o16b⟩ := (hv53_11 : In _ _ _); obtain ⟨o17a, o17b⟩ := (hv55_11 : In _ _ _); omega)), TI.cast hT (by funext q; simp only [gset]; (repeat' split); all_goals first | rfl | omega | (subst_vars; rfl) | (exfalso; omega))⟩, hfr, (In.mk (by obtain ⟨o0a, o0b⟩ := (eL46R : In _ _ _); obtain ⟨o1a, o1b⟩ := (hv2_11 : In _ _ _); obtain ⟨o2a, o2b⟩ := (hv3_11 : In _ _ _); obtain ⟨o3a, o3b⟩ := (hv4_11 : In _ _ _); obtain ⟨o4a, o4b⟩ := (hv5_11 : In _ _ _); obtain ⟨o5a, o5b⟩ := (hb22 : In _ _ _); obtain ⟨o6a, o6b⟩ := (hv9_11 : In _ _ _); obtain ⟨o7a, o7b⟩ := (hv13_11 : In _ _ _); obtain ⟨o8a, o8b⟩ := (hv14_11 : In _ _ _); obtain ⟨o9a, o9b⟩ := (hv15_11 : In _ _ _); obtain ⟨o10a, o10b⟩ := (hv17_11 : In _ _ _); obtain ⟨o11a, o11b⟩ := (hv20_11 : In _ _ _); obtain ⟨o12a, o12b⟩ := (hv23_11 : In _ _ _); obtain ⟨o13a, o13b⟩ := (hv36_11 : In _ _ _); obtain ⟨o14a, o14b⟩ := (hv47_11 : In _ _ _); obtain ⟨o15a, o15b⟩ := (hv48_11 : In _ _ _); obtain ⟨o16a, o16b⟩ := (hv53_11 : In _ _ _); obtain ⟨o17a, o17b⟩ := (hv55_11 : In _ _ _); omega) (by obtain ⟨o0a, o0b⟩ := (eL46R : In _ _ _); obtain ⟨o1a, o1b⟩ := (hv2_11 : In _ _ _); obtain ⟨o2a, o2b⟩ := (hv3_11 : In _ _ _); obtain ⟨o3a, o3b⟩ := (hv4_11 : In _ _ _); obtain ⟨o4a, o4b⟩ := (hv5_11 : In _ _ _); obtain ⟨o5a, o5b⟩ := (hb22 : In _ _ _); obtain ⟨o6a, o6b⟩ := (hv9_11 : In _ _ _); obtain ⟨o7a, o7b⟩ := (hv13_11 : In _ _ _); obtain ⟨o8a, o8b⟩ := (hv14_11 : In _ _ _); obtain ⟨o9a, o9b⟩ := (hv15_11 : In _ _ _); obtain ⟨o10a, o10b⟩ := (hv17_11 : In _ _ _); obtain ⟨o11a, o11b⟩ := (hv20_11 : In _ _ _); obtain ⟨o12a, o12b⟩ := (hv23_11 : In _ _ _); obtain ⟨o13a, o13b⟩ := (hv36_11 : In _ _ _); obtain ⟨o14a, o14b⟩ := (hv47_11 : In _ _ _); obtain ⟨o15a, o15b⟩ := (hv48_11 : In _ _ _); obtain ⟨o16a, o16b⟩ := (hv53_11 : In _ _ _); obtain ⟨o17a, o17b⟩ := (hv55_11 : In _ _ _); omega))⟩) dX11_digit_43
    ·
      have oc0 : (0 : Int32).toInt = 0 := by decide
      have cc48 : r32.toInt = (0 : Int32).toInt := congrArg Int32.toInt c38
      have hb49 : In r32 0 0 := In.eq1 eL36R (⟨by decide, by decide⟩ : In 0 0 0) cc48 (by omega) (by omega)
      exact hJ28 _ _ _ hP hD hS (lv_sub hl [0, 1, 2] rfl)

abbrev rm_X11_digit_0_8 : Room := { frames := 3, cells := 0, slots := 0, locals := 61 }
abbrev po_X11_digit_0_8 (g : GG) (ad : Nat → Nat) (th : Nat → Int) (L : List Nat) (f : HP)  : Int32 → (List Nat × HP) → Prop := fun r u => u.1 = L ∧ (∃ za zr zl ze : Int, ((th 37 ≤ zr ∧ 0 ≤ zr ∧ 0 ≤ zl ∧ zr + zl = za ∧ za ≤ 500)) ∧ TI g ad (gset (gset (gset (gset th 37 za) 40 zr) 41 zl) 42 ze) u.2) ∧ (∀ b, b ≠ (ad 255) → u.2 b = f b) ∧ In r 0 8
set_option maxHeartbeats 4000000 in
set_option maxRecDepth 100000 in
theorem s_X11_digit_0_8 (l : Launch) (g : GG) (ad : Nat → Nat) (th : Nat → Int) (L : List Nat) (f : HP) (sz : Nat)  (hst : ST ad L) (hT : TI g ad th f)  : MtI l g yX11_digit cX11_digit 3 (some .int) rm_X11_digit_0_8 [.ref (ad 255), .int 0, .int 8] L f sz (po_X11_digit_0_8 g ad th L f ) := by
  refine MtI.of (by decide +kernel) (Nat.le_of_ble_eq_true rfl) ?_
  intro p e s m below meth c A hEn hP hD hS ls hl
  obtain ⟨hx, hb, hr, hml, hown, hlocks, hts, hG, hA, hE, hnm⟩ := hEn
  have hown : s.vm.findClass "RulerWordModel" = some m.cls := hown
  have hl : lv_has ls 3 [(0, .ref (ad 255)), (1, .int 0), (2, .int 8)] := hl
  have hfr : (∀ b, b ≠ (ad 255) → f b = f b) := fun b z0_ => rfl
  refine lv_aload_n hx hb dX11_digit_0 rfl (lv_at hl 0 rfl) ?_
  obtain ⟨v0_1, v2_1, v3_1, v4_1, v5_1, v6_1, v8_1, v9_1, v12_1, v13_1, v14_1, v15_1, v16_1, v17_1, v18_1, v19_1, v20_1, v21_1, v22_1, v23_1, v25_1, v36_1, v37_1, v38_1, v39_1, v40_1, v45_1, v46_1, v47_1, v48_1, v50_1, v51_1, v53_1, v55_1, hf2, hv0_1, hv2_1, hg2_1, hv3_1, hg3_1, hv4_1, hg4_1, hv5_1, hg5_1, hv6_1, hg6_1, hv8_1, hv9_1, hg9_1, hv12_1, hv13_1, hg13_1, hv14_1, hg14_1, hv15_1, hg15_1, hv17_1, hg17_1, hv20_1, hg20_1, hv23_1, hg23_1, hv25_1, hv36_1, hg36_1, hv47_1, hg47_1, hv48_1, hg48_1, hv53_1, hg53_1, hv55_1, hg55_1, hrel0_1⟩ := hT.2.2 0 (by decide)
  refine call_v (run_V (rm := rm_X11_digits) hx hb hml hown hts (s_X11_digits l g ad th _ _ _  hst hT ) cV_X11_digits wg_1570 ⟨Nat.le_of_ble_eq_true rfl, Nat.le_of_ble_eq_true rfl⟩ hG hE hA hP hD hS (hst.1 255 (by decide)) hf2 rfl rfl hl.1 (As := []) (rest := []) rfl (Nat.le_of_ble_eq_true rfl) dX11_digit_1 ⟨Nat.le_of_ble_eq_true rfl, Nat.le_of_ble_eq_true rfl⟩) hA hD hS (fun L4 f5 H locs hp6 hP hD hS => ?_)
  obtain ⟨eL7L, eL7T, eL7F⟩ := hp6
  have eL7L : L4 = L := eL7L
  rw [eL7L] at hP hD
  obtain ⟨zz8, zz9, zz10, hzz8, eL7T⟩ := eL7T
  have hT : TI g ad (gset (gset (gset th 37 zz8) 40 zz9) 41 zz10) f5 := eL7T
  have eL7F : ∀ b, b ≠ (ad 255) → f5 b = f b := eL7F
  have hfr : (∀ b, b ≠ (ad 255) → f5 b = f b) := fun b z0_ => (eL7F b z0_).trans (hfr b z0_)
  refine lv_aload_n hx hb dX11_digit_4 rfl (lv_at hl 0 rfl) ?_
  obtain ⟨v0_11, v2_11, v3_11, v4_11, v5_11, v6_11, v8_11, v9_11, v12_11, v13_11, v14_11, v15_11, v16_11, v17_11, v18_11, v19_11, v20_11, v21_11, v22_11, v23_11, v25_11, v36_11, v37_11, v38_11, v39_11, v40_11, v45_11, v46_11, v47_11, v48_11, v50_11, v51_11, v53_11, v55_11, hf12, hv0_11, hv2_11, hg2_11, hv3_11, hg3_11, hv4_11, hg4_11, hv5_11, hg5_11, hv6_11, hg6_11, hv8_11, hv9_11, hg9_11, hv12_11, hv13_11, hg13_11, hv14_11, hg14_11, hv15_11, hg15_11, hv17_11, hg17_11, hv20_11, hg20_11, hv23_11, hg23_11, hv25_11, hv36_11, hg36_11, hv47_11, hg47_11, hv48_11, hg48_11, hv53_11, hg53_11, hv55_11, hg55_11, hrel0_11⟩ := hT.2.2 0 (by decide)
  have hg2_11 : v2_11.toInt = th 13 := hg2_11
  have hg3_11 : v3_11.toInt = zz8 := hg3_11
  have hg4_11 : v4_11.toInt = th 42 := hg4_11
  have hg5_11 : v5_11.toInt = zz9 := hg5_11
  have hg6_11 : v6_11.toInt = zz10 := hg6_11
  have hg9_11 : v9_11.toInt = th 35 := hg9_11
  have hg13_11 : v13_11.toInt = th 36 := hg13_11
  have hg14_11 : v14_11.toInt = th 10 := hg14_11
  have hg15_11 : v15_11.toInt = th 11 := hg15_11
  have hg17_11 : v17_11.toInt = th 12 := hg17_11
  have hg20_11 : v20_11.toInt = th 14 := hg20_11
  have hg23_11 : v23_11.toInt = th 15 := hg23_11
  have hg36_11 : v36_11.toInt = th 18 := hg36_11
  have hg47_11 : v47_11.toInt = th 16 := hg47_11
  have hg48_11 : v48_11.toInt = th 17 := hg48_11
  have hg53_11 : v53_11.toInt = th 38 := hg53_11
  have hg55_11 : v55_11.toInt = th 39 := hg55_11
  refine pl_get (v := .int v6_11) hx hb hts (fun w h => mT (inX11 w h)) hown hG.1 hP (hst.1 255 (by decide)) hf12 rfl 6 (by decide) (hts _ (mT wg_1342)) (fun _ h => h) rfl dX11_digit_5 ?_
  refine lv_iconst (v := 1) hx hb dX11_digit_8 (by decide) ?_
  have hJ28 : ∀ (H : Heap) (locs : List Loc) (ls : Array Slot), va_P g.1 vwCl (va_pl L f5) H → va_D A (va_pl L f5) → va_S A s.heap H locs → lv_has ls 3 [(0, .ref (ad 255)), (1, .int 0), (2, .int 8)] → W p l e rm_X11_digit_0_8 s m [.ref (ad 255), .int 0, .int 8].toArray below meth c H locs 0 0 (MQ below (va_Qi (po_X11_digit_0_8 g ad th L f ) (PstB g A) A) [.ref (ad 255), .int 0, .int 8].toArray s rm_X11_digit_0_8.cells rm_X11_digit_0_8.slots A) (F0 m 28 ls []) := by
    intro H locs ls hP hD hS hl
    refine lv_aload_n hx hb dX11_digit_28 rfl (lv_at hl 0 rfl) ?_
    refine lv_aload_n hx hb dX11_digit_29 rfl (lv_at hl 0 rfl) ?_
    refine pl_get (v := .int v5_11) hx hb hts (fun w h => mT (inX11 w h)) hown hG.1 hP (hst.1 255 (by decide)) hf12 rfl 5 (by decide) (hts _ (mT wg_1341)) (fun _ h => h) rfl dX11_digit_30 ?_
    refine call_v (run_V (rm := rm_X11_fails) hx hb hml hown hts (s_X11_fails l g ad (gset (gset (gset th 37 zz8) 40 zz9) 41 zz10) _ _ _ v5_11 hst hT hv5_11) cV_X11_fails wg_1545 ⟨Nat.le_of_ble_eq_true rfl, Nat.le_of_ble_eq_true rfl⟩ hG hE hA hP hD hS (hst.1 255 (by decide)) hf12 rfl rfl hl.1 (As := [.int v5_11]) (rest := []) rfl (Nat.le_of_ble_eq_true rfl) dX11_digit_33 ⟨Nat.le_of_ble_eq_true rfl, Nat.le_of_ble_eq_true rfl⟩) hA hD hS (fun L14 f15 H locs hp16 hP hD hS => ?_)
    obtain ⟨eL17L, eL17T, eL17F⟩ := hp16
    have eL17L : L14 = L := eL17L
    rw [eL17L] at hP hD
    obtain ⟨zz18, hzz18, eL17T⟩ := eL17T
    have hT : TI g ad (gset (gset (gset (gset th 37 zz8) 40 zz9) 41 zz10) 42 zz18) f15 := eL17T
    have eL17F : ∀ b, b ≠ (ad 255) → f15 b = f5 b := eL17F
    have hfr : (∀ b, b ≠ (ad 255) → f15 b = f b) := fun b z0_ => (eL17F b z0_).trans (hfr b z0_)
    refine lv_iload_n hx hb dX11_digit_36 rfl (lv_at hl 1 rfl) ?_
    exact ret_i (ty := .int) hx hb hr hlocks (rfl) hP hD hS (Nat.le_of_ble_eq_true rfl) (Nat.le_of_ble_eq_true rfl) (⟨rfl, ⟨zz8, zz9, zz10, zz18, (show (th 37 ≤ zz9 ∧ 0 ≤ zz9 ∧ 0 ≤ zz10 ∧ zz9 + zz10 = zz8 ∧ zz8 ≤ 500) from (by have oc0 : (0 : Int32).toInt = 0 := (by decide); omega)), TI.cast hT (by funext q; simp only [gset]; (repeat' split); all_goals first | rfl | omega | (subst_vars; rfl) | (exfalso; omega))⟩, hfr, (⟨by decide, by decide⟩ : In 0 0 8)⟩) dX11_digit_37
  refine lv_icmp_ne (tgt := 28) hx hb dX11_digit_9 (by decide) (fun c19 => ?_) (fun c19 => ?_)
  ·
    have oc1 : (1 : Int32).toInt = 1 := by decide
    have cc20 : v6_11.toInt ≠ (1 : Int32).toInt := i32_ne c19
    exact hJ28 _ _ _ hP hD hS (lv_sub hl [0, 1, 2] rfl)
  ·
    have oc1 : (1 : Int32).toInt = 1 := by decide
    have cc21 : v6_11.toInt = (1 : Int32).toInt := congrArg Int32.toInt c19
    have hb22 : In v6_11 1 1 := In.eq1 hv6_11 (⟨by decide, by decide⟩ : In 1 1 1) cc21 (by omega) (by omega)
    refine lv_aload_n hx hb dX11_digit_12 rfl (lv_at hl 0 rfl) ?_
    refine lv_iconst (v := 0) hx hb dX11_digit_13 (by decide) ?_
    refine call_i (run_V (rm := rm_X11_digitAt) hx hb hml hown hts (s_X11_digitAt l g ad (gset (gset (gset th 37 zz8) 40 zz9) 41 zz10) _ _ _ 0 hst hT (⟨by decide, by decide⟩ : In 0 0 499) (show zz9 + (0 : Int32).toInt < 500 from (by have oc0 : (0 : Int32).toInt = 0 := (by decide); obtain ⟨o0a, o0b⟩ := (hv2_11 : In _ _ _); obtain ⟨o1a, o1b⟩ := (hv3_11 : In _ _ _); obtain ⟨o2a, o2b⟩ := (hv4_11 : In _ _ _); obtain ⟨o3a, o3b⟩ := (hv5_11 : In _ _ _); obtain ⟨o4a, o4b⟩ := (hb22 : In _ _ _); obtain ⟨o5a, o5b⟩ := (hv9_11 : In _ _ _); obtain ⟨o6a, o6b⟩ := (hv13_11 : In _ _ _); obtain ⟨o7a, o7b⟩ := (hv14_11 : In _ _ _); obtain ⟨o8a, o8b⟩ := (hv15_11 : In _ _ _); obtain ⟨o9a, o9b⟩ := (hv17_11 : In _ _ _); obtain ⟨o10a, o10b⟩ := (hv20_11 : In _ _ _); obtain ⟨o11a, o11b⟩ := (hv23_11 : In _ _ _); obtain ⟨o12a, o12b⟩ := (hv36_11 : In _ _ _); obtain ⟨o13a, o13b⟩ := (hv47_11 : In _ _ _); obtain ⟨o14a, o14b⟩ := (hv48_11 : In _ _ _); obtain ⟨o15a, o15b⟩ := (hv53_11 : In _ _ _); obtain ⟨o16a, o16b⟩ := (hv55_11 : In _ _ _); omega))) cV_X11_digitAt wg_1577 ⟨Nat.le_of_ble_eq_true rfl, Nat.le_of_ble_eq_true rfl⟩ hG hE hA hP hD hS (hst.1 255 (by decide)) hf12 rfl rfl hl.1 (As := [.int 0]) (rest := []) rfl (Nat.le_of_ble_eq_true rfl) dX11_digit_14 ⟨Nat.le_of_ble_eq_true rfl, Nat.le_of_ble_eq_true rfl⟩) hA hD hS (fun r23 L24 f25 H locs hp26 hP hD hS => ?_)
    obtain ⟨eL27L, eL27T, eL27R, eL27X0⟩ := hp26
    have eL27L : L24 = L := eL27L
    have eL27T : f25 = f5 := eL27T
    rw [eL27L, eL27T] at hP hD
    have eL27R : In r23 (-176) 79 := eL27R
    obtain ⟨rw28, hf29, hc30⟩ := hT.2.2 1 (by decide)
    have hda31 : r23.toInt = (rw28 (zz9 + 0).toNat).toInt - 48 := (eL27X0 _ hf29)
    refine lv_i2l hx hb dX11_digit_17 rfl ?_
    refine lv_iload_n hx hb dX11_digit_18 rfl (lv_at hl 1 rfl) ?_
    refine lv_i2l (v := 0) hx hb dX11_digit_19 (by decide) ?_
    refine lv_iload_n hx hb dX11_digit_20 rfl (lv_at hl 2 rfl) ?_
    refine lv_i2l (v := 8) hx hb dX11_digit_21 (by decide) ?_
    refine call_i (run_S (rm := rm_X11_isIn) hx hb hml hown hts (s_X11_isIn l g ad (gset (gset (gset th 37 zz8) 40 zz9) 41 zz10) _ _ _ (r23.toInt64) 0 8 hst hT ) cS_X11_isIn wg_1581 ⟨Nat.le_of_ble_eq_true rfl, Nat.le_of_ble_eq_true rfl⟩ hG hE hA hP hD hS rfl hl.1 (As := [.long (r23.toInt64), .long 0, .long 8]) (rest := []) rfl (Nat.le_of_ble_eq_true rfl) dX11_digit_22 ⟨Nat.le_of_ble_eq_true rfl, Nat.le_of_ble_eq_true rfl⟩) hA hD hS (fun r32 L33 f34 H locs hp35 hP hD hS => ?_)
    obtain ⟨eL36L, eL36T, eL36R, eL36X0⟩ := hp35
    have eL36L : L33 = L := eL36L
    have eL36T : f34 = f5 := eL36T
    rw [eL36L, eL36T] at hP hD
    have eL36R : In r32 0 1 := eL36R
    have hii37 : r32.toInt = 0 ∨ (0 ≤ r23.toInt ∧ r23.toInt ≤ 8) := by have z := eL36X0; rw [i2l_t r23, (by decide : (0 : Int64).toInt = 0), (by decide : (8 : Int64).toInt = 8)] at z; exact z
    have hii37w : ¬ r32 = 0 → In r23 0 8 := fun c => by have c2 := i32_ne c; have e0 : (0 : Int32).toInt = 0 := (by decide); exact ⟨by omega, by omega⟩
    refine lv_if_ne (tgt := 38) hx hb dX11_digit_25 (by decide) (fun c38 => ?_) (fun c38 => ?_)
    ·
      have oc0 : (0 : Int32).toInt = 0 := by decide
      have cc39 : r32.toInt ≠ (0 : Int32).toInt := i32_ne c38
      have hb40 : In r32 1 1 := In.ne1 eL36R (⟨by decide, by decide⟩ : In 0 0 0) cc39 (by omega) (by omega)
      have hb41 : In r23 0 8 := In.both (hii37w c38) eL27R (by decide) (by decide)
      refine lv_aload_n hx hb dX11_digit_38 rfl (lv_at hl 0 rfl) ?_
      refine lv_iconst (v := 0) hx hb dX11_digit_39 (by decide) ?_
      refine call_i (run_V (rm := rm_X11_digitAt) hx hb hml hown hts (s_X11_digitAt l g ad (gset (gset (gset th 37 zz8) 40 zz9) 41 zz10) _ _ _ 0 hst hT (⟨by decide, by decide⟩ : In 0 0 499) (show zz9 + (0 : Int32).toInt < 500 from (by have oc0 : (0 : Int32).toInt = 0 := (by decide); obtain ⟨o0a, o0b⟩ := (hv2_11 : In _ _ _); obtain ⟨o1a, o1b⟩ := (hv3_11 : In _ _ _); obtain ⟨o2a, o2b⟩ := (hv4_11 : In _ _ _); obtain ⟨o3a, o3b⟩ := (hv5_11 : In _ _ _); obtain ⟨o4a, o4b⟩ := (hb22 : In _ _ _); obtain ⟨o5a, o5b⟩ := (hv9_11 : In _ _ _); obtain ⟨o6a, o6b⟩ := (hv13_11 : In _ _ _); obtain ⟨o7a, o7b⟩ := (hv14_11 : In _ _ _); obtain ⟨o8a, o8b⟩ := (hv15_11 : In _ _ _); obtain ⟨o9a, o9b⟩ := (hv17_11 : In _ _ _); obtain ⟨o10a, o10b⟩ := (hv20_11 : In _ _ _); obtain ⟨o11a, o11b⟩ := (hv23_11 : In _ _ _); obtain ⟨o12a, o12b⟩ := (hv36_11 : In _ _ _); obtain ⟨o13a, o13b⟩ := (hv47_11 : In _ _ _); obtain ⟨o14a, o14b⟩ := (hv48_11 : In _ _ _); obtain ⟨o15a, o15b⟩ := (hv53_11 : In _ _ _); obtain ⟨o16a, o16b⟩ := (hv55_11 : In _ _ _); omega))) cV_X11_digitAt wg_1577 ⟨Nat.le_of_ble_eq_true rfl, Nat.le_of_ble_eq_true rfl⟩ hG hE hA hP hD hS (hst.1 255 (by decide)) hf12 rfl rfl hl.1 (As := [.int 0]) (rest := []) rfl (Nat.le_of_ble_eq_true rfl) dX11_digit_40 ⟨Nat.le_of_ble_eq_true rfl, Nat.le_of_ble_eq_true rfl⟩) hA hD hS (fun r42 L43 f44 H locs hp45 hP hD hS => ?_)
      obtain ⟨eL46L, eL46T, eL46R, eL46X0⟩ := hp45
      have eL46L : L43 = L := eL46L
      have eL46T : f44 = f5 := eL46T
      rw [eL46L, eL46T] at hP hD
      have eL46R : In r42 (-176) 79 := eL46R
      have hda47 : r42.toInt = (rw28 (zz9 + 0).toNat).toInt - 48 := (eL46X0 _ hf29)
      exact ret_i (ty := .int) hx hb hr hlocks (rfl) hP hD hS (Nat.le_of_ble_eq_true rfl) (Nat.le_of_ble_eq_true rfl) (⟨rfl, ⟨zz8, zz9, zz10, (th 42), (show (th 37 ≤ zz9 ∧ 0 ≤ zz9 ∧ 0 ≤ zz10 ∧ zz9 + zz10 = zz8 ∧ zz8 ≤ 500) from (by obtain ⟨o0a, o0b⟩ := (eL46R : In _ _ _); obtain ⟨o1a, o1b⟩ := (hv2_11 : In _ _ _); obtain ⟨o2a, o2b⟩ := (hv3_11 : In _ _ _); obtain ⟨o3a, o3b⟩ := (hv4_11 : In _ _ _); obtain ⟨o4a, o4b⟩ := (hv5_11 : In _ _ _); obtain ⟨o5a, o5b⟩ := (hb22 : In _ _ _); obtain ⟨o6a, o6b⟩ := (hv9_11 : In _ _ _); obtain ⟨o7a, o7b⟩ := (hv13_11 : In _ _ _); obtain ⟨o8a, o8b⟩ := (hv14_11 : In _ _ _); obtain ⟨o9a, o9b⟩ := (hv15_11 : In _ _ _); obtain ⟨o10a, o10b⟩ := (hv17_11 : In _ _ _); obtain ⟨o11a, o11b⟩ := (hv20_11 : In _ _ _); obtain ⟨o12a, o12b⟩ := (hv23_11 : In _ _ _); obtain ⟨o13a, o13b⟩ := (hv36_11 : In _ _ _); obtain ⟨o14a, o14b⟩ := (hv47_11 : In _ _ _); obtain ⟨o15a, o15b⟩ := (hv48_11 : In _ _ _); obtain ⟨o16a, o16b⟩ := (hv53_11 : In _ _ _); obtain ⟨o17a, o17b⟩ := (hv55_11 : In _ _ _); omega)), TI.cast hT (by funext q; simp only [gset]; (repeat' split); all_goals first | rfl | omega | (subst_vars; rfl) | (exfalso; omega))⟩, hfr, (In.mk (by obtain ⟨o0a, o0b⟩ := (eL46R : In _ _ _); obtain ⟨o1a, o1b⟩ := (hv2_11 : In _ _ _); obtain ⟨o2a, o2b⟩ := (hv3_11 : In _ _ _); obtain ⟨o3a, o3b⟩ := (hv4_11 : In _ _ _); obtain ⟨o4a, o4b⟩ := (hv5_11 : In _ _ _); obtain ⟨o5a, o5b⟩ := (hb22 : In _ _ _); obtain ⟨o6a, o6b⟩ := (hv9_11 : In _ _ _); obtain ⟨o7a, o7b⟩ := (hv13_11 : In _ _ _); obtain ⟨o8a, o8b⟩ := (hv14_11 : In _ _ _); obtain ⟨o9a, o9b⟩ := (hv15_11 : In _ _ _); obtain ⟨o10a, o10b⟩ := (hv17_11 : In _ _ _); obtain ⟨o11a, o11b⟩ := (hv20_11 : In _ _ _); obtain ⟨o12a, o12b⟩ := (hv23_11 : In _ _ _); obtain ⟨o13a, o13b⟩ := (hv36_11 : In _ _ _); obtain ⟨o14a, o14b⟩ := (hv47_11 : In _ _ _); obtain ⟨o15a, o15b⟩ := (hv48_11 : In _ _ _); obtain ⟨o16a, o16b⟩ := (hv53_11 : In _ _ _); obtain ⟨o17a, o17b⟩ := (hv55_11 : In _ _ _); omega) (by obtain ⟨o0a, o0b⟩ := (eL46R : In _ _ _); obtain ⟨o1a, o1b⟩ := (hv2_11 : In _ _ _); obtain ⟨o2a, o2b⟩ := (hv3_11 : In _ _ _); obtain ⟨o3a, o3b⟩ := (hv4_11 : In _ _ _); obtain ⟨o4a, o4b⟩ := (hv5_11 : In _ _ _); obtain ⟨o5a, o5b⟩ := (hb22 : In _ _ _); obtain ⟨o6a, o6b⟩ := (hv9_11 : In _ _ _); obtain ⟨o7a, o7b⟩ := (hv13_11 : In _ _ _); obtain ⟨o8a, o8b⟩ := (hv14_11 : In _ _ _); obtain ⟨o9a, o9b⟩ := (hv15_11 : In _ _ _); obtain ⟨o10a, o10b⟩ := (hv17_11 : In _ _ _); obtain ⟨o11a, o11b⟩ := (hv20_11 : In _ _ _); obtain ⟨o12a, o12b⟩ := (hv23_11 : In _ _ _); obtain ⟨o13a, o13b⟩ := (hv36_11 : In _ _ _); obtain ⟨o14a, o14b⟩ := (hv47_11 : In _ _ _); obtain ⟨o15a, o15b⟩ := (hv48_11 : In _ _ _); obtain ⟨o16a, o16b⟩ := (hv53_11 : In _ _ _); obtain ⟨o17a, o17b⟩ := (hv55_11 : In _ _ _); omega))⟩) dX11_digit_43
    ·
      have oc0 : (0 : Int32).toInt = 0 := by decide
      have cc48 : r32.toInt = (0 : Int32).toInt := congrArg Int32.toInt c38
      have hb49 : In r32 0 0 := In.eq1 eL36R (⟨by decide, by decide⟩ : In 0 0 0) cc48 (by omega) (by omega)
      exact hJ28 _ _ _ hP hD hS (lv_sub hl [0, 1, 2] rfl)

abbrev rm_X11_pieceHere : Room := { frames := 5, cells := 0, slots := 0, locals := 108 }
abbrev po_X11_pieceHere (g : GG) (ad : Nat → Nat) (th : Nat → Int) (L : List Nat) (f : HP)  : Int32 → (List Nat × HP) → Prop := fun r u => u.1 = L ∧ (∃ za : Int, (th 37 ≤ za ∧ za ≤ 500) ∧ TI g ad (gset th 37 za) u.2) ∧ (∀ b, b ≠ (ad 255) → u.2 b = f b) ∧ In r (-1) 5
set_option maxHeartbeats 4000000 in
set_option maxRecDepth 100000 in
theorem s_X11_pieceHere (l : Launch) (g : GG) (ad : Nat → Nat) (th : Nat → Int) (L : List Nat) (f : HP) (sz : Nat)  (hst : ST ad L) (hT : TI g ad th f)  : MtI l g yX11_pieceHere cX11_pieceHere 1 (some .int) rm_X11_pieceHere [.ref (ad 255)] L f sz (po_X11_pieceHere g ad th L f ) := by
  refine MtI.of (by decide +kernel) (Nat.le_of_ble_eq_true rfl) ?_
  intro p e s m below meth c A hEn hP hD hS ls hl
  obtain ⟨hx, hb, hr, hml, hown, hlocks, hts, hG, hA, hE, hnm⟩ := hEn
  have hown : s.vm.findClass "RulerWordModel" = some m.cls := hown
  have hl : lv_has ls 1 [(0, .ref (ad 255))] := hl
  have hfr : (∀ b, b ≠ (ad 255) → f b = f b) := fun b z0_ => rfl
  refine lv_aload_n hx hb dX11_pieceHere_0 rfl (lv_at hl 0 rfl) ?_
  refine va_ldcS hx hb hown (hG.2.2.1 ("RulerWordModel", 139, "size", 2) (by decide +kernel)) dX11_pieceHere_1 ?_
  obtain ⟨v0_1, v2_1, v3_1, v4_1, v5_1, v6_1, v8_1, v9_1, v12_1, v13_1, v14_1, v15_1, v16_1, v17_1, v18_1, v19_1, v20_1, v21_1, v22_1, v23_1, v25_1, v36_1, v37_1, v38_1, v39_1, v40_1, v45_1, v46_1, v47_1, v48_1, v50_1, v51_1, v53_1, v55_1, hf2, hv0_1, hv2_1, hg2_1, hv3_1, hg3_1, hv4_1, hg4_1, hv5_1, hg5_1, hv6_1, hg6_1, hv8_1, hv9_1, hg9_1, hv12_1, hv13_1, hg13_1, hv14_1, hg14_1, hv15_1, hg15_1, hv17_1, hg17_1, hv20_1, hg20_1, hv23_1, hg23_1, hv25_1, hv36_1, hg36_1, hv47_1, hg47_1, hv48_1, hg48_1, hv53_1, hg53_1, hv55_1, hg55_1, hrel0_1⟩ := hT.2.2 0 (by decide)
  refine call_i (run_V (rm := rm_X11_takes) hx hb hml hown hts (s_X11_takes l g ad th _ _ _ 2 hst hT (by decide)) cV_X11_takes wg_1538 ⟨Nat.le_of_ble_eq_true rfl, Nat.le_of_ble_eq_true rfl⟩ hG hE hA hP hD hS (hst.1 255 (by decide)) hf2 rfl rfl hl.1 (As := [.ref (g.2.2.1 2)]) (rest := []) rfl (Nat.le_of_ble_eq_true rfl) dX11_pieceHere_3 ⟨Nat.le_of_ble_eq_true rfl, Nat.le_of_ble_eq_true rfl⟩) hA hD hS (fun r3 L4 f5 H locs hp6 hP hD hS => ?_)
  obtain ⟨eL7L, eL7T, eL7F, eL7R⟩ := hp6
  have eL7L : L4 = L := eL7L
  rw [eL7L] at hP hD
  obtain ⟨zz8, hzz8, eL7T⟩ := eL7T
  have hT : TI g ad (gset th 37 zz8) f5 := eL7T
  have eL7F : ∀ b, b ≠ (ad 255) → f5 b = f b := eL7F
  have hfr : (∀ b, b ≠ (ad 255) → f5 b = f b) := fun b z0_ => (eL7F b z0_).trans (hfr b z0_)
  have eL7R : In r3 0 1 := eL7R
  refine lv_if_eq (tgt := 11) hx hb dX11_pieceHere_6 (by decide) (fun c9 => ?_) (fun c9 => ?_)
  ·
    have oc0 : (0 : Int32).toInt = 0 := by decide
    have cc10 : r3.toInt = (0 : Int32).toInt := congrArg Int32.toInt c9
    have hb11 : In r3 0 0 := In.eq1 eL7R (⟨by decide, by decide⟩ : In 0 0 0) cc10 (by omega) (by omega)
    refine lv_aload_n hx hb dX11_pieceHere_11 rfl (lv_at hl 0 rfl) ?_
    refine va_ldcS hx hb hown (hG.2.2.1 ("RulerWordModel", 145, "bound", 3) (by decide +kernel)) dX11_pieceHere_12 ?_
    obtain ⟨v0_12, v2_12, v3_12, v4_12, v5_12, v6_12, v8_12, v9_12, v12_12, v13_12, v14_12, v15_12, v16_12, v17_12, v18_12, v19_12, v20_12, v21_12, v22_12, v23_12, v25_12, v36_12, v37_12, v38_12, v39_12, v40_12, v45_12, v46_12, v47_12, v48_12, v50_12, v51_12, v53_12, v55_12, hf13, hv0_12, hv2_12, hg2_12, hv3_12, hg3_12, hv4_12, hg4_12, hv5_12, hg5_12, hv6_12, hg6_12, hv8_12, hv9_12, hg9_12, hv12_12, hv13_12, hg13_12, hv14_12, hg14_12, hv15_12, hg15_12, hv17_12, hg17_12, hv20_12, hg20_12, hv23_12, hg23_12, hv25_12, hv36_12, hg36_12, hv47_12, hg47_12, hv48_12, hg48_12, hv53_12, hg53_12, hv55_12, hg55_12, hrel0_12⟩ := hT.2.2 0 (by decide)
    have hg2_12 : v2_12.toInt = th 13 := hg2_12
    have hg3_12 : v3_12.toInt = zz8 := hg3_12
    have hg4_12 : v4_12.toInt = th 42 := hg4_12
    have hg5_12 : v5_12.toInt = th 40 := hg5_12
    have hg6_12 : v6_12.toInt = th 41 := hg6_12
    have hg9_12 : v9_12.toInt = th 35 := hg9_12
    have hg13_12 : v13_12.toInt = th 36 := hg13_12
    have hg14_12 : v14_12.toInt = th 10 := hg14_12
    have hg15_12 : v15_12.toInt = th 11 := hg15_12
    have hg17_12 : v17_12.toInt = th 12 := hg17_12
    have hg20_12 : v20_12.toInt = th 14 := hg20_12
    have hg23_12 : v23_12.toInt = th 15 := hg23_12
    have hg36_12 : v36_12.toInt = th 18 := hg36_12
    have hg47_12 : v47_12.toInt = th 16 := hg47_12
    have hg48_12 : v48_12.toInt = th 17 := hg48_12
    have hg53_12 : v53_12.toInt = th 38 := hg53_12
    have hg55_12 : v55_12.toInt = th 39 := hg55_12
    refine call_i (run_V (rm := rm_X11_takes) hx hb hml hown hts (s_X11_takes l g ad (gset th 37 zz8) _ _ _ 3 hst hT (by decide)) cV_X11_takes wg_1538 ⟨Nat.le_of_ble_eq_true rfl, Nat.le_of_ble_eq_true rfl⟩ hG hE hA hP hD hS (hst.1 255 (by decide)) hf13 rfl rfl hl.1 (As := [.ref (g.2.2.1 3)]) (rest := []) rfl (Nat.le_of_ble_eq_true rfl) dX11_pieceHere_14 ⟨Nat.le_of_ble_eq_true rfl, Nat.le_of_ble_eq_true rfl⟩) hA hD hS (fun r14 L15 f16 H locs hp17 hP hD hS => ?_)
    obtain ⟨eL18L, eL18T, eL18F, eL18R⟩ := hp17
    have eL18L : L15 = L := eL18L
    rw [eL18L] at hP hD
    obtain ⟨zz19, hzz19, eL18T⟩ := eL18T
    have hT : TI g ad (gset (gset th 37 zz8) 37 zz19) f16 := eL18T
    have hT : TI g ad (gset th 37 zz19) f16 := TI.cast hT (by funext q; simp only [gset]; (repeat' split); all_goals first | rfl | omega | (subst_vars; rfl) | (exfalso; omega))
    have eL18F : ∀ b, b ≠ (ad 255) → f16 b = f5 b := eL18F
    have hfr : (∀ b, b ≠ (ad 255) → f16 b = f b) := fun b z0_ => (eL18F b z0_).trans (hfr b z0_)
    have eL18R : In r14 0 1 := eL18R
    refine lv_if_eq (tgt := 22) hx hb dX11_pieceHere_17 (by decide) (fun c20 => ?_) (fun c20 => ?_)
    ·
      have oc0 : (0 : Int32).toInt = 0 := by decide
      have cc21 : r14.toInt = (0 : Int32).toInt := congrArg Int32.toInt c20
      have hb22 : In r14 0 0 := In.eq1 eL18R (⟨by decide, by decide⟩ : In 0 0 0) cc21 (by omega) (by omega)
      refine lv_aload_n hx hb dX11_pieceHere_22 rfl (lv_at hl 0 rfl) ?_
      refine va_ldcS hx hb hown (hG.2.2.1 ("RulerWordModel", 147, "phases", 4) (by decide +kernel)) dX11_pieceHere_23 ?_
      obtain ⟨v0_23, v2_23, v3_23, v4_23, v5_23, v6_23, v8_23, v9_23, v12_23, v13_23, v14_23, v15_23, v16_23, v17_23, v18_23, v19_23, v20_23, v21_23, v22_23, v23_23, v25_23, v36_23, v37_23, v38_23, v39_23, v40_23, v45_23, v46_23, v47_23, v48_23, v50_23, v51_23, v53_23, v55_23, hf24, hv0_23, hv2_23, hg2_23, hv3_23, hg3_23, hv4_23, hg4_23, hv5_23, hg5_23, hv6_23, hg6_23, hv8_23, hv9_23, hg9_23, hv12_23, hv13_23, hg13_23, hv14_23, hg14_23, hv15_23, hg15_23, hv17_23, hg17_23, hv20_23, hg20_23, hv23_23, hg23_23, hv25_23, hv36_23, hg36_23, hv47_23, hg47_23, hv48_23, hg48_23, hv53_23, hg53_23, hv55_23, hg55_23, hrel0_23⟩ := hT.2.2 0 (by decide)
      have hg2_23 : v2_23.toInt = th 13 := hg2_23
      have hg3_23 : v3_23.toInt = zz19 := hg3_23
      have hg4_23 : v4_23.toInt = th 42 := hg4_23
      have hg5_23 : v5_23.toInt = th 40 := hg5_23
      have hg6_23 : v6_23.toInt = th 41 := hg6_23
      have hg9_23 : v9_23.toInt = th 35 := hg9_23
      have hg13_23 : v13_23.toInt = th 36 := hg13_23
      have hg14_23 : v14_23.toInt = th 10 := hg14_23
      have hg15_23 : v15_23.toInt = th 11 := hg15_23
      have hg17_23 : v17_23.toInt = th 12 := hg17_23
      have hg20_23 : v20_23.toInt = th 14 := hg20_23
      have hg23_23 : v23_23.toInt = th 15 := hg23_23
      have hg36_23 : v36_23.toInt = th 18 := hg36_23
      have hg47_23 : v47_23.toInt = th 16 := hg47_23
      have hg48_23 : v48_23.toInt = th 17 := hg48_23
      have hg53_23 : v53_23.toInt = th 38 := hg53_23
      have hg55_23 : v55_23.toInt = th 39 := hg55_23
      refine call_i (run_V (rm := rm_X11_takes) hx hb hml hown hts (s_X11_takes l g ad (gset th 37 zz19) _ _ _ 4 hst hT (by decide)) cV_X11_takes wg_1538 ⟨Nat.le_of_ble_eq_true rfl, Nat.le_of_ble_eq_true rfl⟩ hG hE hA hP hD hS (hst.1 255 (by decide)) hf24 rfl rfl hl.1 (As := [.ref (g.2.2.1 4)]) (rest := []) rfl (Nat.le_of_ble_eq_true rfl) dX11_pieceHere_25 ⟨Nat.le_of_ble_eq_true rfl, Nat.le_of_ble_eq_true rfl⟩) hA hD hS (fun r25 L26 f27 H locs hp28 hP hD hS => ?_)
      obtain ⟨eL29L, eL29T, eL29F, eL29R⟩ := hp28
      have eL29L : L26 = L := eL29L
      rw [eL29L] at hP hD
      obtain ⟨zz30, hzz30, eL29T⟩ := eL29T
      have hT : TI g ad (gset (gset th 37 zz19) 37 zz30) f27 := eL29T
      have hT : TI g ad (gset th 37 zz30) f27 := TI.cast hT (by funext q; simp only [gset]; (repeat' split); all_goals first | rfl | omega | (subst_vars; rfl) | (exfalso; omega))
      have eL29F : ∀ b, b ≠ (ad 255) → f27 b = f16 b := eL29F
      have hfr : (∀ b, b ≠ (ad 255) → f27 b = f b) := fun b z0_ => (eL29F b z0_).trans (hfr b z0_)
      have eL29R : In r25 0 1 := eL29R
      refine lv_if_eq (tgt := 33) hx hb dX11_pieceHere_28 (by decide) (fun c31 => ?_) (fun c31 => ?_)
      ·
        have oc0 : (0 : Int32).toInt = 0 := by decide
        have cc32 : r25.toInt = (0 : Int32).toInt := congrArg Int32.toInt c31
        have hb33 : In r25 0 0 := In.eq1 eL29R (⟨by decide, by decide⟩ : In 0 0 0) cc32 (by omega) (by omega)
        refine lv_aload_n hx hb dX11_pieceHere_33 rfl (lv_at hl 0 rfl) ?_
        refine va_ldcS hx hb hown (hG.2.2.1 ("RulerWordModel", 149, "starts", 5) (by decide +kernel)) dX11_pieceHere_34 ?_
        obtain ⟨v0_34, v2_34, v3_34, v4_34, v5_34, v6_34, v8_34, v9_34, v12_34, v13_34, v14_34, v15_34, v16_34, v17_34, v18_34, v19_34, v20_34, v21_34, v22_34, v23_34, v25_34, v36_34, v37_34, v38_34, v39_34, v40_34, v45_34, v46_34, v47_34, v48_34, v50_34, v51_34, v53_34, v55_34, hf35, hv0_34, hv2_34, hg2_34, hv3_34, hg3_34, hv4_34, hg4_34, hv5_34, hg5_34, hv6_34, hg6_34, hv8_34, hv9_34, hg9_34, hv12_34, hv13_34, hg13_34, hv14_34, hg14_34, hv15_34, hg15_34, hv17_34, hg17_34, hv20_34, hg20_34, hv23_34, hg23_34, hv25_34, hv36_34, hg36_34, hv47_34, hg47_34, hv48_34, hg48_34, hv53_34, hg53_34, hv55_34, hg55_34, hrel0_34⟩ := hT.2.2 0 (by decide)
        have hg2_34 : v2_34.toInt = th 13 := hg2_34
        have hg3_34 : v3_34.toInt = zz30 := hg3_34
        have hg4_34 : v4_34.toInt = th 42 := hg4_34
        have hg5_34 : v5_34.toInt = th 40 := hg5_34
        have hg6_34 : v6_34.toInt = th 41 := hg6_34
        have hg9_34 : v9_34.toInt = th 35 := hg9_34
        have hg13_34 : v13_34.toInt = th 36 := hg13_34
        have hg14_34 : v14_34.toInt = th 10 := hg14_34
        have hg15_34 : v15_34.toInt = th 11 := hg15_34
        have hg17_34 : v17_34.toInt = th 12 := hg17_34
        have hg20_34 : v20_34.toInt = th 14 := hg20_34
        have hg23_34 : v23_34.toInt = th 15 := hg23_34
        have hg36_34 : v36_34.toInt = th 18 := hg36_34
        have hg47_34 : v47_34.toInt = th 16 := hg47_34
        have hg48_34 : v48_34.toInt = th 17 := hg48_34
        have hg53_34 : v53_34.toInt = th 38 := hg53_34
        have hg55_34 : v55_34.toInt = th 39 := hg55_34
        refine call_i (run_V (rm := rm_X11_takes) hx hb hml hown hts (s_X11_takes l g ad (gset th 37 zz30) _ _ _ 5 hst hT (by decide)) cV_X11_takes wg_1538 ⟨Nat.le_of_ble_eq_true rfl, Nat.le_of_ble_eq_true rfl⟩ hG hE hA hP hD hS (hst.1 255 (by decide)) hf35 rfl rfl hl.1 (As := [.ref (g.2.2.1 5)]) (rest := []) rfl (Nat.le_of_ble_eq_true rfl) dX11_pieceHere_36 ⟨Nat.le_of_ble_eq_true rfl, Nat.le_of_ble_eq_true rfl⟩) hA hD hS (fun r36 L37 f38 H locs hp39 hP hD hS => ?_)
        obtain ⟨eL40L, eL40T, eL40F, eL40R⟩ := hp39
        have eL40L : L37 = L := eL40L
        rw [eL40L] at hP hD
        obtain ⟨zz41, hzz41, eL40T⟩ := eL40T
        have hT : TI g ad (gset (gset th 37 zz30) 37 zz41) f38 := eL40T
        have hT : TI g ad (gset th 37 zz41) f38 := TI.cast hT (by funext q; simp only [gset]; (repeat' split); all_goals first | rfl | omega | (subst_vars; rfl) | (exfalso; omega))
        have eL40F : ∀ b, b ≠ (ad 255) → f38 b = f27 b := eL40F
        have hfr : (∀ b, b ≠ (ad 255) → f38 b = f b) := fun b z0_ => (eL40F b z0_).trans (hfr b z0_)
        have eL40R : In r36 0 1 := eL40R
        refine lv_if_eq (tgt := 44) hx hb dX11_pieceHere_39 (by decide) (fun c42 => ?_) (fun c42 => ?_)
        ·
          have oc0 : (0 : Int32).toInt = 0 := by decide
          have cc43 : r36.toInt = (0 : Int32).toInt := congrArg Int32.toInt c42
          have hb44 : In r36 0 0 := In.eq1 eL40R (⟨by decide, by decide⟩ : In 0 0 0) cc43 (by omega) (by omega)
          refine lv_aload_n hx hb dX11_pieceHere_44 rfl (lv_at hl 0 rfl) ?_
          refine va_ldcS hx hb hown (hG.2.2.1 ("RulerWordModel", 151, "false", 6) (by decide +kernel)) dX11_pieceHere_45 ?_
          obtain ⟨v0_45, v2_45, v3_45, v4_45, v5_45, v6_45, v8_45, v9_45, v12_45, v13_45, v14_45, v15_45, v16_45, v17_45, v18_45, v19_45, v20_45, v21_45, v22_45, v23_45, v25_45, v36_45, v37_45, v38_45, v39_45, v40_45, v45_45, v46_45, v47_45, v48_45, v50_45, v51_45, v53_45, v55_45, hf46, hv0_45, hv2_45, hg2_45, hv3_45, hg3_45, hv4_45, hg4_45, hv5_45, hg5_45, hv6_45, hg6_45, hv8_45, hv9_45, hg9_45, hv12_45, hv13_45, hg13_45, hv14_45, hg14_45, hv15_45, hg15_45, hv17_45, hg17_45, hv20_45, hg20_45, hv23_45, hg23_45, hv25_45, hv36_45, hg36_45, hv47_45, hg47_45, hv48_45, hg48_45, hv53_45, hg53_45, hv55_45, hg55_45, hrel0_45⟩ := hT.2.2 0 (by decide)
          have hg2_45 : v2_45.toInt = th 13 := hg2_45
          have hg3_45 : v3_45.toInt = zz41 := hg3_45
          have hg4_45 : v4_45.toInt = th 42 := hg4_45
          have hg5_45 : v5_45.toInt = th 40 := hg5_45
          have hg6_45 : v6_45.toInt = th 41 := hg6_45
          have hg9_45 : v9_45.toInt = th 35 := hg9_45
          have hg13_45 : v13_45.toInt = th 36 := hg13_45
          have hg14_45 : v14_45.toInt = th 10 := hg14_45
          have hg15_45 : v15_45.toInt = th 11 := hg15_45
          have hg17_45 : v17_45.toInt = th 12 := hg17_45
          have hg20_45 : v20_45.toInt = th 14 := hg20_45
          have hg23_45 : v23_45.toInt = th 15 := hg23_45
          have hg36_45 : v36_45.toInt = th 18 := hg36_45
          have hg47_45 : v47_45.toInt = th 16 := hg47_45
          have hg48_45 : v48_45.toInt = th 17 := hg48_45
          have hg53_45 : v53_45.toInt = th 38 := hg53_45
          have hg55_45 : v55_45.toInt = th 39 := hg55_45
          refine call_i (run_V (rm := rm_X11_takes) hx hb hml hown hts (s_X11_takes l g ad (gset th 37 zz41) _ _ _ 6 hst hT (by decide)) cV_X11_takes wg_1538 ⟨Nat.le_of_ble_eq_true rfl, Nat.le_of_ble_eq_true rfl⟩ hG hE hA hP hD hS (hst.1 255 (by decide)) hf46 rfl rfl hl.1 (As := [.ref (g.2.2.1 6)]) (rest := []) rfl (Nat.le_of_ble_eq_true rfl) dX11_pieceHere_47 ⟨Nat.le_of_ble_eq_true rfl, Nat.le_of_ble_eq_true rfl⟩) hA hD hS (fun r47 L48 f49 H locs hp50 hP hD hS => ?_)
          obtain ⟨eL51L, eL51T, eL51F, eL51R⟩ := hp50
          have eL51L : L48 = L := eL51L
          rw [eL51L] at hP hD
          obtain ⟨zz52, hzz52, eL51T⟩ := eL51T
          have hT : TI g ad (gset (gset th 37 zz41) 37 zz52) f49 := eL51T
          have hT : TI g ad (gset th 37 zz52) f49 := TI.cast hT (by funext q; simp only [gset]; (repeat' split); all_goals first | rfl | omega | (subst_vars; rfl) | (exfalso; omega))
          have eL51F : ∀ b, b ≠ (ad 255) → f49 b = f38 b := eL51F
          have hfr : (∀ b, b ≠ (ad 255) → f49 b = f b) := fun b z0_ => (eL51F b z0_).trans (hfr b z0_)
          have eL51R : In r47 0 1 := eL51R
          refine lv_if_eq (tgt := 55) hx hb dX11_pieceHere_50 (by decide) (fun c53 => ?_) (fun c53 => ?_)
          ·
            have oc0 : (0 : Int32).toInt = 0 := by decide
            have cc54 : r47.toInt = (0 : Int32).toInt := congrArg Int32.toInt c53
            have hb55 : In r47 0 0 := In.eq1 eL51R (⟨by decide, by decide⟩ : In 0 0 0) cc54 (by omega) (by omega)
            refine lv_aload_n hx hb dX11_pieceHere_55 rfl (lv_at hl 0 rfl) ?_
            refine va_ldcS hx hb hown (hG.2.2.1 ("RulerWordModel", 153, "skip", 7) (by decide +kernel)) dX11_pieceHere_56 ?_
            obtain ⟨v0_56, v2_56, v3_56, v4_56, v5_56, v6_56, v8_56, v9_56, v12_56, v13_56, v14_56, v15_56, v16_56, v17_56, v18_56, v19_56, v20_56, v21_56, v22_56, v23_56, v25_56, v36_56, v37_56, v38_56, v39_56, v40_56, v45_56, v46_56, v47_56, v48_56, v50_56, v51_56, v53_56, v55_56, hf57, hv0_56, hv2_56, hg2_56, hv3_56, hg3_56, hv4_56, hg4_56, hv5_56, hg5_56, hv6_56, hg6_56, hv8_56, hv9_56, hg9_56, hv12_56, hv13_56, hg13_56, hv14_56, hg14_56, hv15_56, hg15_56, hv17_56, hg17_56, hv20_56, hg20_56, hv23_56, hg23_56, hv25_56, hv36_56, hg36_56, hv47_56, hg47_56, hv48_56, hg48_56, hv53_56, hg53_56, hv55_56, hg55_56, hrel0_56⟩ := hT.2.2 0 (by decide)
            have hg2_56 : v2_56.toInt = th 13 := hg2_56
            have hg3_56 : v3_56.toInt = zz52 := hg3_56
            have hg4_56 : v4_56.toInt = th 42 := hg4_56
            have hg5_56 : v5_56.toInt = th 40 := hg5_56
            have hg6_56 : v6_56.toInt = th 41 := hg6_56
            have hg9_56 : v9_56.toInt = th 35 := hg9_56
            have hg13_56 : v13_56.toInt = th 36 := hg13_56
            have hg14_56 : v14_56.toInt = th 10 := hg14_56
            have hg15_56 : v15_56.toInt = th 11 := hg15_56
            have hg17_56 : v17_56.toInt = th 12 := hg17_56
            have hg20_56 : v20_56.toInt = th 14 := hg20_56
            have hg23_56 : v23_56.toInt = th 15 := hg23_56
            have hg36_56 : v36_56.toInt = th 18 := hg36_56
            have hg47_56 : v47_56.toInt = th 16 := hg47_56
            have hg48_56 : v48_56.toInt = th 17 := hg48_56
            have hg53_56 : v53_56.toInt = th 38 := hg53_56
            have hg55_56 : v55_56.toInt = th 39 := hg55_56
            refine call_i (run_V (rm := rm_X11_takes) hx hb hml hown hts (s_X11_takes l g ad (gset th 37 zz52) _ _ _ 7 hst hT (by decide)) cV_X11_takes wg_1538 ⟨Nat.le_of_ble_eq_true rfl, Nat.le_of_ble_eq_true rfl⟩ hG hE hA hP hD hS (hst.1 255 (by decide)) hf57 rfl rfl hl.1 (As := [.ref (g.2.2.1 7)]) (rest := []) rfl (Nat.le_of_ble_eq_true rfl) dX11_pieceHere_58 ⟨Nat.le_of_ble_eq_true rfl, Nat.le_of_ble_eq_true rfl⟩) hA hD hS (fun r58 L59 f60 H locs hp61 hP hD hS => ?_)
            obtain ⟨eL62L, eL62T, eL62F, eL62R⟩ := hp61
            have eL62L : L59 = L := eL62L
            rw [eL62L] at hP hD
            obtain ⟨zz63, hzz63, eL62T⟩ := eL62T
            have hT : TI g ad (gset (gset th 37 zz52) 37 zz63) f60 := eL62T
            have hT : TI g ad (gset th 37 zz63) f60 := TI.cast hT (by funext q; simp only [gset]; (repeat' split); all_goals first | rfl | omega | (subst_vars; rfl) | (exfalso; omega))
            have eL62F : ∀ b, b ≠ (ad 255) → f60 b = f49 b := eL62F
            have hfr : (∀ b, b ≠ (ad 255) → f60 b = f b) := fun b z0_ => (eL62F b z0_).trans (hfr b z0_)
            have eL62R : In r58 0 1 := eL62R
            refine lv_if_eq (tgt := 68) hx hb dX11_pieceHere_61 (by decide) (fun c64 => ?_) (fun c64 => ?_)
            ·
              have oc0 : (0 : Int32).toInt = 0 := by decide
              have cc65 : r58.toInt = (0 : Int32).toInt := congrArg Int32.toInt c64
              have hb66 : In r58 0 0 := In.eq1 eL62R (⟨by decide, by decide⟩ : In 0 0 0) cc65 (by omega) (by omega)
              refine lv_iconst (v := (-1)) hx hb dX11_pieceHere_68 (by decide) ?_
              exact ret_i (ty := .int) hx hb hr hlocks (rfl) hP hD hS (Nat.le_of_ble_eq_true rfl) (Nat.le_of_ble_eq_true rfl) (⟨rfl, ⟨zz63, (show th 37 ≤ zz63 ∧ zz63 ≤ 500 from (by have ocm1 : ((-1) : Int32).toInt = (-1) := (by decide); omega)), TI.cast hT (by funext q; simp only [gset]; (repeat' split); all_goals first | rfl | omega | (subst_vars; rfl) | (exfalso; omega))⟩, hfr, (⟨by decide, by decide⟩ : In (-1) (-1) 5)⟩) dX11_pieceHere_69
            ·
              have oc0 : (0 : Int32).toInt = 0 := by decide
              have cc67 : r58.toInt ≠ (0 : Int32).toInt := i32_ne c64
              have hb68 : In r58 1 1 := In.ne1 eL62R (⟨by decide, by decide⟩ : In 0 0 0) cc67 (by omega) (by omega)
              refine lv_iconst (v := 5) hx hb dX11_pieceHere_64 (by decide) ?_
              refine lv_goto (tgt := 69) hx hb dX11_pieceHere_65 (by decide) ?_
              exact ret_i (ty := .int) hx hb hr hlocks (rfl) hP hD hS (Nat.le_of_ble_eq_true rfl) (Nat.le_of_ble_eq_true rfl) (⟨rfl, ⟨zz63, (show th 37 ≤ zz63 ∧ zz63 ≤ 500 from (by have oc5 : (5 : Int32).toInt = 5 := (by decide); omega)), TI.cast hT (by funext q; simp only [gset]; (repeat' split); all_goals first | rfl | omega | (subst_vars; rfl) | (exfalso; omega))⟩, hfr, (⟨by decide, by decide⟩ : In 5 (-1) 5)⟩) dX11_pieceHere_69
          ·
            have oc0 : (0 : Int32).toInt = 0 := by decide
            have cc69 : r47.toInt ≠ (0 : Int32).toInt := i32_ne c53
            have hb70 : In r47 1 1 := In.ne1 eL51R (⟨by decide, by decide⟩ : In 0 0 0) cc69 (by omega) (by omega)
            refine lv_iconst (v := 4) hx hb dX11_pieceHere_53 (by decide) ?_
            exact ret_i (ty := .int) hx hb hr hlocks (rfl) hP hD hS (Nat.le_of_ble_eq_true rfl) (Nat.le_of_ble_eq_true rfl) (⟨rfl, ⟨zz52, (show th 37 ≤ zz52 ∧ zz52 ≤ 500 from (by have oc4 : (4 : Int32).toInt = 4 := (by decide); omega)), TI.cast hT (by funext q; simp only [gset]; (repeat' split); all_goals first | rfl | omega | (subst_vars; rfl) | (exfalso; omega))⟩, hfr, (⟨by decide, by decide⟩ : In 4 (-1) 5)⟩) dX11_pieceHere_54
        ·
          have oc0 : (0 : Int32).toInt = 0 := by decide
          have cc71 : r36.toInt ≠ (0 : Int32).toInt := i32_ne c42
          have hb72 : In r36 1 1 := In.ne1 eL40R (⟨by decide, by decide⟩ : In 0 0 0) cc71 (by omega) (by omega)
          refine lv_iconst (v := 3) hx hb dX11_pieceHere_42 (by decide) ?_
          exact ret_i (ty := .int) hx hb hr hlocks (rfl) hP hD hS (Nat.le_of_ble_eq_true rfl) (Nat.le_of_ble_eq_true rfl) (⟨rfl, ⟨zz41, (show th 37 ≤ zz41 ∧ zz41 ≤ 500 from (by have oc3 : (3 : Int32).toInt = 3 := (by decide); omega)), TI.cast hT (by funext q; simp only [gset]; (repeat' split); all_goals first | rfl | omega | (subst_vars; rfl) | (exfalso; omega))⟩, hfr, (⟨by decide, by decide⟩ : In 3 (-1) 5)⟩) dX11_pieceHere_43
      ·
        have oc0 : (0 : Int32).toInt = 0 := by decide
        have cc73 : r25.toInt ≠ (0 : Int32).toInt := i32_ne c31
        have hb74 : In r25 1 1 := In.ne1 eL29R (⟨by decide, by decide⟩ : In 0 0 0) cc73 (by omega) (by omega)
        refine lv_iconst (v := 2) hx hb dX11_pieceHere_31 (by decide) ?_
        exact ret_i (ty := .int) hx hb hr hlocks (rfl) hP hD hS (Nat.le_of_ble_eq_true rfl) (Nat.le_of_ble_eq_true rfl) (⟨rfl, ⟨zz30, (show th 37 ≤ zz30 ∧ zz30 ≤ 500 from (by have oc2 : (2 : Int32).toInt = 2 := (by decide); omega)), TI.cast hT (by funext q; simp only [gset]; (repeat' split); all_goals first | rfl | omega | (subst_vars; rfl) | (exfalso; omega))⟩, hfr, (⟨by decide, by decide⟩ : In 2 (-1) 5)⟩) dX11_pieceHere_32
    ·
      have oc0 : (0 : Int32).toInt = 0 := by decide
      have cc75 : r14.toInt ≠ (0 : Int32).toInt := i32_ne c20
      have hb76 : In r14 1 1 := In.ne1 eL18R (⟨by decide, by decide⟩ : In 0 0 0) cc75 (by omega) (by omega)
      refine lv_iconst (v := 1) hx hb dX11_pieceHere_20 (by decide) ?_
      exact ret_i (ty := .int) hx hb hr hlocks (rfl) hP hD hS (Nat.le_of_ble_eq_true rfl) (Nat.le_of_ble_eq_true rfl) (⟨rfl, ⟨zz19, (show th 37 ≤ zz19 ∧ zz19 ≤ 500 from (by have oc1 : (1 : Int32).toInt = 1 := (by decide); omega)), TI.cast hT (by funext q; simp only [gset]; (repeat' split); all_goals first | rfl | omega | (subst_vars; rfl) | (exfalso; omega))⟩, hfr, (⟨by decide, by decide⟩ : In 1 (-1) 5)⟩) dX11_pieceHere_21
  ·
    have oc0 : (0 : Int32).toInt = 0 := by decide
    have cc77 : r3.toInt ≠ (0 : Int32).toInt := i32_ne c9
    have hb78 : In r3 1 1 := In.ne1 eL7R (⟨by decide, by decide⟩ : In 0 0 0) cc77 (by omega) (by omega)
    refine lv_iconst (v := 0) hx hb dX11_pieceHere_9 (by decide) ?_
    exact ret_i (ty := .int) hx hb hr hlocks (rfl) hP hD hS (Nat.le_of_ble_eq_true rfl) (Nat.le_of_ble_eq_true rfl) (⟨rfl, ⟨zz8, (show th 37 ≤ zz8 ∧ zz8 ≤ 500 from (by have oc0 : (0 : Int32).toInt = 0 := (by decide); omega)), TI.cast hT (by funext q; simp only [gset]; (repeat' split); all_goals first | rfl | omega | (subst_vars; rfl) | (exfalso; omega))⟩, hfr, (⟨by decide, by decide⟩ : In 0 (-1) 5)⟩) dX11_pieceHere_10

abbrev rm_X11_starts : Room := { frames := 3, cells := 0, slots := 0, locals := 61 }
abbrev po_X11_starts (g : GG) (ad : Nat → Nat) (th : Nat → Int) (L : List Nat) (f : HP)  : (List Nat × HP) → Prop := fun u => u.1 = L ∧ (∃ za zr zl ze : Int, (th 37 ≤ za ∧ za ≤ 500) ∧ TI g ad (gset (gset (gset (gset th 37 za) 40 zr) 41 zl) 42 ze) u.2) ∧ (∀ b, b ≠ (ad 255) → b ≠ (ad 257) → u.2 b = f b)
set_option maxHeartbeats 4000000 in
set_option maxRecDepth 100000 in
theorem s_X11_starts (l : Launch) (g : GG) (ad : Nat → Nat) (th : Nat → Int) (L : List Nat) (f : HP) (sz : Nat)  (hst : ST ad L) (hT : TI g ad th f)  : MtV l g yX11_starts cX11_starts 3 rm_X11_starts [.ref (ad 255)] L f sz (po_X11_starts g ad th L f ) := by
  refine MtV.of (by decide +kernel) (Nat.le_of_ble_eq_true rfl) ?_
  intro p e s m below meth c A hEn hP hD hS ls hl
  obtain ⟨hx, hb, hr, hml, hown, hlocks, hts, hG, hA, hE, hnm⟩ := hEn
  have hown : s.vm.findClass "RulerWordModel" = some m.cls := hown
  have hl : lv_has ls 3 [(0, .ref (ad 255))] := hl
  have hfr : (∀ b, b ≠ (ad 255) → b ≠ (ad 257) → f b = f b) := fun b z0_ z1_ => rfl
  refine lv_aload_n hx hb dX11_starts_0 rfl (lv_at hl 0 rfl) ?_
  obtain ⟨v0_1, v2_1, v3_1, v4_1, v5_1, v6_1, v8_1, v9_1, v12_1, v13_1, v14_1, v15_1, v16_1, v17_1, v18_1, v19_1, v20_1, v21_1, v22_1, v23_1, v25_1, v36_1, v37_1, v38_1, v39_1, v40_1, v45_1, v46_1, v47_1, v48_1, v50_1, v51_1, v53_1, v55_1, hf2, hv0_1, hv2_1, hg2_1, hv3_1, hg3_1, hv4_1, hg4_1, hv5_1, hg5_1, hv6_1, hg6_1, hv8_1, hv9_1, hg9_1, hv12_1, hv13_1, hg13_1, hv14_1, hg14_1, hv15_1, hg15_1, hv17_1, hg17_1, hv20_1, hg20_1, hv23_1, hg23_1, hv25_1, hv36_1, hg36_1, hv47_1, hg47_1, hv48_1, hg48_1, hv53_1, hg53_1, hv55_1, hg55_1, hrel0_1⟩ := hT.2.2 0 (by decide)
  refine call_v (run_V (rm := rm_X11_digits) hx hb hml hown hts (s_X11_digits l g ad th _ _ _  hst hT ) cV_X11_digits wg_1570 ⟨Nat.le_of_ble_eq_true rfl, Nat.le_of_ble_eq_true rfl⟩ hG hE hA hP hD hS (hst.1 255 (by decide)) hf2 rfl rfl hl.1 (As := []) (rest := []) rfl (Nat.le_of_ble_eq_true rfl) dX11_starts_1 ⟨Nat.le_of_ble_eq_true rfl, Nat.le_of_ble_eq_true rfl⟩) hA hD hS (fun L4 f5 H locs hp6 hP hD hS => ?_)
  obtain ⟨eL7L, eL7T, eL7F⟩ := hp6
  have eL7L : L4 = L := eL7L
  rw [eL7L] at hP hD
  obtain ⟨zz8, zz9, zz10, hzz8, eL7T⟩ := eL7T
  have hT : TI g ad (gset (gset (gset th 37 zz8) 40 zz9) 41 zz10) f5 := eL7T
  have eL7F : ∀ b, b ≠ (ad 255) → f5 b = f b := eL7F
  have hfr : (∀ b, b ≠ (ad 255) → b ≠ (ad 257) → f5 b = f b) := fun b z0_ z1_ => (eL7F b z0_).trans (hfr b z0_ z1_)
  refine lv_aload_n hx hb dX11_starts_4 rfl (lv_at hl 0 rfl) ?_
  obtain ⟨v0_11, v2_11, v3_11, v4_11, v5_11, v6_11, v8_11, v9_11, v12_11, v13_11, v14_11, v15_11, v16_11, v17_11, v18_11, v19_11, v20_11, v21_11, v22_11, v23_11, v25_11, v36_11, v37_11, v38_11, v39_11, v40_11, v45_11, v46_11, v47_11, v48_11, v50_11, v51_11, v53_11, v55_11, hf12, hv0_11, hv2_11, hg2_11, hv3_11, hg3_11, hv4_11, hg4_11, hv5_11, hg5_11, hv6_11, hg6_11, hv8_11, hv9_11, hg9_11, hv12_11, hv13_11, hg13_11, hv14_11, hg14_11, hv15_11, hg15_11, hv17_11, hg17_11, hv20_11, hg20_11, hv23_11, hg23_11, hv25_11, hv36_11, hg36_11, hv47_11, hg47_11, hv48_11, hg48_11, hv53_11, hg53_11, hv55_11, hg55_11, hrel0_11⟩ := hT.2.2 0 (by decide)
  have hg2_11 : v2_11.toInt = th 13 := hg2_11
  have hg3_11 : v3_11.toInt = zz8 := hg3_11
  have hg4_11 : v4_11.toInt = th 42 := hg4_11
  have hg5_11 : v5_11.toInt = zz9 := hg5_11
  have hg6_11 : v6_11.toInt = zz10 := hg6_11
  have hg9_11 : v9_11.toInt = th 35 := hg9_11
  have hg13_11 : v13_11.toInt = th 36 := hg13_11
  have hg14_11 : v14_11.toInt = th 10 := hg14_11
  have hg15_11 : v15_11.toInt = th 11 := hg15_11
  have hg17_11 : v17_11.toInt = th 12 := hg17_11
  have hg20_11 : v20_11.toInt = th 14 := hg20_11
  have hg23_11 : v23_11.toInt = th 15 := hg23_11
  have hg36_11 : v36_11.toInt = th 18 := hg36_11
  have hg47_11 : v47_11.toInt = th 16 := hg47_11
  have hg48_11 : v48_11.toInt = th 17 := hg48_11
  have hg53_11 : v53_11.toInt = th 38 := hg53_11
  have hg55_11 : v55_11.toInt = th 39 := hg55_11
  refine pl_get (v := .int v6_11) hx hb hts (fun w h => mT (inX11 w h)) hown hG.1 hP (hst.1 255 (by decide)) hf12 rfl 6 (by decide) (hts _ (mT wg_1342)) (fun _ h => h) rfl dX11_starts_5 ?_
  refine lv_aload_n hx hb dX11_starts_8 rfl (lv_at hl 0 rfl) ?_
  refine pl_get (v := .ref (ad 257)) hx hb hts (fun w h => mT (inX11 w h)) hown hG.1 hP (hst.1 255 (by decide)) hf12 rfl 7 (by decide) (hts _ (mT wg_1343)) (fun _ h => h) rfl dX11_starts_9 ?_
  refine lv_iconst (v := 0) hx hb dX11_starts_12 (by decide) ?_
  obtain ⟨rw13, hf14, hpn15, hpg16, hpn17, hpn18, hpn19, hpg20⟩ := hT.2.2 2 (by decide)
  have hin21 : vp_in 0 6 := In.inb (⟨by decide, by decide⟩ : In 0 0 0) (by decide) (by decide)
  refine pl_iald hx hb hG.1 hP (hst.1 257 (by decide)) 0 hf14 rfl hin21 dX11_starts_13 ?_
  refine lv_topi (fun x22 ex22 => ?_)
  have hb23 : In x22 0 9 := by rw [ex22]; exact pinI (k := 0) (by decide) hpn15
  have hgl24 : x22.toInt = th 30 := by rw [ex22]; exact pinE (k := 0) (by decide) hpg16
  have hJ22 : ∀ (y22_s0 : Int32) (H : Heap) (locs : List Loc) (ls : Array Slot), In y22_s0 0 1 → va_P g.1 vwCl (va_pl L f5) H → va_D A (va_pl L f5) → va_S A s.heap H locs → lv_has ls 3 [(0, .ref (ad 255))] → W p l e rm_X11_starts s m [.ref (ad 255)].toArray below meth c H locs 0 0 (MQ below (va_Qv (po_X11_starts g ad th L f ) (PstB g A) A) [.ref (ad 255)].toArray s rm_X11_starts.cells rm_X11_starts.slots A) (F0 m 22 ls [.int y22_s0]) := by
    intro y22_s0 H locs ls hy22_s0 hP hD hS hl
    refine lv_istore_n (lv' := [(1, .int y22_s0), (0, .ref (ad 255))]) hx hb dX11_starts_22 rfl hl (by decide) rfl (fun ls hl => ?_)
    refine lv_iconst (v := 0) hx hb dX11_starts_23 (by decide) ?_
    refine lv_istore_n (lv' := [(2, .int 0), (1, .int y22_s0), (0, .ref (ad 255))]) hx hb dX11_starts_24 rfl hl (by decide) rfl (fun ls hl => ?_)
    have hJ25 : ∀ (k25 : Nat) (y25_l1 : Int32) (y25_l2 : Int32) (f_25 : HP) (H : Heap) (locs : List Loc) (ls : Array Slot), In y25_l1 0 1 → In y25_l2 0 2147483647 → va_P g.1 vwCl (va_pl L f_25) H → va_D A (va_pl L f_25) → va_S A s.heap H locs → TI g ad (gset (gset (gset th 37 zz8) 40 zz9) 41 zz10) f_25 → (∀ b, b ≠ (ad 255) → b ≠ (ad 257) → f_25 b = f b) → f_25 (ad 255) = .inr (10, [.int v0_11, .ref (ad 256), .int v2_11, .int v3_11, .int v4_11, .int v5_11, .int v6_11, .ref (ad 257), .int v8_11, .int v9_11, .ref (ad 258), .ref (ad 259), .int v12_11, .int v13_11, .int v14_11, .int v15_11, .int v16_11, .int v17_11, .int v18_11, .int v19_11, .int v20_11, .long v21_11, .long v22_11, .int v23_11, .ref (ad 260), .int v25_11, .ref (ad 261), .ref (ad 262), .ref (ad 263), .ref (ad 264), .ref (ad 265), .ref (ad 266), .ref (ad 267), .ref (ad 268), .ref (ad 269), .ref (ad 270), .int v36_11, .int v37_11, .int v38_11, .int v39_11, .int v40_11, .ref (ad 271), .ref (ad 272), .ref (ad 273), .ref (ad 274), .long v45_11, .long v46_11, .int v47_11, .int v48_11, .ref (ad 275), .int v50_11, .int v51_11, .ref (ad 276), .int v53_11, .ref (ad 277), .int v55_11]) → (y25_l2.toInt ≤ v6_11.toInt ∧ 0 ≤ y25_l2.toInt) → lv_has ls 3 [(0, .ref (ad 255)), (1, .int y25_l1), (2, .int y25_l2)] → 2147483647 - y25_l2.toInt < ((k25 : Nat) : Int) → W p l e rm_X11_starts s m [.ref (ad 255)].toArray below meth c H locs 0 0 (MQ below (va_Qv (po_X11_starts g ad th L f ) (PstB g A) A) [.ref (ad 255)].toArray s rm_X11_starts.cells rm_X11_starts.slots A) (F0 m 25 ls []) := by
      intro k25
      induction k25 with
      | zero =>
        intro y25_l1 y25_l2 f_25 H locs ls hy25_l1 hy25_l2 hP hD hS hT hfr hf25 hinv25_0 hl hmz25
        exact ms0 hy25_l2 hmz25
      | succ k25 ih25 =>
        intro y25_l1 y25_l2 f_25 H locs ls hy25_l1 hy25_l2 hP hD hS hT hfr hf25 hinv25_0 hl hmz25
        refine lv_iload_n hx hb dX11_starts_25 rfl (lv_at hl 2 rfl) ?_
        refine lv_aload_n hx hb dX11_starts_26 rfl (lv_at hl 0 rfl) ?_
        refine pl_get (v := .int v6_11) hx hb hts (fun w h => mT (inX11 w h)) hown hG.1 hP (hst.1 255 (by decide)) hf25 rfl 6 (by decide) (hts _ (mT wg_1342)) (fun _ h => h) rfl dX11_starts_27 ?_
        have hJ82 : ∀ (H : Heap) (locs : List Loc) (ls : Array Slot), va_P g.1 vwCl (va_pl L f_25) H → va_D A (va_pl L f_25) → va_S A s.heap H locs → lv_has ls 3 [(0, .ref (ad 255)), (1, .int y25_l1), (2, .int y25_l2)] → W p l e rm_X11_starts s m [.ref (ad 255)].toArray below meth c H locs 0 0 (MQ below (va_Qv (po_X11_starts g ad th L f ) (PstB g A) A) [.ref (ad 255)].toArray s rm_X11_starts.cells rm_X11_starts.slots A) (F0 m 82 ls []) := by
          intro H locs ls hP hD hS hl
          refine lv_iload_n hx hb dX11_starts_82 rfl (lv_at hl 1 rfl) ?_
          refine lv_if_ne (tgt := 94) hx hb dX11_starts_83 (by decide) (fun c26 => ?_) (fun c26 => ?_)
          ·
            have oc0 : (0 : Int32).toInt = 0 := by decide
            have cc27 : y25_l1.toInt ≠ (0 : Int32).toInt := i32_ne c26
            have hb28 : In y25_l1 1 1 := In.ne1 hy25_l1 (⟨by decide, by decide⟩ : In 0 0 0) cc27 (by omega) (by omega)
            exact ret_v hx hb hr hlocks hP hD hS (Nat.le_of_ble_eq_true rfl) (Nat.le_of_ble_eq_true rfl) (⟨rfl, ⟨zz8, zz9, zz10, (th 42), (show th 37 ≤ zz8 ∧ zz8 ≤ 500 from (by obtain ⟨o0a, o0b⟩ := (hv2_11 : In _ _ _); obtain ⟨o1a, o1b⟩ := (hv3_11 : In _ _ _); obtain ⟨o2a, o2b⟩ := (hv4_11 : In _ _ _); obtain ⟨o3a, o3b⟩ := (hv5_11 : In _ _ _); obtain ⟨o4a, o4b⟩ := (hv6_11 : In _ _ _); obtain ⟨o5a, o5b⟩ := (hv9_11 : In _ _ _); obtain ⟨o6a, o6b⟩ := (hv13_11 : In _ _ _); obtain ⟨o7a, o7b⟩ := (hv14_11 : In _ _ _); obtain ⟨o8a, o8b⟩ := (hv15_11 : In _ _ _); obtain ⟨o9a, o9b⟩ := (hv17_11 : In _ _ _); obtain ⟨o10a, o10b⟩ := (hv20_11 : In _ _ _); obtain ⟨o11a, o11b⟩ := (hv23_11 : In _ _ _); obtain ⟨o12a, o12b⟩ := (hv36_11 : In _ _ _); obtain ⟨o13a, o13b⟩ := (hv47_11 : In _ _ _); obtain ⟨o14a, o14b⟩ := (hv48_11 : In _ _ _); obtain ⟨o15a, o15b⟩ := (hv53_11 : In _ _ _); obtain ⟨o16a, o16b⟩ := (hv55_11 : In _ _ _); obtain ⟨o17a, o17b⟩ := (hy25_l2 : In _ _ _); omega)), TI.cast hT (by funext q; simp only [gset]; (repeat' split); all_goals first | rfl | omega | (subst_vars; rfl) | (exfalso; omega))⟩, hfr⟩) dX11_starts_94
          ·
            have oc0 : (0 : Int32).toInt = 0 := by decide
            have cc29 : y25_l1.toInt = (0 : Int32).toInt := congrArg Int32.toInt c26
            have hb30 : In y25_l1 0 0 := In.eq1 hy25_l1 (⟨by decide, by decide⟩ : In 0 0 0) cc29 (by omega) (by omega)
            refine lv_aload_n hx hb dX11_starts_86 rfl (lv_at hl 0 rfl) ?_
            refine lv_aload_n hx hb dX11_starts_87 rfl (lv_at hl 0 rfl) ?_
            refine pl_get (v := .int v5_11) hx hb hts (fun w h => mT (inX11 w h)) hown hG.1 hP (hst.1 255 (by decide)) hf25 rfl 5 (by decide) (hts _ (mT wg_1341)) (fun _ h => h) rfl dX11_starts_88 ?_
            refine call_v (run_V (rm := rm_X11_fails) hx hb hml hown hts (s_X11_fails l g ad (gset (gset (gset th 37 zz8) 40 zz9) 41 zz10) _ _ _ v5_11 hst hT hv5_11) cV_X11_fails wg_1545 ⟨Nat.le_of_ble_eq_true rfl, Nat.le_of_ble_eq_true rfl⟩ hG hE hA hP hD hS (hst.1 255 (by decide)) hf25 rfl rfl hl.1 (As := [.int v5_11]) (rest := []) rfl (Nat.le_of_ble_eq_true rfl) dX11_starts_91 ⟨Nat.le_of_ble_eq_true rfl, Nat.le_of_ble_eq_true rfl⟩) hA hD hS (fun L32 f33 H locs hp34 hP hD hS => ?_)
            obtain ⟨eL35L, eL35T, eL35F⟩ := hp34
            have eL35L : L32 = L := eL35L
            rw [eL35L] at hP hD
            obtain ⟨zz36, hzz36, eL35T⟩ := eL35T
            have hT : TI g ad (gset (gset (gset (gset th 37 zz8) 40 zz9) 41 zz10) 42 zz36) f33 := eL35T
            have eL35F : ∀ b, b ≠ (ad 255) → f33 b = f_25 b := eL35F
            have hfr : (∀ b, b ≠ (ad 255) → b ≠ (ad 257) → f33 b = f b) := fun b z0_ z1_ => (eL35F b z0_).trans (hfr b z0_ z1_)
            exact ret_v hx hb hr hlocks hP hD hS (Nat.le_of_ble_eq_true rfl) (Nat.le_of_ble_eq_true rfl) (⟨rfl, ⟨zz8, zz9, zz10, zz36, (show th 37 ≤ zz8 ∧ zz8 ≤ 500 from (by omega)), TI.cast hT (by funext q; simp only [gset]; (repeat' split); all_goals first | rfl | omega | (subst_vars; rfl) | (exfalso; omega))⟩, hfr⟩) dX11_starts_94
        refine lv_icmp_ge (tgt := 82) hx hb dX11_starts_30 (by decide) (fun c37 => ?_) (fun c37 => ?_)
        ·
          have cc38 : v6_11.toInt ≤ y25_l2.toInt := i32_le.mp c37
          exact hJ82 _ _ _ hP hD hS (lv_sub hl [0, 1, 2] rfl)
        ·
          have cc39 : y25_l2.toInt < v6_11.toInt := i32_nle c37
          have hb40 : In y25_l2 0 499 := In.lt1 hy25_l2 hv6_11 cc39 (by omega) (by omega)
          have hb41 : In v6_11 1 500 := In.lt2 hy25_l2 hv6_11 cc39 (by omega) (by omega)
          refine lv_iload_n hx hb dX11_starts_33 rfl (lv_at hl 1 rfl) ?_
          refine lv_if_eq (tgt := 82) hx hb dX11_starts_34 (by decide) (fun c42 => ?_) (fun c42 => ?_)
          ·
            have oc0 : (0 : Int32).toInt = 0 := by decide
            have cc43 : y25_l1.toInt = (0 : Int32).toInt := congrArg Int32.toInt c42
            have hb44 : In y25_l1 0 0 := In.eq1 hy25_l1 (⟨by decide, by decide⟩ : In 0 0 0) cc43 (by omega) (by omega)
            exact hJ82 _ _ _ hP hD hS (lv_sub hl [0, 1, 2] rfl)
          ·
            have oc0 : (0 : Int32).toInt = 0 := by decide
            have cc45 : y25_l1.toInt ≠ (0 : Int32).toInt := i32_ne c42
            have hb46 : In y25_l1 1 1 := In.ne1 hy25_l1 (⟨by decide, by decide⟩ : In 0 0 0) cc45 (by omega) (by omega)
            refine lv_aload_n hx hb dX11_starts_37 rfl (lv_at hl 0 rfl) ?_
            refine lv_iload_n hx hb dX11_starts_38 rfl (lv_at hl 2 rfl) ?_
            refine call_i (run_V (rm := rm_X11_digitAt) hx hb hml hown hts (s_X11_digitAt l g ad (gset (gset (gset th 37 zz8) 40 zz9) 41 zz10) _ _ _ y25_l2 hst hT hb40 (show zz9 + y25_l2.toInt < 500 from (by obtain ⟨o0a, o0b⟩ := (hb40 : In _ _ _); obtain ⟨o1a, o1b⟩ := (hv2_11 : In _ _ _); obtain ⟨o2a, o2b⟩ := (hv3_11 : In _ _ _); obtain ⟨o3a, o3b⟩ := (hv4_11 : In _ _ _); obtain ⟨o4a, o4b⟩ := (hv5_11 : In _ _ _); obtain ⟨o5a, o5b⟩ := (hb41 : In _ _ _); obtain ⟨o6a, o6b⟩ := (hv9_11 : In _ _ _); obtain ⟨o7a, o7b⟩ := (hv13_11 : In _ _ _); obtain ⟨o8a, o8b⟩ := (hv14_11 : In _ _ _); obtain ⟨o9a, o9b⟩ := (hv15_11 : In _ _ _); obtain ⟨o10a, o10b⟩ := (hv17_11 : In _ _ _); obtain ⟨o11a, o11b⟩ := (hv20_11 : In _ _ _); obtain ⟨o12a, o12b⟩ := (hv23_11 : In _ _ _); obtain ⟨o13a, o13b⟩ := (hv36_11 : In _ _ _); obtain ⟨o14a, o14b⟩ := (hv47_11 : In _ _ _); obtain ⟨o15a, o15b⟩ := (hv48_11 : In _ _ _); obtain ⟨o16a, o16b⟩ := (hv53_11 : In _ _ _); obtain ⟨o17a, o17b⟩ := (hv55_11 : In _ _ _); omega))) cV_X11_digitAt wg_1577 ⟨Nat.le_of_ble_eq_true rfl, Nat.le_of_ble_eq_true rfl⟩ hG hE hA hP hD hS (hst.1 255 (by decide)) hf25 rfl rfl hl.1 (As := [.int y25_l2]) (rest := []) rfl (Nat.le_of_ble_eq_true rfl) dX11_starts_39 ⟨Nat.le_of_ble_eq_true rfl, Nat.le_of_ble_eq_true rfl⟩) hA hD hS (fun r47 L48 f49 H locs hp50 hP hD hS => ?_)
            obtain ⟨eL51L, eL51T, eL51R, eL51X0⟩ := hp50
            have eL51L : L48 = L := eL51L
            have eL51T : f49 = f_25 := eL51T
            rw [eL51L, eL51T] at hP hD
            have eL51R : In r47 (-176) 79 := eL51R
            obtain ⟨rw52, hf53, hc54⟩ := hT.2.2 1 (by decide)
            have hda55 : r47.toInt = (rw52 (zz9 + y25_l2.toInt).toNat).toInt - 48 := (eL51X0 _ hf53)
            refine lv_iconst (v := 2) hx hb dX11_starts_42 (by decide) ?_
            have hJ51 : ∀ (y51_s0 : Int32) (H : Heap) (locs : List Loc) (ls : Array Slot), In y51_s0 0 1 → va_P g.1 vwCl (va_pl L f_25) H → va_D A (va_pl L f_25) → va_S A s.heap H locs → lv_has ls 3 [(0, .ref (ad 255)), (1, .int y25_l1), (2, .int y25_l2)] → W p l e rm_X11_starts s m [.ref (ad 255)].toArray below meth c H locs 0 0 (MQ below (va_Qv (po_X11_starts g ad th L f ) (PstB g A) A) [.ref (ad 255)].toArray s rm_X11_starts.cells rm_X11_starts.slots A) (F0 m 51 ls [.int y51_s0]) := by
              intro y51_s0 H locs ls hy51_s0 hP hD hS hl
              refine lv_istore_n (lv' := [(1, .int y51_s0), (0, .ref (ad 255)), (2, .int y25_l2)]) hx hb dX11_starts_51 rfl hl (by decide) rfl (fun ls hl => ?_)
              refine lv_aload_n hx hb dX11_starts_52 rfl (lv_at hl 1 rfl) ?_
              refine pl_get (v := .ref (ad 257)) hx hb hts (fun w h => mT (inX11 w h)) hown hG.1 hP (hst.1 255 (by decide)) hf25 rfl 7 (by decide) (hts _ (mT wg_1343)) (fun _ h => h) rfl dX11_starts_53 ?_
              refine lv_iconst (v := 3) hx hb dX11_starts_56 (by decide) ?_
              refine lv_dup2_11 hx hb dX11_starts_57 rfl rfl ?_
              obtain ⟨rw56, hf57, hpn58, hpg59, hpn60, hpn61, hpn62, hpg63⟩ := hT.2.2 2 (by decide)
              have hin64 : vp_in 3 6 := In.inb (⟨by decide, by decide⟩ : In 3 3 3) (by decide) (by decide)
              refine pl_iald hx hb hG.1 hP (hst.1 257 (by decide)) 0 hf57 rfl hin64 dX11_starts_58 ?_
              refine lv_topi (fun x65 ex65 => ?_)
              refine lv_iload_n hx hb dX11_starts_59 rfl (lv_at hl 0 rfl) ?_
              have hJ74 : ∀ (y74_s0 : Int32) (H : Heap) (locs : List Loc) (ls : Array Slot), In y74_s0 (-2147483648) 2147483647 → va_P g.1 vwCl (va_pl L f_25) H → va_D A (va_pl L f_25) → va_S A s.heap H locs → lv_has ls 3 [(0, .ref (ad 255)), (1, .int y51_s0), (2, .int y25_l2)] → W p l e rm_X11_starts s m [.ref (ad 255)].toArray below meth c H locs 0 0 (MQ below (va_Qv (po_X11_starts g ad th L f ) (PstB g A) A) [.ref (ad 255)].toArray s rm_X11_starts.cells rm_X11_starts.slots A) (F0 m 74 ls [.int y74_s0, .int x65, .int 3, .ref (ad 257)]) := by
                intro y74_s0 H locs ls hy74_s0 hP hD hS hl
                refine lv_ior hx hb dX11_starts_74 ?_
                refine lv_topi (fun x66 ex66 => ?_)
                refine pl_iastE hx hb hG.1 hP hD hS (hst.1 257 (by decide)) 0 hf57 rfl (In.inb (⟨by decide, by decide⟩ : In 3 3 3) (by decide) (by decide)) dX11_starts_75 (fun H locs f67 r70 er70 hf68 ho69 hP hD hS => ?_)
                have hpn71 : In (r70 0) 0 9 := (upd_neI (k := 0) er70 (by decide)) ▸ hpn58
                have hpg72 := (congrArg Int32.toInt (upd_neI (k := 0) er70 (by decide))).trans hpg59
                have hpn73 : In (r70 1) 0 4 := (upd_neI (k := 1) er70 (by decide)) ▸ hpn60
                have hpn74 : In (r70 2) 0 6 := (upd_neI (k := 2) er70 (by decide)) ▸ hpn61
                have hpn75 : In (r70 4) 0 511 := (upd_neI (k := 4) er70 (by decide)) ▸ hpn62
                have hpg76 := (congrArg Int32.toInt (upd_neI (k := 4) er70 (by decide))).trans hpg63
                have hf77 := (ho69 (ad 255) (hst.ne (by decide) (by decide) (by decide))).trans hf25
                have hf78 := (ho69 (ad 256) (hst.ne (by decide) (by decide) (by decide))).trans hf53
                have hfr : (∀ b, b ≠ (ad 255) → b ≠ (ad 257) → f67 b = f b) := fun b z0_ z1_ => (ho69 b z1_).trans (hfr b z0_ z1_)
                obtain ⟨x79, ex79⟩ : ∃ y : Int32, y = y25_l2 + 1 := ⟨_, rfl⟩
                have hb80 : In x79 1 500 := ex79 ▸ In.add hb40 (⟨by decide, by decide⟩ : In 1 1 1) (by decide) (by decide) (by decide) (by decide)
                have et81 : x79.toInt = y25_l2.toInt + 1 := In.adde ex79 hb40 (k := 1) (by decide) (by decide) (by decide)
                refine lv_iinc (v := x79) (lv' := [(2, .int x79), (0, .ref (ad 255)), (1, .int y51_s0)]) hx hb dX11_starts_76 hl (k := 2) rfl (by rw [ex79]; rfl) (by decide) rfl (fun ls hl => ?_)
                have hT := TI.updM hT hst (k := 2) (by decide) hf68 ho69 ⟨r70, rfl, hpn71, (hpg72.trans rfl), hpn73, hpn74, hpn75, (hpg76.trans rfl)⟩
                refine lv_goto (tgt := 25) hx hb dX11_starts_79 (by decide) ?_
                exact ih25 y51_s0 x79 _ _ _ _ hy51_s0 (In.mono hb80 (by decide) (by decide)) hP hD hS hT hfr hf77 (by obtain ⟨o0a, o0b⟩ := (hb80 : In _ _ _); obtain ⟨o1a, o1b⟩ := (hb41 : In _ _ _); obtain ⟨o2a, o2b⟩ := (hv2_11 : In _ _ _); obtain ⟨o3a, o3b⟩ := (hv3_11 : In _ _ _); obtain ⟨o4a, o4b⟩ := (hv4_11 : In _ _ _); obtain ⟨o5a, o5b⟩ := (hv5_11 : In _ _ _); obtain ⟨o6a, o6b⟩ := (hv9_11 : In _ _ _); obtain ⟨o7a, o7b⟩ := (hv13_11 : In _ _ _); obtain ⟨o8a, o8b⟩ := (hv14_11 : In _ _ _); obtain ⟨o9a, o9b⟩ := (hv15_11 : In _ _ _); obtain ⟨o10a, o10b⟩ := (hv17_11 : In _ _ _); obtain ⟨o11a, o11b⟩ := (hv20_11 : In _ _ _); obtain ⟨o12a, o12b⟩ := (hv23_11 : In _ _ _); obtain ⟨o13a, o13b⟩ := (hv36_11 : In _ _ _); obtain ⟨o14a, o14b⟩ := (hv47_11 : In _ _ _); obtain ⟨o15a, o15b⟩ := (hv48_11 : In _ _ _); obtain ⟨o16a, o16b⟩ := (hv53_11 : In _ _ _); obtain ⟨o17a, o17b⟩ := (hv55_11 : In _ _ _); obtain ⟨o18a, o18b⟩ := (hb40 : In _ _ _); omega) (lv_sub hl [1, 2, 0] rfl) (msu et81 (by decide) hmz25)
              refine lv_if_eq (tgt := 73) hx hb dX11_starts_60 (by decide) (fun c82 => ?_) (fun c82 => ?_)
              ·
                have oc0 : (0 : Int32).toInt = 0 := by decide
                have cc83 : y51_s0.toInt = (0 : Int32).toInt := congrArg Int32.toInt c82
                have hb84 : In y51_s0 0 0 := In.eq1 hy51_s0 (⟨by decide, by decide⟩ : In 0 0 0) cc83 (by omega) (by omega)
                refine lv_iconst (v := 0) hx hb dX11_starts_73 (by decide) ?_
                exact hJ74 0 _ _ _ (⟨by decide, by decide⟩ : In 0 (-2147483648) 2147483647) hP hD hS (lv_sub hl [1, 0, 2] rfl)
              ·
                have oc0 : (0 : Int32).toInt = 0 := by decide
                have cc85 : y51_s0.toInt ≠ (0 : Int32).toInt := i32_ne c82
                have hb86 : In y51_s0 1 1 := In.ne1 hy51_s0 (⟨by decide, by decide⟩ : In 0 0 0) cc85 (by omega) (by omega)
                refine lv_aload_n hx hb dX11_starts_63 rfl (lv_at hl 1 rfl) ?_
                refine lv_iload_n hx hb dX11_starts_64 rfl (lv_at hl 2 rfl) ?_
                refine call_i (run_V (rm := rm_X11_digitAt) hx hb hml hown hts (s_X11_digitAt l g ad (gset (gset (gset th 37 zz8) 40 zz9) 41 zz10) _ _ _ y25_l2 hst hT hb40 (show zz9 + y25_l2.toInt < 500 from (by obtain ⟨o0a, o0b⟩ := (hb40 : In _ _ _); obtain ⟨o1a, o1b⟩ := (hv2_11 : In _ _ _); obtain ⟨o2a, o2b⟩ := (hv3_11 : In _ _ _); obtain ⟨o3a, o3b⟩ := (hv4_11 : In _ _ _); obtain ⟨o4a, o4b⟩ := (hv5_11 : In _ _ _); obtain ⟨o5a, o5b⟩ := (hb41 : In _ _ _); obtain ⟨o6a, o6b⟩ := (hv9_11 : In _ _ _); obtain ⟨o7a, o7b⟩ := (hv13_11 : In _ _ _); obtain ⟨o8a, o8b⟩ := (hv14_11 : In _ _ _); obtain ⟨o9a, o9b⟩ := (hv15_11 : In _ _ _); obtain ⟨o10a, o10b⟩ := (hv17_11 : In _ _ _); obtain ⟨o11a, o11b⟩ := (hv20_11 : In _ _ _); obtain ⟨o12a, o12b⟩ := (hv23_11 : In _ _ _); obtain ⟨o13a, o13b⟩ := (hv36_11 : In _ _ _); obtain ⟨o14a, o14b⟩ := (hv47_11 : In _ _ _); obtain ⟨o15a, o15b⟩ := (hv48_11 : In _ _ _); obtain ⟨o16a, o16b⟩ := (hv53_11 : In _ _ _); obtain ⟨o17a, o17b⟩ := (hv55_11 : In _ _ _); omega))) cV_X11_digitAt wg_1577 ⟨Nat.le_of_ble_eq_true rfl, Nat.le_of_ble_eq_true rfl⟩ hG hE hA hP hD hS (hst.1 255 (by decide)) hf25 rfl rfl hl.1 (As := [.int y25_l2]) (rest := [.int x65, .int 3, .ref (ad 257)]) rfl (Nat.le_of_ble_eq_true rfl) dX11_starts_65 ⟨Nat.le_of_ble_eq_true rfl, Nat.le_of_ble_eq_true rfl⟩) hA hD hS (fun r87 L88 f89 H locs hp90 hP hD hS => ?_)
                obtain ⟨eL91L, eL91T, eL91R, eL91X0⟩ := hp90
                have eL91L : L88 = L := eL91L
                have eL91T : f89 = f_25 := eL91T
                rw [eL91L, eL91T] at hP hD
                have eL91R : In r87 (-176) 79 := eL91R
                have hda92 : r87.toInt = (rw52 (zz9 + y25_l2.toInt).toNat).toInt - 48 := (eL91X0 _ hf53)
                refine lv_iload_n hx hb dX11_starts_68 rfl (lv_at hl 2 rfl) ?_
                refine lv_ishl hx hb dX11_starts_69 ?_
                refine lv_topi (fun x93 ex93 => ?_)
                refine lv_goto (tgt := 74) hx hb dX11_starts_70 (by decide) ?_
                exact hJ74 x93 _ _ _ (In.full x93) hP hD hS (lv_sub hl [1, 0, 2] rfl)
            refine lv_icmp_ge (tgt := 50) hx hb dX11_starts_43 (by decide) (fun c94 => ?_) (fun c94 => ?_)
            ·
              have oc2 : (2 : Int32).toInt = 2 := by decide
              have cc95 : (2 : Int32).toInt ≤ r47.toInt := i32_le.mp c94
              have hb96 : In r47 2 79 := In.ge1 eL51R (⟨by decide, by decide⟩ : In 2 2 2) cc95 (by omega) (by omega)
              refine lv_iconst (v := 0) hx hb dX11_starts_50 (by decide) ?_
              exact hJ51 0 _ _ _ (⟨by decide, by decide⟩ : In 0 0 1) hP hD hS (lv_sub hl [0, 1, 2] rfl)
            ·
              have oc2 : (2 : Int32).toInt = 2 := by decide
              have cc97 : r47.toInt < (2 : Int32).toInt := i32_nle c94
              have hb98 : In r47 (-176) 1 := In.lt1 eL51R (⟨by decide, by decide⟩ : In 2 2 2) cc97 (by omega) (by omega)
              refine lv_iconst (v := 1) hx hb dX11_starts_46 (by decide) ?_
              refine lv_goto (tgt := 51) hx hb dX11_starts_47 (by decide) ?_
              exact hJ51 1 _ _ _ (⟨by decide, by decide⟩ : In 1 0 1) hP hD hS (lv_sub hl [0, 1, 2] rfl)
    exact hJ25 ((2147483647 - (0 : Int32).toInt).toNat + 1) y22_s0 0 _ _ _ _ hy22_s0 (⟨by decide, by decide⟩ : In 0 0 2147483647) hP hD hS hT hfr hf12 (by have oc0 : (0 : Int32).toInt = 0 := (by decide); obtain ⟨o1a, o1b⟩ := (hv6_11 : In _ _ _); obtain ⟨o2a, o2b⟩ := (hv2_11 : In _ _ _); obtain ⟨o3a, o3b⟩ := (hv3_11 : In _ _ _); obtain ⟨o4a, o4b⟩ := (hv4_11 : In _ _ _); obtain ⟨o5a, o5b⟩ := (hv5_11 : In _ _ _); obtain ⟨o6a, o6b⟩ := (hv9_11 : In _ _ _); obtain ⟨o7a, o7b⟩ := (hv13_11 : In _ _ _); obtain ⟨o8a, o8b⟩ := (hv14_11 : In _ _ _); obtain ⟨o9a, o9b⟩ := (hv15_11 : In _ _ _); obtain ⟨o10a, o10b⟩ := (hv17_11 : In _ _ _); obtain ⟨o11a, o11b⟩ := (hv20_11 : In _ _ _); obtain ⟨o12a, o12b⟩ := (hv23_11 : In _ _ _); obtain ⟨o13a, o13b⟩ := (hv36_11 : In _ _ _); obtain ⟨o14a, o14b⟩ := (hv47_11 : In _ _ _); obtain ⟨o15a, o15b⟩ := (hv48_11 : In _ _ _); obtain ⟨o16a, o16b⟩ := (hv53_11 : In _ _ _); obtain ⟨o17a, o17b⟩ := (hv55_11 : In _ _ _); omega) (lv_sub hl [2, 1, 0] rfl) (msI _)
  refine lv_icmp_ne (tgt := 21) hx hb dX11_starts_14 (by decide) (fun c99 => ?_) (fun c99 => ?_)
  ·
    have cc100 : v6_11.toInt ≠ x22.toInt := i32_ne c99
    refine lv_iconst (v := 0) hx hb dX11_starts_21 (by decide) ?_
    exact hJ22 0 _ _ _ (⟨by decide, by decide⟩ : In 0 0 1) hP hD hS (lv_sub hl [0] rfl)
  ·
    have cc101 : v6_11.toInt = x22.toInt := congrArg Int32.toInt c99
    have hb102 : In v6_11 0 9 := In.eq1 hv6_11 hb23 cc101 (by omega) (by omega)
    refine lv_iconst (v := 1) hx hb dX11_starts_17 (by decide) ?_
    refine lv_goto (tgt := 22) hx hb dX11_starts_18 (by decide) ?_
    exact hJ22 1 _ _ _ (⟨by decide, by decide⟩ : In 1 0 1) hP hD hS (lv_sub hl [0] rfl)

abbrev rm_X11_liars : Room := { frames := 3, cells := 0, slots := 0, locals := 61 }
abbrev po_X11_liars (g : GG) (ad : Nat → Nat) (th : Nat → Int) (L : List Nat) (f : HP)  : (List Nat × HP) → Prop := fun u => u.1 = L ∧ (∃ za zr zl ze zf : Int, ((th 37 ≤ za ∧ za ≤ 500) ∧ capI zf (th 30)) ∧ TI g ad (gset (gset (gset (gset (gset th 37 za) 40 zr) 41 zl) 42 ze) 34 zf) u.2) ∧ (∀ b, b ≠ (ad 255) → b ≠ (ad 257) → u.2 b = f b)
set_option maxHeartbeats 4000000 in
set_option maxRecDepth 100000 in
theorem s_X11_liars (l : Launch) (g : GG) (ad : Nat → Nat) (th : Nat → Int) (L : List Nat) (f : HP) (sz : Nat)  (hst : ST ad L) (hT : TI g ad th f) (hl0 : th 34 = 0) (hl1 : 3 ≤ th 30 ∧ th 30 ≤ 9) : MtV l g yX11_liars cX11_liars 3 rm_X11_liars [.ref (ad 255)] L f sz (po_X11_liars g ad th L f ) := by
  refine MtV.of (by decide +kernel) (Nat.le_of_ble_eq_true rfl) ?_
  intro p e s m below meth c A hEn hP hD hS ls hl
  obtain ⟨hx, hb, hr, hml, hown, hlocks, hts, hG, hA, hE, hnm⟩ := hEn
  have hown : s.vm.findClass "RulerWordModel" = some m.cls := hown
  have hl : lv_has ls 3 [(0, .ref (ad 255))] := hl
  have hfr : (∀ b, b ≠ (ad 255) → b ≠ (ad 257) → f b = f b) := fun b z0_ z1_ => rfl
  refine lv_aload_n hx hb dX11_liars_0 rfl (lv_at hl 0 rfl) ?_
  obtain ⟨v0_1, v2_1, v3_1, v4_1, v5_1, v6_1, v8_1, v9_1, v12_1, v13_1, v14_1, v15_1, v16_1, v17_1, v18_1, v19_1, v20_1, v21_1, v22_1, v23_1, v25_1, v36_1, v37_1, v38_1, v39_1, v40_1, v45_1, v46_1, v47_1, v48_1, v50_1, v51_1, v53_1, v55_1, hf2, hv0_1, hv2_1, hg2_1, hv3_1, hg3_1, hv4_1, hg4_1, hv5_1, hg5_1, hv6_1, hg6_1, hv8_1, hv9_1, hg9_1, hv12_1, hv13_1, hg13_1, hv14_1, hg14_1, hv15_1, hg15_1, hv17_1, hg17_1, hv20_1, hg20_1, hv23_1, hg23_1, hv25_1, hv36_1, hg36_1, hv47_1, hg47_1, hv48_1, hg48_1, hv53_1, hg53_1, hv55_1, hg55_1, hrel0_1⟩ := hT.2.2 0 (by decide)
  refine call_v (run_V (rm := rm_X11_digits) hx hb hml hown hts (s_X11_digits l g ad th _ _ _  hst hT ) cV_X11_digits wg_1570 ⟨Nat.le_of_ble_eq_true rfl, Nat.le_of_ble_eq_true rfl⟩ hG hE hA hP hD hS (hst.1 255 (by decide)) hf2 rfl rfl hl.1 (As := []) (rest := []) rfl (Nat.le_of_ble_eq_true rfl) dX11_liars_1 ⟨Nat.le_of_ble_eq_true rfl, Nat.le_of_ble_eq_true rfl⟩) hA hD hS (fun L4 f5 H locs hp6 hP hD hS => ?_)
  obtain ⟨eL7L, eL7T, eL7F⟩ := hp6
  have eL7L : L4 = L := eL7L
  rw [eL7L] at hP hD
  obtain ⟨zz8, zz9, zz10, hzz8, eL7T⟩ := eL7T
  have hT : TI g ad (gset (gset (gset th 37 zz8) 40 zz9) 41 zz10) f5 := eL7T
  have eL7F : ∀ b, b ≠ (ad 255) → f5 b = f b := eL7F
  have hfr : (∀ b, b ≠ (ad 255) → b ≠ (ad 257) → f5 b = f b) := fun b z0_ z1_ => (eL7F b z0_).trans (hfr b z0_ z1_)
  obtain ⟨rw11, hf12, hc13⟩ := hT.2.2 1 (by decide)
  have hcont : ∀ i : Nat, zz9 ≤ (i : Int) → (i : Int) < zz8 → In (rw11 i) 48 57 := hzz8.2 _ hf12
  have hcd0 := hzz8.1
  refine lv_aload_n hx hb dX11_liars_4 rfl (lv_at hl 0 rfl) ?_
  obtain ⟨v0_14, v2_14, v3_14, v4_14, v5_14, v6_14, v8_14, v9_14, v12_14, v13_14, v14_14, v15_14, v16_14, v17_14, v18_14, v19_14, v20_14, v21_14, v22_14, v23_14, v25_14, v36_14, v37_14, v38_14, v39_14, v40_14, v45_14, v46_14, v47_14, v48_14, v50_14, v51_14, v53_14, v55_14, hf15, hv0_14, hv2_14, hg2_14, hv3_14, hg3_14, hv4_14, hg4_14, hv5_14, hg5_14, hv6_14, hg6_14, hv8_14, hv9_14, hg9_14, hv12_14, hv13_14, hg13_14, hv14_14, hg14_14, hv15_14, hg15_14, hv17_14, hg17_14, hv20_14, hg20_14, hv23_14, hg23_14, hv25_14, hv36_14, hg36_14, hv47_14, hg47_14, hv48_14, hg48_14, hv53_14, hg53_14, hv55_14, hg55_14, hrel0_14⟩ := hT.2.2 0 (by decide)
  have hg2_14 : v2_14.toInt = th 13 := hg2_14
  have hg3_14 : v3_14.toInt = zz8 := hg3_14
  have hg4_14 : v4_14.toInt = th 42 := hg4_14
  have hg5_14 : v5_14.toInt = zz9 := hg5_14
  have hg6_14 : v6_14.toInt = zz10 := hg6_14
  have hg9_14 : v9_14.toInt = th 35 := hg9_14
  have hg13_14 : v13_14.toInt = th 36 := hg13_14
  have hg14_14 : v14_14.toInt = th 10 := hg14_14
  have hg15_14 : v15_14.toInt = th 11 := hg15_14
  have hg17_14 : v17_14.toInt = th 12 := hg17_14
  have hg20_14 : v20_14.toInt = th 14 := hg20_14
  have hg23_14 : v23_14.toInt = th 15 := hg23_14
  have hg36_14 : v36_14.toInt = th 18 := hg36_14
  have hg47_14 : v47_14.toInt = th 16 := hg47_14
  have hg48_14 : v48_14.toInt = th 17 := hg48_14
  have hg53_14 : v53_14.toInt = th 38 := hg53_14
  have hg55_14 : v55_14.toInt = th 39 := hg55_14
  refine pl_get (v := .int v6_14) hx hb hts (fun w h => mT (inX11 w h)) hown hG.1 hP (hst.1 255 (by decide)) hf15 rfl 6 (by decide) (hts _ (mT wg_1342)) (fun _ h => h) rfl dX11_liars_5 ?_
  have hJ29 : ∀ (y29_s0 : Int32) (H : Heap) (locs : List Loc) (ls : Array Slot), In y29_s0 0 1 → va_P g.1 vwCl (va_pl L f5) H → va_D A (va_pl L f5) → va_S A s.heap H locs → (y29_s0.toInt = 0 ∨ v6_14.toInt < th 30) → lv_has ls 3 [(0, .ref (ad 255))] → W p l e rm_X11_liars s m [.ref (ad 255)].toArray below meth c H locs 0 0 (MQ below (va_Qv (po_X11_liars g ad th L f ) (PstB g A) A) [.ref (ad 255)].toArray s rm_X11_liars.cells rm_X11_liars.slots A) (F0 m 29 ls [.int y29_s0]) := by
    intro y29_s0 H locs ls hy29_s0 hP hD hS hinv29_0 hl
    refine lv_istore_n (lv' := [(1, .int y29_s0), (0, .ref (ad 255))]) hx hb dX11_liars_29 rfl hl (by decide) rfl (fun ls hl => ?_)
    refine lv_iconst (v := 0) hx hb dX11_liars_30 (by decide) ?_
    refine lv_istore_n (lv' := [(2, .int 0), (1, .int y29_s0), (0, .ref (ad 255))]) hx hb dX11_liars_31 rfl hl (by decide) rfl (fun ls hl => ?_)
    obtain ⟨v0_17, v2_17, v3_17, v4_17, v5_17, v6_17, v8_17, v9_17, v12_17, v13_17, v14_17, v15_17, v16_17, v17_17, v18_17, v19_17, v20_17, v21_17, v22_17, v23_17, v25_17, v36_17, v37_17, v38_17, v39_17, v40_17, v45_17, v46_17, v47_17, v48_17, v50_17, v51_17, v53_17, v55_17, hf18, hv0_17, hv2_17, hg2_17, hv3_17, hg3_17, hv4_17, hg4_17, hv5_17, hg5_17, hv6_17, hg6_17, hv8_17, hv9_17, hg9_17, hv12_17, hv13_17, hg13_17, hv14_17, hg14_17, hv15_17, hg15_17, hv17_17, hg17_17, hv20_17, hg20_17, hv23_17, hg23_17, hv25_17, hv36_17, hg36_17, hv47_17, hg47_17, hv48_17, hg48_17, hv53_17, hg53_17, hv55_17, hg55_17, hrel0_17⟩ := hT.2.2 0 (by decide)
    have hg2_17 : v2_17.toInt = th 13 := hg2_17
    have hg3_17 : v3_17.toInt = zz8 := hg3_17
    have hg4_17 : v4_17.toInt = th 42 := hg4_17
    have hg5_17 : v5_17.toInt = zz9 := hg5_17
    have hg6_17 : v6_17.toInt = zz10 := hg6_17
    have hg9_17 : v9_17.toInt = th 35 := hg9_17
    have hg13_17 : v13_17.toInt = th 36 := hg13_17
    have hg14_17 : v14_17.toInt = th 10 := hg14_17
    have hg15_17 : v15_17.toInt = th 11 := hg15_17
    have hg17_17 : v17_17.toInt = th 12 := hg17_17
    have hg20_17 : v20_17.toInt = th 14 := hg20_17
    have hg23_17 : v23_17.toInt = th 15 := hg23_17
    have hg36_17 : v36_17.toInt = th 18 := hg36_17
    have hg47_17 : v47_17.toInt = th 16 := hg47_17
    have hg48_17 : v48_17.toInt = th 17 := hg48_17
    have hg53_17 : v53_17.toInt = th 38 := hg53_17
    have hg55_17 : v55_17.toInt = th 39 := hg55_17
    have hJ32 : ∀ (k32 : Nat) (zg32_zf : Int) (y32_l1 : Int32) (y32_l2 : Int32) (f_32 : HP) (H : Heap) (locs : List Loc) (ls : Array Slot), (0 ≤ zg32_zf ∧ zg32_zf < 2 ^ (th 30).toNat ∧ pcI zg32_zf ≤ y32_l2.toInt) → In y32_l1 0 1 → In y32_l2 0 2147483647 → va_P g.1 vwCl (va_pl L f_32) H → va_D A (va_pl L f_32) → va_S A s.heap H locs → TI g ad (gset (gset (gset (gset th 37 zz8) 40 zz9) 41 zz10) 34 zg32_zf) f_32 → (∀ b, b ≠ (ad 255) → b ≠ (ad 257) → f_32 b = f b) → f_32 (ad 256) = .inl (g.2.1 2, 500, .inl (rw11)) → (y32_l2.toInt ≤ v6_17.toInt ∧ 0 ≤ y32_l2.toInt) → ((y32_l1.toInt = 0 ∨ v6_17.toInt < th 30) ∧ (y32_l2.toInt = 0 ∨ v6_17.toInt < th 30)) → lv_has ls 3 [(0, .ref (ad 255)), (1, .int y32_l1), (2, .int y32_l2)] → 2147483647 - y32_l2.toInt < ((k32 : Nat) : Int) → W p l e rm_X11_liars s m [.ref (ad 255)].toArray below meth c H locs 0 0 (MQ below (va_Qv (po_X11_liars g ad th L f ) (PstB g A) A) [.ref (ad 255)].toArray s rm_X11_liars.cells rm_X11_liars.slots A) (F0 m 32 ls []) := by
      intro k32
      induction k32 with
      | zero =>
        intro zg32_zf y32_l1 y32_l2 f_32 H locs ls hzg32 hy32_l1 hy32_l2 hP hD hS hT hfr hf16 hinv32_0 hinv32_1 hl hmz32
        exact ms0 hy32_l2 hmz32
      | succ k32 ih32 =>
        intro zg32_zf y32_l1 y32_l2 f_32 H locs ls hzg32 hy32_l1 hy32_l2 hP hD hS hT hfr hf16 hinv32_0 hinv32_1 hl hmz32
        refine lv_iload_n hx hb dX11_liars_32 rfl (lv_at hl 2 rfl) ?_
        refine lv_aload_n hx hb dX11_liars_33 rfl (lv_at hl 0 rfl) ?_
        refine pl_get (v := .int v6_17) hx hb hts (fun w h => mT (inX11 w h)) hown hG.1 hP (hst.1 255 (by decide)) hf18 rfl 6 (by decide) (hts _ (mT wg_1342)) (fun _ h => h) rfl dX11_liars_34 ?_
        have hJ113 : ∀ (H : Heap) (locs : List Loc) (ls : Array Slot), va_P g.1 vwCl (va_pl L f_32) H → va_D A (va_pl L f_32) → va_S A s.heap H locs → lv_has ls 3 [(0, .ref (ad 255)), (1, .int y32_l1), (2, .int y32_l2)] → W p l e rm_X11_liars s m [.ref (ad 255)].toArray below meth c H locs 0 0 (MQ below (va_Qv (po_X11_liars g ad th L f ) (PstB g A) A) [.ref (ad 255)].toArray s rm_X11_liars.cells rm_X11_liars.slots A) (F0 m 113 ls []) := by
          intro H locs ls hP hD hS hl
          have hcapf : capI zg32_zf (th 30) := pc_cap (i := y32_l2.toInt) hzg32 (by omega) (by obtain ⟨o0a, o0b⟩ := (hy32_l2 : In _ _ _); obtain ⟨o1a, o1b⟩ := (hv2_17 : In _ _ _); obtain ⟨o2a, o2b⟩ := (hv3_17 : In _ _ _); obtain ⟨o3a, o3b⟩ := (hv4_17 : In _ _ _); obtain ⟨o4a, o4b⟩ := (hv5_17 : In _ _ _); obtain ⟨o5a, o5b⟩ := (hv6_17 : In _ _ _); obtain ⟨o6a, o6b⟩ := (hv9_17 : In _ _ _); obtain ⟨o7a, o7b⟩ := (hv13_17 : In _ _ _); obtain ⟨o8a, o8b⟩ := (hv14_17 : In _ _ _); obtain ⟨o9a, o9b⟩ := (hv15_17 : In _ _ _); obtain ⟨o10a, o10b⟩ := (hv17_17 : In _ _ _); obtain ⟨o11a, o11b⟩ := (hv20_17 : In _ _ _); obtain ⟨o12a, o12b⟩ := (hv23_17 : In _ _ _); obtain ⟨o13a, o13b⟩ := (hv36_17 : In _ _ _); obtain ⟨o14a, o14b⟩ := (hv47_17 : In _ _ _); obtain ⟨o15a, o15b⟩ := (hv48_17 : In _ _ _); obtain ⟨o16a, o16b⟩ := (hv53_17 : In _ _ _); obtain ⟨o17a, o17b⟩ := (hv55_17 : In _ _ _); obtain ⟨o18a, o18b⟩ := (hy32_l1 : In _ _ _); omega)
          refine lv_iload_n hx hb dX11_liars_113 rfl (lv_at hl 1 rfl) ?_
          refine lv_if_ne (tgt := 125) hx hb dX11_liars_114 (by decide) (fun c19 => ?_) (fun c19 => ?_)
          ·
            have oc0 : (0 : Int32).toInt = 0 := by decide
            have cc20 : y32_l1.toInt ≠ (0 : Int32).toInt := i32_ne c19
            have hb21 : In y32_l1 1 1 := In.ne1 hy32_l1 (⟨by decide, by decide⟩ : In 0 0 0) cc20 (by omega) (by omega)
            exact ret_v hx hb hr hlocks hP hD hS (Nat.le_of_ble_eq_true rfl) (Nat.le_of_ble_eq_true rfl) (⟨rfl, ⟨zz8, zz9, zz10, (th 42), zg32_zf, ⟨(show th 37 ≤ zz8 ∧ zz8 ≤ 500 from (by obtain ⟨o0a, o0b⟩ := (hv2_17 : In _ _ _); obtain ⟨o1a, o1b⟩ := (hv3_17 : In _ _ _); obtain ⟨o2a, o2b⟩ := (hv4_17 : In _ _ _); obtain ⟨o3a, o3b⟩ := (hv5_17 : In _ _ _); obtain ⟨o4a, o4b⟩ := (hv6_17 : In _ _ _); obtain ⟨o5a, o5b⟩ := (hv9_17 : In _ _ _); obtain ⟨o6a, o6b⟩ := (hv13_17 : In _ _ _); obtain ⟨o7a, o7b⟩ := (hv14_17 : In _ _ _); obtain ⟨o8a, o8b⟩ := (hv15_17 : In _ _ _); obtain ⟨o9a, o9b⟩ := (hv17_17 : In _ _ _); obtain ⟨o10a, o10b⟩ := (hv20_17 : In _ _ _); obtain ⟨o11a, o11b⟩ := (hv23_17 : In _ _ _); obtain ⟨o12a, o12b⟩ := (hv36_17 : In _ _ _); obtain ⟨o13a, o13b⟩ := (hv47_17 : In _ _ _); obtain ⟨o14a, o14b⟩ := (hv48_17 : In _ _ _); obtain ⟨o15a, o15b⟩ := (hv53_17 : In _ _ _); obtain ⟨o16a, o16b⟩ := (hv55_17 : In _ _ _); obtain ⟨o17a, o17b⟩ := (hy32_l2 : In _ _ _); obtain ⟨o18a, o18b⟩ := (hb21 : In _ _ _); omega)), hcapf⟩, TI.cast hT (by funext q; simp only [gset]; (repeat' split); all_goals first | rfl | omega | (subst_vars; rfl) | (exfalso; omega))⟩, hfr⟩) dX11_liars_125
          ·
            have oc0 : (0 : Int32).toInt = 0 := by decide
            have cc22 : y32_l1.toInt = (0 : Int32).toInt := congrArg Int32.toInt c19
            have hb23 : In y32_l1 0 0 := In.eq1 hy32_l1 (⟨by decide, by decide⟩ : In 0 0 0) cc22 (by omega) (by omega)
            refine lv_aload_n hx hb dX11_liars_117 rfl (lv_at hl 0 rfl) ?_
            refine lv_aload_n hx hb dX11_liars_118 rfl (lv_at hl 0 rfl) ?_
            refine pl_get (v := .int v5_17) hx hb hts (fun w h => mT (inX11 w h)) hown hG.1 hP (hst.1 255 (by decide)) hf18 rfl 5 (by decide) (hts _ (mT wg_1341)) (fun _ h => h) rfl dX11_liars_119 ?_
            refine call_v (run_V (rm := rm_X11_fails) hx hb hml hown hts (s_X11_fails l g ad (gset (gset (gset (gset th 37 zz8) 40 zz9) 41 zz10) 34 zg32_zf) _ _ _ v5_17 hst hT hv5_17) cV_X11_fails wg_1545 ⟨Nat.le_of_ble_eq_true rfl, Nat.le_of_ble_eq_true rfl⟩ hG hE hA hP hD hS (hst.1 255 (by decide)) hf18 rfl rfl hl.1 (As := [.int v5_17]) (rest := []) rfl (Nat.le_of_ble_eq_true rfl) dX11_liars_122 ⟨Nat.le_of_ble_eq_true rfl, Nat.le_of_ble_eq_true rfl⟩) hA hD hS (fun L25 f26 H locs hp27 hP hD hS => ?_)
            obtain ⟨eL28L, eL28T, eL28F⟩ := hp27
            have eL28L : L25 = L := eL28L
            rw [eL28L] at hP hD
            obtain ⟨zz29, hzz29, eL28T⟩ := eL28T
            have hT : TI g ad (gset (gset (gset (gset (gset th 37 zz8) 40 zz9) 41 zz10) 34 zg32_zf) 42 zz29) f26 := eL28T
            have eL28F : ∀ b, b ≠ (ad 255) → f26 b = f_32 b := eL28F
            have hf30 := (eL28F (ad 256) (hst.ne (by decide) (by decide) (by decide))).trans hf16
            have hfr : (∀ b, b ≠ (ad 255) → b ≠ (ad 257) → f26 b = f b) := fun b z0_ z1_ => (eL28F b z0_).trans (hfr b z0_ z1_)
            exact ret_v hx hb hr hlocks hP hD hS (Nat.le_of_ble_eq_true rfl) (Nat.le_of_ble_eq_true rfl) (⟨rfl, ⟨zz8, zz9, zz10, zz29, zg32_zf, ⟨(show th 37 ≤ zz8 ∧ zz8 ≤ 500 from (by omega)), hcapf⟩, TI.cast hT (by funext q; simp only [gset]; (repeat' split); all_goals first | rfl | omega | (subst_vars; rfl) | (exfalso; omega))⟩, hfr⟩) dX11_liars_125
        refine lv_icmp_ge (tgt := 113) hx hb dX11_liars_37 (by decide) (fun c31 => ?_) (fun c31 => ?_)
        ·
          have cc32 : v6_17.toInt ≤ y32_l2.toInt := i32_le.mp c31
          exact hJ113 _ _ _ hP hD hS (lv_sub hl [0, 1, 2] rfl)
        ·
          have cc33 : y32_l2.toInt < v6_17.toInt := i32_nle c31
          have hb34 : In y32_l2 0 499 := In.lt1 hy32_l2 hv6_17 cc33 (by omega) (by omega)
          have hb35 : In v6_17 1 500 := In.lt2 hy32_l2 hv6_17 cc33 (by omega) (by omega)
          refine lv_iload_n hx hb dX11_liars_40 rfl (lv_at hl 1 rfl) ?_
          refine lv_if_eq (tgt := 113) hx hb dX11_liars_41 (by decide) (fun c36 => ?_) (fun c36 => ?_)
          ·
            have oc0 : (0 : Int32).toInt = 0 := by decide
            have cc37 : y32_l1.toInt = (0 : Int32).toInt := congrArg Int32.toInt c36
            have hb38 : In y32_l1 0 0 := In.eq1 hy32_l1 (⟨by decide, by decide⟩ : In 0 0 0) cc37 (by omega) (by omega)
            exact hJ113 _ _ _ hP hD hS (lv_sub hl [0, 1, 2] rfl)
          ·
            have oc0 : (0 : Int32).toInt = 0 := by decide
            have cc39 : y32_l1.toInt ≠ (0 : Int32).toInt := i32_ne c36
            have hb40 : In y32_l1 1 1 := In.ne1 hy32_l1 (⟨by decide, by decide⟩ : In 0 0 0) cc39 (by omega) (by omega)
            refine lv_aload_n hx hb dX11_liars_44 rfl (lv_at hl 0 rfl) ?_
            refine lv_iload_n hx hb dX11_liars_45 rfl (lv_at hl 2 rfl) ?_
            refine call_i (run_V (rm := rm_X11_digitAt) hx hb hml hown hts (s_X11_digitAt l g ad (gset (gset (gset (gset th 37 zz8) 40 zz9) 41 zz10) 34 zg32_zf) _ _ _ y32_l2 hst hT hb34 (show zz9 + y32_l2.toInt < 500 from (by obtain ⟨o0a, o0b⟩ := (hb34 : In _ _ _); obtain ⟨o1a, o1b⟩ := (hv2_17 : In _ _ _); obtain ⟨o2a, o2b⟩ := (hv3_17 : In _ _ _); obtain ⟨o3a, o3b⟩ := (hv4_17 : In _ _ _); obtain ⟨o4a, o4b⟩ := (hv5_17 : In _ _ _); obtain ⟨o5a, o5b⟩ := (hb35 : In _ _ _); obtain ⟨o6a, o6b⟩ := (hv9_17 : In _ _ _); obtain ⟨o7a, o7b⟩ := (hv13_17 : In _ _ _); obtain ⟨o8a, o8b⟩ := (hv14_17 : In _ _ _); obtain ⟨o9a, o9b⟩ := (hv15_17 : In _ _ _); obtain ⟨o10a, o10b⟩ := (hv17_17 : In _ _ _); obtain ⟨o11a, o11b⟩ := (hv20_17 : In _ _ _); obtain ⟨o12a, o12b⟩ := (hv23_17 : In _ _ _); obtain ⟨o13a, o13b⟩ := (hv36_17 : In _ _ _); obtain ⟨o14a, o14b⟩ := (hv47_17 : In _ _ _); obtain ⟨o15a, o15b⟩ := (hv48_17 : In _ _ _); obtain ⟨o16a, o16b⟩ := (hv53_17 : In _ _ _); obtain ⟨o17a, o17b⟩ := (hv55_17 : In _ _ _); obtain ⟨o18a, o18b⟩ := (hb40 : In _ _ _); omega))) cV_X11_digitAt wg_1577 ⟨Nat.le_of_ble_eq_true rfl, Nat.le_of_ble_eq_true rfl⟩ hG hE hA hP hD hS (hst.1 255 (by decide)) hf18 rfl rfl hl.1 (As := [.int y32_l2]) (rest := []) rfl (Nat.le_of_ble_eq_true rfl) dX11_liars_46 ⟨Nat.le_of_ble_eq_true rfl, Nat.le_of_ble_eq_true rfl⟩) hA hD hS (fun r41 L42 f43 H locs hp44 hP hD hS => ?_)
            obtain ⟨eL45L, eL45T, eL45R, eL45X0⟩ := hp44
            have eL45L : L42 = L := eL45L
            have eL45T : f43 = f_32 := eL45T
            rw [eL45L, eL45T] at hP hD
            have eL45R : In r41 (-176) 79 := eL45R
            have hda46 : r41.toInt = (rw11 (zz9 + y32_l2.toInt).toNat).toInt - 48 := (eL45X0 _ hf16)
            refine lv_aload_n hx hb dX11_liars_49 rfl (lv_at hl 0 rfl) ?_
            refine pl_get (v := .ref (ad 257)) hx hb hts (fun w h => mT (inX11 w h)) hown hG.1 hP (hst.1 255 (by decide)) hf18 rfl 7 (by decide) (hts _ (mT wg_1343)) (fun _ h => h) rfl dX11_liars_50 ?_
            refine lv_iconst (v := 0) hx hb dX11_liars_53 (by decide) ?_
            obtain ⟨rw47, hf48, hpn49, hpg50, hpn51, hpn52, hpn53, hpg54⟩ := hT.2.2 2 (by decide)
            have hin55 : vp_in 0 6 := In.inb (⟨by decide, by decide⟩ : In 0 0 0) (by decide) (by decide)
            refine pl_iald hx hb hG.1 hP (hst.1 257 (by decide)) 0 hf48 rfl hin55 dX11_liars_54 ?_
            refine lv_topi (fun x56 ex56 => ?_)
            have hb57 : In x56 0 9 := by rw [ex56]; exact pinI (k := 0) (by decide) hpn49
            have hgl58 : x56.toInt = th 30 := by rw [ex56]; exact pinE (k := 0) (by decide) hpg50
            have hJ82 : ∀ (y82_s0 : Int32) (H : Heap) (locs : List Loc) (ls : Array Slot), In y82_s0 0 1 → va_P g.1 vwCl (va_pl L f_32) H → va_D A (va_pl L f_32) → va_S A s.heap H locs → (y82_s0.toInt = 0 ∨ (rw11 (zz9 + y32_l2.toInt).toNat).toInt - 48 < th 30) → lv_has ls 3 [(0, .ref (ad 255)), (1, .int y32_l1), (2, .int y32_l2)] → W p l e rm_X11_liars s m [.ref (ad 255)].toArray below meth c H locs 0 0 (MQ below (va_Qv (po_X11_liars g ad th L f ) (PstB g A) A) [.ref (ad 255)].toArray s rm_X11_liars.cells rm_X11_liars.slots A) (F0 m 82 ls [.int y82_s0]) := by
              intro y82_s0 H locs ls hy82_s0 hP hD hS hxi82_0 hl
              refine lv_istore_n (lv' := [(1, .int y82_s0), (0, .ref (ad 255)), (2, .int y32_l2)]) hx hb dX11_liars_82 rfl hl (by decide) rfl (fun ls hl => ?_)
              refine lv_aload_n hx hb dX11_liars_83 rfl (lv_at hl 1 rfl) ?_
              refine pl_get (v := .ref (ad 257)) hx hb hts (fun w h => mT (inX11 w h)) hown hG.1 hP (hst.1 255 (by decide)) hf18 rfl 7 (by decide) (hts _ (mT wg_1343)) (fun _ h => h) rfl dX11_liars_84 ?_
              refine lv_iconst (v := 4) hx hb dX11_liars_87 (by decide) ?_
              refine lv_dup2_11 hx hb dX11_liars_88 rfl rfl ?_
              have hin59 : vp_in 4 6 := In.inb (⟨by decide, by decide⟩ : In 4 4 4) (by decide) (by decide)
              refine pl_iald hx hb hG.1 hP (hst.1 257 (by decide)) 0 hf48 rfl hin59 dX11_liars_89 ?_
              refine lv_topi (fun x60 ex60 => ?_)
              have hb61 : In x60 0 511 := by rw [ex60]; exact pinI (k := 4) (by decide) hpn53
              have hgl62 : x60.toInt = zg32_zf := by rw [ex60]; exact pinE (k := 4) (by decide) hpg54
              refine lv_iload_n hx hb dX11_liars_90 rfl (lv_at hl 0 rfl) ?_
              refine lv_if_eq (tgt := 104) hx hb dX11_liars_91 (by decide) (fun c63 => ?_) (fun c63 => ?_)
              ·
                have oc0 : (0 : Int32).toInt = 0 := by decide
                have cc64 : y82_s0.toInt = (0 : Int32).toInt := congrArg Int32.toInt c63
                have hb65 : In y82_s0 0 0 := In.eq1 hy82_s0 (⟨by decide, by decide⟩ : In 0 0 0) cc64 (by omega) (by omega)
                refine lv_iconst (v := 0) hx hb dX11_liars_104 (by decide) ?_
                refine lv_ior hx hb dX11_liars_105 ?_
                refine lv_topi (fun x66 ex66 => ?_)
                have hb67 : In x66 0 511 := ex66 ▸ In.or 9 hb61 (⟨by decide, by decide⟩ : In 0 0 0) (by decide) (by decide) (by decide) (by decide) (by decide)
                refine pl_iastE hx hb hG.1 hP hD hS (hst.1 257 (by decide)) 0 hf48 rfl (In.inb (⟨by decide, by decide⟩ : In 4 4 4) (by decide) (by decide)) dX11_liars_106 (fun H locs f68 r71 er71 hf69 ho70 hP hD hS => ?_)
                have hpn72 : In (r71 0) 0 9 := (upd_neI (k := 0) er71 (by decide)) ▸ hpn49
                have hpg73 := (congrArg Int32.toInt (upd_neI (k := 0) er71 (by decide))).trans hpg50
                have hpn74 : In (r71 1) 0 4 := (upd_neI (k := 1) er71 (by decide)) ▸ hpn51
                have hpn75 : In (r71 2) 0 6 := (upd_neI (k := 2) er71 (by decide)) ▸ hpn52
                have hpn76 : In (r71 4) 0 511 := (upd_eqI (k := 4) er71 (by decide)) ▸ hb67
                have hpg77 : (r71 4).toInt = x66.toInt := congrArg Int32.toInt (upd_eqI (k := 4) er71 (by decide))
                have hf78 := (ho70 (ad 256) (hst.ne (by decide) (by decide) (by decide))).trans hf16
                have hf79 := (ho70 (ad 255) (hst.ne (by decide) (by decide) (by decide))).trans hf18
                have hfr : (∀ b, b ≠ (ad 255) → b ≠ (ad 257) → f68 b = f b) := fun b z0_ z1_ => (ho70 b z1_).trans (hfr b z0_ z1_)
                obtain ⟨x80, ex80⟩ : ∃ y : Int32, y = y32_l2 + 1 := ⟨_, rfl⟩
                have hb81 : In x80 1 500 := ex80 ▸ In.add hb34 (⟨by decide, by decide⟩ : In 1 1 1) (by decide) (by decide) (by decide) (by decide)
                have et82 : x80.toInt = y32_l2.toInt + 1 := In.adde ex80 hb34 (k := 1) (by decide) (by decide) (by decide)
                refine lv_iinc (v := x80) (lv' := [(2, .int x80), (1, .int y82_s0), (0, .ref (ad 255))]) hx hb dX11_liars_107 hl (k := 2) rfl (by rw [ex80]; rfl) (by decide) rfl (fun ls hl => ?_)
                have hT := TI.updMG (th' := (gset (gset (gset (gset (gset th 37 zz8) 40 zz9) 41 zz10) 34 zg32_zf) 34 (x66.toInt))) hT hst (k := 2) (by decide) hf69 ho70 ⟨r71, rfl, hpn72, (hpg73.trans rfl), hpn74, hpn75, hpn76, (hpg77.trans rfl)⟩ (fun q hq => ((gset_ne (fun e => hq (by subst e; decide))).trans rfl))
                have hT : TI g ad (gset (gset (gset (gset th 37 zz8) 40 zz9) 41 zz10) 34 x66.toInt) f68 := TI.cast hT (by funext q; simp only [gset]; (repeat' split); all_goals first | rfl | omega | (subst_vars; rfl) | (exfalso; omega))
                refine lv_goto (tgt := 32) hx hb dX11_liars_110 (by decide) ?_
                obtain ⟨v0_83, v2_83, v3_83, v4_83, v5_83, v6_83, v8_83, v9_83, v12_83, v13_83, v14_83, v15_83, v16_83, v17_83, v18_83, v19_83, v20_83, v21_83, v22_83, v23_83, v25_83, v36_83, v37_83, v38_83, v39_83, v40_83, v45_83, v46_83, v47_83, v48_83, v50_83, v51_83, v53_83, v55_83, hf84, hv0_83, hv2_83, hg2_83, hv3_83, hg3_83, hv4_83, hg4_83, hv5_83, hg5_83, hv6_83, hg6_83, hv8_83, hv9_83, hg9_83, hv12_83, hv13_83, hg13_83, hv14_83, hg14_83, hv15_83, hg15_83, hv17_83, hg17_83, hv20_83, hg20_83, hv23_83, hg23_83, hv25_83, hv36_83, hg36_83, hv47_83, hg47_83, hv48_83, hg48_83, hv53_83, hg53_83, hv55_83, hg55_83, hrel0_83⟩ := hT.2.2 0 (by decide)
                have hg2_83 : v2_83.toInt = th 13 := hg2_83
                have hg3_83 : v3_83.toInt = zz8 := hg3_83
                have hg4_83 : v4_83.toInt = th 42 := hg4_83
                have hg5_83 : v5_83.toInt = zz9 := hg5_83
                have hg6_83 : v6_83.toInt = zz10 := hg6_83
                have hg9_83 : v9_83.toInt = th 35 := hg9_83
                have hg13_83 : v13_83.toInt = th 36 := hg13_83
                have hg14_83 : v14_83.toInt = th 10 := hg14_83
                have hg15_83 : v15_83.toInt = th 11 := hg15_83
                have hg17_83 : v17_83.toInt = th 12 := hg17_83
                have hg20_83 : v20_83.toInt = th 14 := hg20_83
                have hg23_83 : v23_83.toInt = th 15 := hg23_83
                have hg36_83 : v36_83.toInt = th 18 := hg36_83
                have hg47_83 : v47_83.toInt = th 16 := hg47_83
                have hg48_83 : v48_83.toInt = th 17 := hg48_83
                have hg53_83 : v53_83.toInt = th 38 := hg53_83
                have hg55_83 : v55_83.toInt = th 39 := hg55_83
                exact ih32 x66.toInt y82_s0 x80 _ _ _ _ (by rw [et82, show x66 = x60 by rw [ex66]; exact or0 _, hgl62]; exact ⟨hzg32.1, hzg32.2.1, by have := hzg32.2.2; omega⟩) (In.mono hb65 (by decide) (by decide)) (In.mono hb81 (by decide) (by decide)) hP hD hS (TI.cast hT (by funext q; simp only [gset]; (repeat' split); all_goals first | rfl | omega | (subst_vars; rfl) | (exfalso; omega))) hfr hf78 (by obtain ⟨o0a, o0b⟩ := (hb81 : In _ _ _); obtain ⟨o1a, o1b⟩ := (hv6_83 : In _ _ _); obtain ⟨o2a, o2b⟩ := (hv2_83 : In _ _ _); obtain ⟨o3a, o3b⟩ := (hv3_83 : In _ _ _); obtain ⟨o4a, o4b⟩ := (hv4_83 : In _ _ _); obtain ⟨o5a, o5b⟩ := (hv5_83 : In _ _ _); obtain ⟨o6a, o6b⟩ := (hv9_83 : In _ _ _); obtain ⟨o7a, o7b⟩ := (hv13_83 : In _ _ _); obtain ⟨o8a, o8b⟩ := (hv14_83 : In _ _ _); obtain ⟨o9a, o9b⟩ := (hv15_83 : In _ _ _); obtain ⟨o10a, o10b⟩ := (hv17_83 : In _ _ _); obtain ⟨o11a, o11b⟩ := (hv20_83 : In _ _ _); obtain ⟨o12a, o12b⟩ := (hv23_83 : In _ _ _); obtain ⟨o13a, o13b⟩ := (hv36_83 : In _ _ _); obtain ⟨o14a, o14b⟩ := (hv47_83 : In _ _ _); obtain ⟨o15a, o15b⟩ := (hv48_83 : In _ _ _); obtain ⟨o16a, o16b⟩ := (hv53_83 : In _ _ _); obtain ⟨o17a, o17b⟩ := (hv55_83 : In _ _ _); obtain ⟨o18a, o18b⟩ := (hb34 : In _ _ _); obtain ⟨o19a, o19b⟩ := (hb35 : In _ _ _); obtain ⟨o20a, o20b⟩ := (hb40 : In _ _ _); omega) (by obtain ⟨o0a, o0b⟩ := (hb65 : In _ _ _); obtain ⟨o1a, o1b⟩ := (hb81 : In _ _ _); obtain ⟨o2a, o2b⟩ := (hv6_83 : In _ _ _); obtain ⟨o3a, o3b⟩ := (hv2_83 : In _ _ _); obtain ⟨o4a, o4b⟩ := (hv3_83 : In _ _ _); obtain ⟨o5a, o5b⟩ := (hv4_83 : In _ _ _); obtain ⟨o6a, o6b⟩ := (hv5_83 : In _ _ _); obtain ⟨o7a, o7b⟩ := (hv9_83 : In _ _ _); obtain ⟨o8a, o8b⟩ := (hv13_83 : In _ _ _); obtain ⟨o9a, o9b⟩ := (hv14_83 : In _ _ _); obtain ⟨o10a, o10b⟩ := (hv15_83 : In _ _ _); obtain ⟨o11a, o11b⟩ := (hv17_83 : In _ _ _); obtain ⟨o12a, o12b⟩ := (hv20_83 : In _ _ _); obtain ⟨o13a, o13b⟩ := (hv23_83 : In _ _ _); obtain ⟨o14a, o14b⟩ := (hv36_83 : In _ _ _); obtain ⟨o15a, o15b⟩ := (hv47_83 : In _ _ _); obtain ⟨o16a, o16b⟩ := (hv48_83 : In _ _ _); obtain ⟨o17a, o17b⟩ := (hv53_83 : In _ _ _); obtain ⟨o18a, o18b⟩ := (hv55_83 : In _ _ _); obtain ⟨o19a, o19b⟩ := (hb34 : In _ _ _); obtain ⟨o20a, o20b⟩ := (hb35 : In _ _ _); obtain ⟨o21a, o21b⟩ := (hb40 : In _ _ _); omega) (lv_sub hl [2, 1, 0] rfl) (msu et82 (by decide) hmz32)
              ·
                have oc0 : (0 : Int32).toInt = 0 := by decide
                have cc85 : y82_s0.toInt ≠ (0 : Int32).toInt := i32_ne c63
                have hb86 : In y82_s0 1 1 := In.ne1 hy82_s0 (⟨by decide, by decide⟩ : In 0 0 0) cc85 (by omega) (by omega)
                refine lv_iconst (v := 1) hx hb dX11_liars_94 (by decide) ?_
                refine lv_aload_n hx hb dX11_liars_95 rfl (lv_at hl 1 rfl) ?_
                refine lv_iload_n hx hb dX11_liars_96 rfl (lv_at hl 2 rfl) ?_
                refine call_i (run_V (rm := rm_X11_digitAt) hx hb hml hown hts (s_X11_digitAt l g ad (gset (gset (gset (gset th 37 zz8) 40 zz9) 41 zz10) 34 zg32_zf) _ _ _ y32_l2 hst hT hb34 (show zz9 + y32_l2.toInt < 500 from (by obtain ⟨o0a, o0b⟩ := (hb34 : In _ _ _); obtain ⟨o1a, o1b⟩ := (hv2_17 : In _ _ _); obtain ⟨o2a, o2b⟩ := (hv3_17 : In _ _ _); obtain ⟨o3a, o3b⟩ := (hv4_17 : In _ _ _); obtain ⟨o4a, o4b⟩ := (hv5_17 : In _ _ _); obtain ⟨o5a, o5b⟩ := (hb35 : In _ _ _); obtain ⟨o6a, o6b⟩ := (hv9_17 : In _ _ _); obtain ⟨o7a, o7b⟩ := (hv13_17 : In _ _ _); obtain ⟨o8a, o8b⟩ := (hv14_17 : In _ _ _); obtain ⟨o9a, o9b⟩ := (hv15_17 : In _ _ _); obtain ⟨o10a, o10b⟩ := (hv17_17 : In _ _ _); obtain ⟨o11a, o11b⟩ := (hv20_17 : In _ _ _); obtain ⟨o12a, o12b⟩ := (hv23_17 : In _ _ _); obtain ⟨o13a, o13b⟩ := (hv36_17 : In _ _ _); obtain ⟨o14a, o14b⟩ := (hv47_17 : In _ _ _); obtain ⟨o15a, o15b⟩ := (hv48_17 : In _ _ _); obtain ⟨o16a, o16b⟩ := (hv53_17 : In _ _ _); obtain ⟨o17a, o17b⟩ := (hv55_17 : In _ _ _); obtain ⟨o18a, o18b⟩ := (hb40 : In _ _ _); omega))) cV_X11_digitAt wg_1577 ⟨Nat.le_of_ble_eq_true rfl, Nat.le_of_ble_eq_true rfl⟩ hG hE hA hP hD hS (hst.1 255 (by decide)) hf18 rfl rfl hl.1 (As := [.int y32_l2]) (rest := [.int 1, .int x60, .int 4, .ref (ad 257)]) rfl (Nat.le_of_ble_eq_true rfl) dX11_liars_97 ⟨Nat.le_of_ble_eq_true rfl, Nat.le_of_ble_eq_true rfl⟩) hA hD hS (fun r87 L88 f89 H locs hp90 hP hD hS => ?_)
                obtain ⟨eL91L, eL91T, eL91R, eL91X0⟩ := hp90
                have eL91L : L88 = L := eL91L
                have eL91T : f89 = f_32 := eL91T
                rw [eL91L, eL91T] at hP hD
                have eL91R : In r87 (-176) 79 := eL91R
                have hda92 : r87.toInt = (rw11 (zz9 + y32_l2.toInt).toNat).toInt - 48 := (eL91X0 _ hf16)
                have hcd93 := hcont (zz9 + y32_l2.toInt).toNat (by obtain ⟨o0a, o0b⟩ := (hb34 : In _ _ _); obtain ⟨o1a, o1b⟩ := (hv2_17 : In _ _ _); obtain ⟨o2a, o2b⟩ := (hv3_17 : In _ _ _); obtain ⟨o3a, o3b⟩ := (hv4_17 : In _ _ _); obtain ⟨o4a, o4b⟩ := (hv5_17 : In _ _ _); obtain ⟨o5a, o5b⟩ := (hb35 : In _ _ _); obtain ⟨o6a, o6b⟩ := (hv9_17 : In _ _ _); obtain ⟨o7a, o7b⟩ := (hv13_17 : In _ _ _); obtain ⟨o8a, o8b⟩ := (hv14_17 : In _ _ _); obtain ⟨o9a, o9b⟩ := (hv15_17 : In _ _ _); obtain ⟨o10a, o10b⟩ := (hv17_17 : In _ _ _); obtain ⟨o11a, o11b⟩ := (hv20_17 : In _ _ _); obtain ⟨o12a, o12b⟩ := (hv23_17 : In _ _ _); obtain ⟨o13a, o13b⟩ := (hv36_17 : In _ _ _); obtain ⟨o14a, o14b⟩ := (hv47_17 : In _ _ _); obtain ⟨o15a, o15b⟩ := (hv48_17 : In _ _ _); obtain ⟨o16a, o16b⟩ := (hv53_17 : In _ _ _); obtain ⟨o17a, o17b⟩ := (hv55_17 : In _ _ _); obtain ⟨o18a, o18b⟩ := (hb40 : In _ _ _); omega) (by obtain ⟨o0a, o0b⟩ := (hb34 : In _ _ _); obtain ⟨o1a, o1b⟩ := (hv2_17 : In _ _ _); obtain ⟨o2a, o2b⟩ := (hv3_17 : In _ _ _); obtain ⟨o3a, o3b⟩ := (hv4_17 : In _ _ _); obtain ⟨o4a, o4b⟩ := (hv5_17 : In _ _ _); obtain ⟨o5a, o5b⟩ := (hb35 : In _ _ _); obtain ⟨o6a, o6b⟩ := (hv9_17 : In _ _ _); obtain ⟨o7a, o7b⟩ := (hv13_17 : In _ _ _); obtain ⟨o8a, o8b⟩ := (hv14_17 : In _ _ _); obtain ⟨o9a, o9b⟩ := (hv15_17 : In _ _ _); obtain ⟨o10a, o10b⟩ := (hv17_17 : In _ _ _); obtain ⟨o11a, o11b⟩ := (hv20_17 : In _ _ _); obtain ⟨o12a, o12b⟩ := (hv23_17 : In _ _ _); obtain ⟨o13a, o13b⟩ := (hv36_17 : In _ _ _); obtain ⟨o14a, o14b⟩ := (hv47_17 : In _ _ _); obtain ⟨o15a, o15b⟩ := (hv48_17 : In _ _ _); obtain ⟨o16a, o16b⟩ := (hv53_17 : In _ _ _); obtain ⟨o17a, o17b⟩ := (hv55_17 : In _ _ _); obtain ⟨o18a, o18b⟩ := (hb40 : In _ _ _); omega)
                obtain ⟨hcd93a, hcd93b⟩ := hcd93
                have hb94 : In r87 0 8 := In.mk (by obtain ⟨o0a, o0b⟩ := (eL91R : In _ _ _); obtain ⟨o1a, o1b⟩ := (hb34 : In _ _ _); obtain ⟨o2a, o2b⟩ := (hv2_17 : In _ _ _); obtain ⟨o3a, o3b⟩ := (hv3_17 : In _ _ _); obtain ⟨o4a, o4b⟩ := (hv4_17 : In _ _ _); obtain ⟨o5a, o5b⟩ := (hv5_17 : In _ _ _); obtain ⟨o6a, o6b⟩ := (hb35 : In _ _ _); obtain ⟨o7a, o7b⟩ := (hv9_17 : In _ _ _); obtain ⟨o8a, o8b⟩ := (hv13_17 : In _ _ _); obtain ⟨o9a, o9b⟩ := (hv14_17 : In _ _ _); obtain ⟨o10a, o10b⟩ := (hv15_17 : In _ _ _); obtain ⟨o11a, o11b⟩ := (hv17_17 : In _ _ _); obtain ⟨o12a, o12b⟩ := (hv20_17 : In _ _ _); obtain ⟨o13a, o13b⟩ := (hv23_17 : In _ _ _); obtain ⟨o14a, o14b⟩ := (hv36_17 : In _ _ _); obtain ⟨o15a, o15b⟩ := (hv47_17 : In _ _ _); obtain ⟨o16a, o16b⟩ := (hv48_17 : In _ _ _); obtain ⟨o17a, o17b⟩ := (hv53_17 : In _ _ _); obtain ⟨o18a, o18b⟩ := (hv55_17 : In _ _ _); obtain ⟨o19a, o19b⟩ := (hb40 : In _ _ _); omega) (by obtain ⟨o0a, o0b⟩ := (eL91R : In _ _ _); obtain ⟨o1a, o1b⟩ := (hb34 : In _ _ _); obtain ⟨o2a, o2b⟩ := (hv2_17 : In _ _ _); obtain ⟨o3a, o3b⟩ := (hv3_17 : In _ _ _); obtain ⟨o4a, o4b⟩ := (hv4_17 : In _ _ _); obtain ⟨o5a, o5b⟩ := (hv5_17 : In _ _ _); obtain ⟨o6a, o6b⟩ := (hb35 : In _ _ _); obtain ⟨o7a, o7b⟩ := (hv9_17 : In _ _ _); obtain ⟨o8a, o8b⟩ := (hv13_17 : In _ _ _); obtain ⟨o9a, o9b⟩ := (hv14_17 : In _ _ _); obtain ⟨o10a, o10b⟩ := (hv15_17 : In _ _ _); obtain ⟨o11a, o11b⟩ := (hv17_17 : In _ _ _); obtain ⟨o12a, o12b⟩ := (hv20_17 : In _ _ _); obtain ⟨o13a, o13b⟩ := (hv23_17 : In _ _ _); obtain ⟨o14a, o14b⟩ := (hv36_17 : In _ _ _); obtain ⟨o15a, o15b⟩ := (hv47_17 : In _ _ _); obtain ⟨o16a, o16b⟩ := (hv48_17 : In _ _ _); obtain ⟨o17a, o17b⟩ := (hv53_17 : In _ _ _); obtain ⟨o18a, o18b⟩ := (hv55_17 : In _ _ _); obtain ⟨o19a, o19b⟩ := (hb40 : In _ _ _); omega)
                refine lv_ishl hx hb dX11_liars_100 ?_
                refine lv_topi (fun x95 ex95 => ?_)
                have hb96 : In x95 1 256 := ex95 ▸ In.shl (⟨by decide, by decide⟩ : In 1 1 1) hb94 (by decide) (by decide) (by decide) (by decide) (by decide) (by decide)
                refine lv_goto (tgt := 105) hx hb dX11_liars_101 (by decide) ?_
                refine lv_ior hx hb dX11_liars_105 ?_
                refine lv_topi (fun x97 ex97 => ?_)
                have hb98 : In x97 0 511 := ex97 ▸ In.or 9 hb61 hb96 (by decide) (by decide) (by decide) (by decide) (by decide)
                refine pl_iastE hx hb hG.1 hP hD hS (hst.1 257 (by decide)) 0 hf48 rfl (In.inb (⟨by decide, by decide⟩ : In 4 4 4) (by decide) (by decide)) dX11_liars_106 (fun H locs f99 r102 er102 hf100 ho101 hP hD hS => ?_)
                have hpn103 : In (r102 0) 0 9 := (upd_neI (k := 0) er102 (by decide)) ▸ hpn49
                have hpg104 := (congrArg Int32.toInt (upd_neI (k := 0) er102 (by decide))).trans hpg50
                have hpn105 : In (r102 1) 0 4 := (upd_neI (k := 1) er102 (by decide)) ▸ hpn51
                have hpn106 : In (r102 2) 0 6 := (upd_neI (k := 2) er102 (by decide)) ▸ hpn52
                have hpn107 : In (r102 4) 0 511 := (upd_eqI (k := 4) er102 (by decide)) ▸ hb98
                have hpg108 : (r102 4).toInt = x97.toInt := congrArg Int32.toInt (upd_eqI (k := 4) er102 (by decide))
                have hf109 := (ho101 (ad 256) (hst.ne (by decide) (by decide) (by decide))).trans hf16
                have hf110 := (ho101 (ad 255) (hst.ne (by decide) (by decide) (by decide))).trans hf18
                have hfr : (∀ b, b ≠ (ad 255) → b ≠ (ad 257) → f99 b = f b) := fun b z0_ z1_ => (ho101 b z1_).trans (hfr b z0_ z1_)
                obtain ⟨x111, ex111⟩ : ∃ y : Int32, y = y32_l2 + 1 := ⟨_, rfl⟩
                have hb112 : In x111 1 500 := ex111 ▸ In.add hb34 (⟨by decide, by decide⟩ : In 1 1 1) (by decide) (by decide) (by decide) (by decide)
                have et113 : x111.toInt = y32_l2.toInt + 1 := In.adde ex111 hb34 (k := 1) (by decide) (by decide) (by decide)
                refine lv_iinc (v := x111) (lv' := [(2, .int x111), (1, .int y82_s0), (0, .ref (ad 255))]) hx hb dX11_liars_107 hl (k := 2) rfl (by rw [ex111]; rfl) (by decide) rfl (fun ls hl => ?_)
                have hT := TI.updMG (th' := (gset (gset (gset (gset (gset th 37 zz8) 40 zz9) 41 zz10) 34 zg32_zf) 34 (x97.toInt))) hT hst (k := 2) (by decide) hf100 ho101 ⟨r102, rfl, hpn103, (hpg104.trans rfl), hpn105, hpn106, hpn107, (hpg108.trans rfl)⟩ (fun q hq => ((gset_ne (fun e => hq (by subst e; decide))).trans rfl))
                have hT : TI g ad (gset (gset (gset (gset th 37 zz8) 40 zz9) 41 zz10) 34 x97.toInt) f99 := TI.cast hT (by funext q; simp only [gset]; (repeat' split); all_goals first | rfl | omega | (subst_vars; rfl) | (exfalso; omega))
                refine lv_goto (tgt := 32) hx hb dX11_liars_110 (by decide) ?_
                have hdz115 : r87.toInt < th 30 := (by obtain ⟨o0a, o0b⟩ := (hb94 : In _ _ _); omega)
                have hop114 := or_pc (n := th 30) (i := y32_l2.toInt) ex95 ex97 hb94 hl1.2 hdz115 ⟨by rw [hgl62]; exact hzg32.1, by rw [hgl62]; exact hzg32.2.1, by rw [hgl62]; exact hzg32.2.2⟩
                obtain ⟨v0_116, v2_116, v3_116, v4_116, v5_116, v6_116, v8_116, v9_116, v12_116, v13_116, v14_116, v15_116, v16_116, v17_116, v18_116, v19_116, v20_116, v21_116, v22_116, v23_116, v25_116, v36_116, v37_116, v38_116, v39_116, v40_116, v45_116, v46_116, v47_116, v48_116, v50_116, v51_116, v53_116, v55_116, hf117, hv0_116, hv2_116, hg2_116, hv3_116, hg3_116, hv4_116, hg4_116, hv5_116, hg5_116, hv6_116, hg6_116, hv8_116, hv9_116, hg9_116, hv12_116, hv13_116, hg13_116, hv14_116, hg14_116, hv15_116, hg15_116, hv17_116, hg17_116, hv20_116, hg20_116, hv23_116, hg23_116, hv25_116, hv36_116, hg36_116, hv47_116, hg47_116, hv48_116, hg48_116, hv53_116, hg53_116, hv55_116, hg55_116, hrel0_116⟩ := hT.2.2 0 (by decide)
                have hg2_116 : v2_116.toInt = th 13 := hg2_116
                have hg3_116 : v3_116.toInt = zz8 := hg3_116
                have hg4_116 : v4_116.toInt = th 42 := hg4_116
                have hg5_116 : v5_116.toInt = zz9 := hg5_116
                have hg6_116 : v6_116.toInt = zz10 := hg6_116
                have hg9_116 : v9_116.toInt = th 35 := hg9_116
                have hg13_116 : v13_116.toInt = th 36 := hg13_116
                have hg14_116 : v14_116.toInt = th 10 := hg14_116
                have hg15_116 : v15_116.toInt = th 11 := hg15_116
                have hg17_116 : v17_116.toInt = th 12 := hg17_116
                have hg20_116 : v20_116.toInt = th 14 := hg20_116
                have hg23_116 : v23_116.toInt = th 15 := hg23_116
                have hg36_116 : v36_116.toInt = th 18 := hg36_116
                have hg47_116 : v47_116.toInt = th 16 := hg47_116
                have hg48_116 : v48_116.toInt = th 17 := hg48_116
                have hg53_116 : v53_116.toInt = th 38 := hg53_116
                have hg55_116 : v55_116.toInt = th 39 := hg55_116
                exact ih32 x97.toInt y82_s0 x111 _ _ _ _ (by rw [et113]; exact hop114) (In.mono hb86 (by decide) (by decide)) (In.mono hb112 (by decide) (by decide)) hP hD hS (TI.cast hT (by funext q; simp only [gset]; (repeat' split); all_goals first | rfl | omega | (subst_vars; rfl) | (exfalso; omega))) hfr hf109 (by obtain ⟨o0a, o0b⟩ := (hb112 : In _ _ _); obtain ⟨o1a, o1b⟩ := (hv6_116 : In _ _ _); obtain ⟨o2a, o2b⟩ := (hv2_116 : In _ _ _); obtain ⟨o3a, o3b⟩ := (hv3_116 : In _ _ _); obtain ⟨o4a, o4b⟩ := (hv4_116 : In _ _ _); obtain ⟨o5a, o5b⟩ := (hv5_116 : In _ _ _); obtain ⟨o6a, o6b⟩ := (hv9_116 : In _ _ _); obtain ⟨o7a, o7b⟩ := (hv13_116 : In _ _ _); obtain ⟨o8a, o8b⟩ := (hv14_116 : In _ _ _); obtain ⟨o9a, o9b⟩ := (hv15_116 : In _ _ _); obtain ⟨o10a, o10b⟩ := (hv17_116 : In _ _ _); obtain ⟨o11a, o11b⟩ := (hv20_116 : In _ _ _); obtain ⟨o12a, o12b⟩ := (hv23_116 : In _ _ _); obtain ⟨o13a, o13b⟩ := (hv36_116 : In _ _ _); obtain ⟨o14a, o14b⟩ := (hv47_116 : In _ _ _); obtain ⟨o15a, o15b⟩ := (hv48_116 : In _ _ _); obtain ⟨o16a, o16b⟩ := (hv53_116 : In _ _ _); obtain ⟨o17a, o17b⟩ := (hv55_116 : In _ _ _); obtain ⟨o18a, o18b⟩ := (hb34 : In _ _ _); obtain ⟨o19a, o19b⟩ := (hb35 : In _ _ _); obtain ⟨o20a, o20b⟩ := (hb40 : In _ _ _); omega) (by obtain ⟨o0a, o0b⟩ := (hb86 : In _ _ _); obtain ⟨o1a, o1b⟩ := (hb112 : In _ _ _); obtain ⟨o2a, o2b⟩ := (hv6_116 : In _ _ _); obtain ⟨o3a, o3b⟩ := (hv2_116 : In _ _ _); obtain ⟨o4a, o4b⟩ := (hv3_116 : In _ _ _); obtain ⟨o5a, o5b⟩ := (hv4_116 : In _ _ _); obtain ⟨o6a, o6b⟩ := (hv5_116 : In _ _ _); obtain ⟨o7a, o7b⟩ := (hv9_116 : In _ _ _); obtain ⟨o8a, o8b⟩ := (hv13_116 : In _ _ _); obtain ⟨o9a, o9b⟩ := (hv14_116 : In _ _ _); obtain ⟨o10a, o10b⟩ := (hv15_116 : In _ _ _); obtain ⟨o11a, o11b⟩ := (hv17_116 : In _ _ _); obtain ⟨o12a, o12b⟩ := (hv20_116 : In _ _ _); obtain ⟨o13a, o13b⟩ := (hv23_116 : In _ _ _); obtain ⟨o14a, o14b⟩ := (hv36_116 : In _ _ _); obtain ⟨o15a, o15b⟩ := (hv47_116 : In _ _ _); obtain ⟨o16a, o16b⟩ := (hv48_116 : In _ _ _); obtain ⟨o17a, o17b⟩ := (hv53_116 : In _ _ _); obtain ⟨o18a, o18b⟩ := (hv55_116 : In _ _ _); obtain ⟨o19a, o19b⟩ := (hb34 : In _ _ _); obtain ⟨o20a, o20b⟩ := (hb35 : In _ _ _); obtain ⟨o21a, o21b⟩ := (hb40 : In _ _ _); omega) (lv_sub hl [2, 1, 0] rfl) (msu et113 (by decide) hmz32)
            have hJ81 : ∀ (H : Heap) (locs : List Loc) (ls : Array Slot), va_P g.1 vwCl (va_pl L f_32) H → va_D A (va_pl L f_32) → va_S A s.heap H locs → lv_has ls 3 [(0, .ref (ad 255)), (1, .int y32_l1), (2, .int y32_l2)] → W p l e rm_X11_liars s m [.ref (ad 255)].toArray below meth c H locs 0 0 (MQ below (va_Qv (po_X11_liars g ad th L f ) (PstB g A) A) [.ref (ad 255)].toArray s rm_X11_liars.cells rm_X11_liars.slots A) (F0 m 81 ls []) := by
              intro H locs ls hP hD hS hl
              refine lv_iconst (v := 0) hx hb dX11_liars_81 (by decide) ?_
              exact hJ82 0 _ _ _ (⟨by decide, by decide⟩ : In 0 0 1) hP hD hS (by have oc0 : (0 : Int32).toInt = 0 := (by decide); obtain ⟨o0a, o0b⟩ := (hv2_17 : In _ _ _); obtain ⟨o1a, o1b⟩ := (hv3_17 : In _ _ _); obtain ⟨o2a, o2b⟩ := (hv4_17 : In _ _ _); obtain ⟨o3a, o3b⟩ := (hv5_17 : In _ _ _); obtain ⟨o4a, o4b⟩ := (hb35 : In _ _ _); obtain ⟨o5a, o5b⟩ := (hv9_17 : In _ _ _); obtain ⟨o6a, o6b⟩ := (hv13_17 : In _ _ _); obtain ⟨o7a, o7b⟩ := (hv14_17 : In _ _ _); obtain ⟨o8a, o8b⟩ := (hv15_17 : In _ _ _); obtain ⟨o9a, o9b⟩ := (hv17_17 : In _ _ _); obtain ⟨o10a, o10b⟩ := (hv20_17 : In _ _ _); obtain ⟨o11a, o11b⟩ := (hv23_17 : In _ _ _); obtain ⟨o12a, o12b⟩ := (hv36_17 : In _ _ _); obtain ⟨o13a, o13b⟩ := (hv47_17 : In _ _ _); obtain ⟨o14a, o14b⟩ := (hv48_17 : In _ _ _); obtain ⟨o15a, o15b⟩ := (hv53_17 : In _ _ _); obtain ⟨o16a, o16b⟩ := (hv55_17 : In _ _ _); obtain ⟨o17a, o17b⟩ := (hb34 : In _ _ _); obtain ⟨o18a, o18b⟩ := (hb40 : In _ _ _); omega) (lv_sub hl [0, 1, 2] rfl)
            refine lv_icmp_ge (tgt := 81) hx hb dX11_liars_55 (by decide) (fun c118 => ?_) (fun c118 => ?_)
            ·
              have cc119 : x56.toInt ≤ r41.toInt := i32_le.mp c118
              have hb120 : In r41 0 79 := In.ge1 eL45R hb57 cc119 (by omega) (by omega)
              exact hJ81 _ _ _ hP hD hS (lv_sub hl [0, 1, 2] rfl)
            ·
              have cc121 : r41.toInt < x56.toInt := i32_nle c118
              have hb122 : In r41 (-176) 8 := In.lt1 eL45R hb57 cc121 (by omega) (by omega)
              refine lv_iload_n hx hb dX11_liars_58 rfl (lv_at hl 2 rfl) ?_
              have hJ77 : ∀ (H : Heap) (locs : List Loc) (ls : Array Slot), va_P g.1 vwCl (va_pl L f_32) H → va_D A (va_pl L f_32) → va_S A s.heap H locs → lv_has ls 3 [(0, .ref (ad 255)), (1, .int y32_l1), (2, .int y32_l2)] → W p l e rm_X11_liars s m [.ref (ad 255)].toArray below meth c H locs 0 0 (MQ below (va_Qv (po_X11_liars g ad th L f ) (PstB g A) A) [.ref (ad 255)].toArray s rm_X11_liars.cells rm_X11_liars.slots A) (F0 m 77 ls []) := by
                intro H locs ls hP hD hS hl
                refine lv_iconst (v := 1) hx hb dX11_liars_77 (by decide) ?_
                refine lv_goto (tgt := 82) hx hb dX11_liars_78 (by decide) ?_
                exact hJ82 1 _ _ _ (⟨by decide, by decide⟩ : In 1 0 1) hP hD hS (by have oc1 : (1 : Int32).toInt = 1 := (by decide); obtain ⟨o0a, o0b⟩ := (hv2_17 : In _ _ _); obtain ⟨o1a, o1b⟩ := (hv3_17 : In _ _ _); obtain ⟨o2a, o2b⟩ := (hv4_17 : In _ _ _); obtain ⟨o3a, o3b⟩ := (hv5_17 : In _ _ _); obtain ⟨o4a, o4b⟩ := (hb35 : In _ _ _); obtain ⟨o5a, o5b⟩ := (hv9_17 : In _ _ _); obtain ⟨o6a, o6b⟩ := (hv13_17 : In _ _ _); obtain ⟨o7a, o7b⟩ := (hv14_17 : In _ _ _); obtain ⟨o8a, o8b⟩ := (hv15_17 : In _ _ _); obtain ⟨o9a, o9b⟩ := (hv17_17 : In _ _ _); obtain ⟨o10a, o10b⟩ := (hv20_17 : In _ _ _); obtain ⟨o11a, o11b⟩ := (hv23_17 : In _ _ _); obtain ⟨o12a, o12b⟩ := (hv36_17 : In _ _ _); obtain ⟨o13a, o13b⟩ := (hv47_17 : In _ _ _); obtain ⟨o14a, o14b⟩ := (hv48_17 : In _ _ _); obtain ⟨o15a, o15b⟩ := (hv53_17 : In _ _ _); obtain ⟨o16a, o16b⟩ := (hv55_17 : In _ _ _); obtain ⟨o17a, o17b⟩ := (hb34 : In _ _ _); obtain ⟨o18a, o18b⟩ := (hb40 : In _ _ _); omega) (lv_sub hl [0, 1, 2] rfl)
              refine lv_if_eq (tgt := 77) hx hb dX11_liars_59 (by decide) (fun c123 => ?_) (fun c123 => ?_)
              ·
                have oc0 : (0 : Int32).toInt = 0 := by decide
                have cc124 : y32_l2.toInt = (0 : Int32).toInt := congrArg Int32.toInt c123
                have hb125 : In y32_l2 0 0 := In.eq1 hb34 (⟨by decide, by decide⟩ : In 0 0 0) cc124 (by omega) (by omega)
                exact hJ77 _ _ _ hP hD hS (lv_sub hl [0, 1, 2] rfl)
              ·
                have oc0 : (0 : Int32).toInt = 0 := by decide
                have cc126 : y32_l2.toInt ≠ (0 : Int32).toInt := i32_ne c123
                have hb127 : In y32_l2 1 499 := In.ne1 hb34 (⟨by decide, by decide⟩ : In 0 0 0) cc126 (by omega) (by omega)
                refine lv_aload_n hx hb dX11_liars_62 rfl (lv_at hl 0 rfl) ?_
                refine lv_iload_n hx hb dX11_liars_63 rfl (lv_at hl 2 rfl) ?_
                refine call_i (run_V (rm := rm_X11_digitAt) hx hb hml hown hts (s_X11_digitAt l g ad (gset (gset (gset (gset th 37 zz8) 40 zz9) 41 zz10) 34 zg32_zf) _ _ _ y32_l2 hst hT (In.mono hb127 (by decide) (by decide)) (show zz9 + y32_l2.toInt < 500 from (by obtain ⟨o0a, o0b⟩ := (hb127 : In _ _ _); obtain ⟨o1a, o1b⟩ := (hv2_17 : In _ _ _); obtain ⟨o2a, o2b⟩ := (hv3_17 : In _ _ _); obtain ⟨o3a, o3b⟩ := (hv4_17 : In _ _ _); obtain ⟨o4a, o4b⟩ := (hv5_17 : In _ _ _); obtain ⟨o5a, o5b⟩ := (hb35 : In _ _ _); obtain ⟨o6a, o6b⟩ := (hv9_17 : In _ _ _); obtain ⟨o7a, o7b⟩ := (hv13_17 : In _ _ _); obtain ⟨o8a, o8b⟩ := (hv14_17 : In _ _ _); obtain ⟨o9a, o9b⟩ := (hv15_17 : In _ _ _); obtain ⟨o10a, o10b⟩ := (hv17_17 : In _ _ _); obtain ⟨o11a, o11b⟩ := (hv20_17 : In _ _ _); obtain ⟨o12a, o12b⟩ := (hv23_17 : In _ _ _); obtain ⟨o13a, o13b⟩ := (hv36_17 : In _ _ _); obtain ⟨o14a, o14b⟩ := (hv47_17 : In _ _ _); obtain ⟨o15a, o15b⟩ := (hv48_17 : In _ _ _); obtain ⟨o16a, o16b⟩ := (hv53_17 : In _ _ _); obtain ⟨o17a, o17b⟩ := (hv55_17 : In _ _ _); obtain ⟨o18a, o18b⟩ := (hb40 : In _ _ _); omega))) cV_X11_digitAt wg_1577 ⟨Nat.le_of_ble_eq_true rfl, Nat.le_of_ble_eq_true rfl⟩ hG hE hA hP hD hS (hst.1 255 (by decide)) hf18 rfl rfl hl.1 (As := [.int y32_l2]) (rest := []) rfl (Nat.le_of_ble_eq_true rfl) dX11_liars_64 ⟨Nat.le_of_ble_eq_true rfl, Nat.le_of_ble_eq_true rfl⟩) hA hD hS (fun r128 L129 f130 H locs hp131 hP hD hS => ?_)
                obtain ⟨eL132L, eL132T, eL132R, eL132X0⟩ := hp131
                have eL132L : L129 = L := eL132L
                have eL132T : f130 = f_32 := eL132T
                rw [eL132L, eL132T] at hP hD
                have eL132R : In r128 (-176) 79 := eL132R
                have hda133 : r128.toInt = (rw11 (zz9 + y32_l2.toInt).toNat).toInt - 48 := (eL132X0 _ hf16)
                refine lv_aload_n hx hb dX11_liars_67 rfl (lv_at hl 0 rfl) ?_
                refine lv_iload_n hx hb dX11_liars_68 rfl (lv_at hl 2 rfl) ?_
                refine lv_iconst (v := 1) hx hb dX11_liars_69 (by decide) ?_
                refine lv_isub hx hb dX11_liars_70 ?_
                refine lv_topi (fun x134 ex134 => ?_)
                have hb135 : In x134 0 498 := ex134 ▸ In.sub hb127 (⟨by decide, by decide⟩ : In 1 1 1) (by decide) (by decide) (by decide) (by decide)
                have et136 : x134.toInt = y32_l2.toInt + (-1) := In.sube ex134 hb127 (k := 1) (by decide) (by decide) (by decide)
                refine call_i (run_V (rm := rm_X11_digitAt) hx hb hml hown hts (s_X11_digitAt l g ad (gset (gset (gset (gset th 37 zz8) 40 zz9) 41 zz10) 34 zg32_zf) _ _ _ x134 hst hT (In.mono hb135 (by decide) (by decide)) (show zz9 + x134.toInt < 500 from (by obtain ⟨o0a, o0b⟩ := (hb135 : In _ _ _); obtain ⟨o1a, o1b⟩ := (hv2_17 : In _ _ _); obtain ⟨o2a, o2b⟩ := (hv3_17 : In _ _ _); obtain ⟨o3a, o3b⟩ := (hv4_17 : In _ _ _); obtain ⟨o4a, o4b⟩ := (hv5_17 : In _ _ _); obtain ⟨o5a, o5b⟩ := (hb35 : In _ _ _); obtain ⟨o6a, o6b⟩ := (hv9_17 : In _ _ _); obtain ⟨o7a, o7b⟩ := (hv13_17 : In _ _ _); obtain ⟨o8a, o8b⟩ := (hv14_17 : In _ _ _); obtain ⟨o9a, o9b⟩ := (hv15_17 : In _ _ _); obtain ⟨o10a, o10b⟩ := (hv17_17 : In _ _ _); obtain ⟨o11a, o11b⟩ := (hv20_17 : In _ _ _); obtain ⟨o12a, o12b⟩ := (hv23_17 : In _ _ _); obtain ⟨o13a, o13b⟩ := (hv36_17 : In _ _ _); obtain ⟨o14a, o14b⟩ := (hv47_17 : In _ _ _); obtain ⟨o15a, o15b⟩ := (hv48_17 : In _ _ _); obtain ⟨o16a, o16b⟩ := (hv53_17 : In _ _ _); obtain ⟨o17a, o17b⟩ := (hv55_17 : In _ _ _); obtain ⟨o18a, o18b⟩ := (hb127 : In _ _ _); obtain ⟨o19a, o19b⟩ := (hb40 : In _ _ _); omega))) cV_X11_digitAt wg_1577 ⟨Nat.le_of_ble_eq_true rfl, Nat.le_of_ble_eq_true rfl⟩ hG hE hA hP hD hS (hst.1 255 (by decide)) hf18 rfl rfl hl.1 (As := [.int x134]) (rest := [.int r128]) rfl (Nat.le_of_ble_eq_true rfl) dX11_liars_71 ⟨Nat.le_of_ble_eq_true rfl, Nat.le_of_ble_eq_true rfl⟩) hA hD hS (fun r137 L138 f139 H locs hp140 hP hD hS => ?_)
                obtain ⟨eL141L, eL141T, eL141R, eL141X0⟩ := hp140
                have eL141L : L138 = L := eL141L
                have eL141T : f139 = f_32 := eL141T
                rw [eL141L, eL141T] at hP hD
                have eL141R : In r137 (-176) 79 := eL141R
                have hda142 : r137.toInt = (rw11 (zz9 + x134.toInt).toNat).toInt - 48 := (eL141X0 _ hf16)
                refine lv_icmp_le (tgt := 81) hx hb dX11_liars_74 (by decide) (fun c143 => ?_) (fun c143 => ?_)
                ·
                  have cc144 : r128.toInt ≤ r137.toInt := i32_le.mp c143
                  exact hJ81 _ _ _ hP hD hS (lv_sub hl [0, 1, 2] rfl)
                ·
                  have cc145 : r137.toInt < r128.toInt := i32_nle c143
                  have hb146 : In r128 (-175) 79 := In.gt1 eL132R eL141R cc145 (by omega) (by omega)
                  have hb147 : In r137 (-176) 78 := In.gt2 eL132R eL141R cc145 (by omega) (by omega)
                  exact hJ77 _ _ _ hP hD hS (lv_sub hl [0, 1, 2] rfl)
    exact hJ32 ((2147483647 - (0 : Int32).toInt).toNat + 1) (th 34) y29_s0 0 _ _ _ _ (by rw [hl0]; exact pc_0 _) hy29_s0 (⟨by decide, by decide⟩ : In 0 0 2147483647) hP hD hS (TI.cast hT (by funext q; simp only [gset]; (repeat' split); all_goals first | rfl | omega | (subst_vars; rfl) | (exfalso; omega))) hfr hf12 (by have oc0 : (0 : Int32).toInt = 0 := (by decide); obtain ⟨o1a, o1b⟩ := (hv6_14 : In _ _ _); obtain ⟨o2a, o2b⟩ := (hv2_14 : In _ _ _); obtain ⟨o3a, o3b⟩ := (hv3_14 : In _ _ _); obtain ⟨o4a, o4b⟩ := (hv4_14 : In _ _ _); obtain ⟨o5a, o5b⟩ := (hv5_14 : In _ _ _); obtain ⟨o6a, o6b⟩ := (hv9_14 : In _ _ _); obtain ⟨o7a, o7b⟩ := (hv13_14 : In _ _ _); obtain ⟨o8a, o8b⟩ := (hv14_14 : In _ _ _); obtain ⟨o9a, o9b⟩ := (hv15_14 : In _ _ _); obtain ⟨o10a, o10b⟩ := (hv17_14 : In _ _ _); obtain ⟨o11a, o11b⟩ := (hv20_14 : In _ _ _); obtain ⟨o12a, o12b⟩ := (hv23_14 : In _ _ _); obtain ⟨o13a, o13b⟩ := (hv36_14 : In _ _ _); obtain ⟨o14a, o14b⟩ := (hv47_14 : In _ _ _); obtain ⟨o15a, o15b⟩ := (hv48_14 : In _ _ _); obtain ⟨o16a, o16b⟩ := (hv53_14 : In _ _ _); obtain ⟨o17a, o17b⟩ := (hv55_14 : In _ _ _); obtain ⟨o18a, o18b⟩ := (hy29_s0 : In _ _ _); omega) (by have oc0 : (0 : Int32).toInt = 0 := (by decide); obtain ⟨o0a, o0b⟩ := (hy29_s0 : In _ _ _); obtain ⟨o2a, o2b⟩ := (hv6_14 : In _ _ _); obtain ⟨o3a, o3b⟩ := (hv2_14 : In _ _ _); obtain ⟨o4a, o4b⟩ := (hv3_14 : In _ _ _); obtain ⟨o5a, o5b⟩ := (hv4_14 : In _ _ _); obtain ⟨o6a, o6b⟩ := (hv5_14 : In _ _ _); obtain ⟨o7a, o7b⟩ := (hv9_14 : In _ _ _); obtain ⟨o8a, o8b⟩ := (hv13_14 : In _ _ _); obtain ⟨o9a, o9b⟩ := (hv14_14 : In _ _ _); obtain ⟨o10a, o10b⟩ := (hv15_14 : In _ _ _); obtain ⟨o11a, o11b⟩ := (hv17_14 : In _ _ _); obtain ⟨o12a, o12b⟩ := (hv20_14 : In _ _ _); obtain ⟨o13a, o13b⟩ := (hv23_14 : In _ _ _); obtain ⟨o14a, o14b⟩ := (hv36_14 : In _ _ _); obtain ⟨o15a, o15b⟩ := (hv47_14 : In _ _ _); obtain ⟨o16a, o16b⟩ := (hv48_14 : In _ _ _); obtain ⟨o17a, o17b⟩ := (hv53_14 : In _ _ _); obtain ⟨o18a, o18b⟩ := (hv55_14 : In _ _ _); omega) (lv_sub hl [2, 1, 0] rfl) (msI _)
  have hJ28 : ∀ (H : Heap) (locs : List Loc) (ls : Array Slot), va_P g.1 vwCl (va_pl L f5) H → va_D A (va_pl L f5) → va_S A s.heap H locs → lv_has ls 3 [(0, .ref (ad 255))] → W p l e rm_X11_liars s m [.ref (ad 255)].toArray below meth c H locs 0 0 (MQ below (va_Qv (po_X11_liars g ad th L f ) (PstB g A) A) [.ref (ad 255)].toArray s rm_X11_liars.cells rm_X11_liars.slots A) (F0 m 28 ls []) := by
    intro H locs ls hP hD hS hl
    refine lv_iconst (v := 0) hx hb dX11_liars_28 (by decide) ?_
    exact hJ29 0 _ _ _ (⟨by decide, by decide⟩ : In 0 0 1) hP hD hS (by have oc0 : (0 : Int32).toInt = 0 := (by decide); obtain ⟨o1a, o1b⟩ := (hv6_14 : In _ _ _); obtain ⟨o2a, o2b⟩ := (hv2_14 : In _ _ _); obtain ⟨o3a, o3b⟩ := (hv3_14 : In _ _ _); obtain ⟨o4a, o4b⟩ := (hv4_14 : In _ _ _); obtain ⟨o5a, o5b⟩ := (hv5_14 : In _ _ _); obtain ⟨o6a, o6b⟩ := (hv9_14 : In _ _ _); obtain ⟨o7a, o7b⟩ := (hv13_14 : In _ _ _); obtain ⟨o8a, o8b⟩ := (hv14_14 : In _ _ _); obtain ⟨o9a, o9b⟩ := (hv15_14 : In _ _ _); obtain ⟨o10a, o10b⟩ := (hv17_14 : In _ _ _); obtain ⟨o11a, o11b⟩ := (hv20_14 : In _ _ _); obtain ⟨o12a, o12b⟩ := (hv23_14 : In _ _ _); obtain ⟨o13a, o13b⟩ := (hv36_14 : In _ _ _); obtain ⟨o14a, o14b⟩ := (hv47_14 : In _ _ _); obtain ⟨o15a, o15b⟩ := (hv48_14 : In _ _ _); obtain ⟨o16a, o16b⟩ := (hv53_14 : In _ _ _); obtain ⟨o17a, o17b⟩ := (hv55_14 : In _ _ _); omega) (lv_sub hl [0] rfl)
  refine lv_if_le (tgt := 28) hx hb dX11_liars_8 (by decide) (fun c148 => ?_) (fun c148 => ?_)
  ·
    have oc0 : (0 : Int32).toInt = 0 := by decide
    have cc149 : v6_14.toInt ≤ (0 : Int32).toInt := i32_le.mp c148
    have hb150 : In v6_14 0 0 := In.le1 hv6_14 (⟨by decide, by decide⟩ : In 0 0 0) cc149 (by omega) (by omega)
    exact hJ28 _ _ _ hP hD hS (lv_sub hl [0] rfl)
  ·
    have oc0 : (0 : Int32).toInt = 0 := by decide
    have cc151 : (0 : Int32).toInt < v6_14.toInt := i32_nle c148
    have hb152 : In v6_14 1 500 := In.gt1 hv6_14 (⟨by decide, by decide⟩ : In 0 0 0) cc151 (by omega) (by omega)
    refine lv_aload_n hx hb dX11_liars_11 rfl (lv_at hl 0 rfl) ?_
    refine pl_get (v := .int v6_14) hx hb hts (fun w h => mT (inX11 w h)) hown hG.1 hP (hst.1 255 (by decide)) hf15 rfl 6 (by decide) (hts _ (mT wg_1342)) (fun _ h => h) rfl dX11_liars_12 ?_
    refine lv_aload_n hx hb dX11_liars_15 rfl (lv_at hl 0 rfl) ?_
    refine pl_get (v := .ref (ad 257)) hx hb hts (fun w h => mT (inX11 w h)) hown hG.1 hP (hst.1 255 (by decide)) hf15 rfl 7 (by decide) (hts _ (mT wg_1343)) (fun _ h => h) rfl dX11_liars_16 ?_
    refine lv_iconst (v := 0) hx hb dX11_liars_19 (by decide) ?_
    obtain ⟨rw153, hf154, hpn155, hpg156, hpn157, hpn158, hpn159, hpg160⟩ := hT.2.2 2 (by decide)
    have hin161 : vp_in 0 6 := In.inb (⟨by decide, by decide⟩ : In 0 0 0) (by decide) (by decide)
    refine pl_iald hx hb hG.1 hP (hst.1 257 (by decide)) 0 hf154 rfl hin161 dX11_liars_20 ?_
    refine lv_topi (fun x162 ex162 => ?_)
    have hb163 : In x162 0 9 := by rw [ex162]; exact pinI (k := 0) (by decide) hpn155
    have hgl164 : x162.toInt = th 30 := by rw [ex162]; exact pinE (k := 0) (by decide) hpg156
    refine lv_icmp_ge (tgt := 28) hx hb dX11_liars_21 (by decide) (fun c165 => ?_) (fun c165 => ?_)
    ·
      have cc166 : x162.toInt ≤ v6_14.toInt := i32_le.mp c165
      exact hJ28 _ _ _ hP hD hS (lv_sub hl [0] rfl)
    ·
      have cc167 : v6_14.toInt < x162.toInt := i32_nle c165
      have hb168 : In v6_14 1 8 := In.lt1 hb152 hb163 cc167 (by omega) (by omega)
      have hb169 : In x162 2 9 := In.lt2 hb152 hb163 cc167 (by omega) (by omega)
      refine lv_iconst (v := 1) hx hb dX11_liars_24 (by decide) ?_
      refine lv_goto (tgt := 29) hx hb dX11_liars_25 (by decide) ?_
      exact hJ29 1 _ _ _ (⟨by decide, by decide⟩ : In 1 0 1) hP hD hS (by have oc1 : (1 : Int32).toInt = 1 := (by decide); obtain ⟨o1a, o1b⟩ := (hb168 : In _ _ _); obtain ⟨o2a, o2b⟩ := (hv2_14 : In _ _ _); obtain ⟨o3a, o3b⟩ := (hv3_14 : In _ _ _); obtain ⟨o4a, o4b⟩ := (hv4_14 : In _ _ _); obtain ⟨o5a, o5b⟩ := (hv5_14 : In _ _ _); obtain ⟨o6a, o6b⟩ := (hv9_14 : In _ _ _); obtain ⟨o7a, o7b⟩ := (hv13_14 : In _ _ _); obtain ⟨o8a, o8b⟩ := (hv14_14 : In _ _ _); obtain ⟨o9a, o9b⟩ := (hv15_14 : In _ _ _); obtain ⟨o10a, o10b⟩ := (hv17_14 : In _ _ _); obtain ⟨o11a, o11b⟩ := (hv20_14 : In _ _ _); obtain ⟨o12a, o12b⟩ := (hv23_14 : In _ _ _); obtain ⟨o13a, o13b⟩ := (hv36_14 : In _ _ _); obtain ⟨o14a, o14b⟩ := (hv47_14 : In _ _ _); obtain ⟨o15a, o15b⟩ := (hv48_14 : In _ _ _); obtain ⟨o16a, o16b⟩ := (hv53_14 : In _ _ _); obtain ⟨o17a, o17b⟩ := (hv55_14 : In _ _ _); obtain ⟨o18a, o18b⟩ := (hb169 : In _ _ _); omega) (lv_sub hl [0] rfl)

abbrev rm_X11_piece : Room := { frames := 6, cells := 0, slots := 0, locals := 128 }
abbrev po_X11_piece (g : GG) (ad : Nat → Nat) (th : Nat → Int) (L : List Nat) (f : HP)  : (List Nat × HP) → Prop := fun u => u.1 = L ∧ (∃ za zr zl ze zt zs zf : Int, ((th 37 ≤ za ∧ za ≤ 500) ∧ DIp zt zs zf) ∧ TI g ad (gset (gset (gset (gset (gset (gset (gset th 37 za) 40 zr) 41 zl) 42 ze) 35 zt) 30 zs) 34 zf) u.2) ∧ (∀ b, b ≠ (ad 255) → b ≠ (ad 257) → u.2 b = f b)
set_option maxHeartbeats 4000000 in
set_option maxRecDepth 100000 in
theorem s_X11_piece (l : Launch) (g : GG) (ad : Nat → Nat) (th : Nat → Int) (L : List Nat) (f : HP) (sz : Nat)  (hst : ST ad L) (hT : TI g ad th f) (hDI : DIp (th 35) (th 30) (th 34)) : MtV l g yX11_piece cX11_piece 4 rm_X11_piece [.ref (ad 255)] L f sz (po_X11_piece g ad th L f ) := by
  refine MtV.of (by decide +kernel) (Nat.le_of_ble_eq_true rfl) ?_
  intro p e s m below meth c A hEn hP hD hS ls hl
  obtain ⟨hx, hb, hr, hml, hown, hlocks, hts, hG, hA, hE, hnm⟩ := hEn
  have hown : s.vm.findClass "RulerWordModel" = some m.cls := hown
  have hl : lv_has ls 4 [(0, .ref (ad 255))] := hl
  have hfr : (∀ b, b ≠ (ad 255) → b ≠ (ad 257) → f b = f b) := fun b z0_ z1_ => rfl
  have hDI0 := hDI
  obtain ⟨hd1, hd2, hd3, hd4, hd5⟩ := hDI
  have hb0 := bitI_0 (th 35)
  have hb4 := bitI_4 (th 35)
  refine lv_aload_n hx hb dX11_piece_0 rfl (lv_at hl 0 rfl) ?_
  obtain ⟨v0_1, v2_1, v3_1, v4_1, v5_1, v6_1, v8_1, v9_1, v12_1, v13_1, v14_1, v15_1, v16_1, v17_1, v18_1, v19_1, v20_1, v21_1, v22_1, v23_1, v25_1, v36_1, v37_1, v38_1, v39_1, v40_1, v45_1, v46_1, v47_1, v48_1, v50_1, v51_1, v53_1, v55_1, hf2, hv0_1, hv2_1, hg2_1, hv3_1, hg3_1, hv4_1, hg4_1, hv5_1, hg5_1, hv6_1, hg6_1, hv8_1, hv9_1, hg9_1, hv12_1, hv13_1, hg13_1, hv14_1, hg14_1, hv15_1, hg15_1, hv17_1, hg17_1, hv20_1, hg20_1, hv23_1, hg23_1, hv25_1, hv36_1, hg36_1, hv47_1, hg47_1, hv48_1, hg48_1, hv53_1, hg53_1, hv55_1, hg55_1, hrel0_1⟩ := hT.2.2 0 (by decide)
  refine call_i (run_V (rm := rm_X11_look) hx hb hml hown hts (s_X11_look l g ad th _ _ _  hst hT ) cV_X11_look wg_1529 ⟨Nat.le_of_ble_eq_true rfl, Nat.le_of_ble_eq_true rfl⟩ hG hE hA hP hD hS (hst.1 255 (by decide)) hf2 rfl rfl hl.1 (As := []) (rest := []) rfl (Nat.le_of_ble_eq_true rfl) dX11_piece_1 ⟨Nat.le_of_ble_eq_true rfl, Nat.le_of_ble_eq_true rfl⟩) hA hD hS (fun r3 L4 f5 H locs hp6 hP hD hS => ?_)
  obtain ⟨eL7L, eL7T, eL7F, eL7R⟩ := hp6
  have eL7L : L4 = L := eL7L
  rw [eL7L] at hP hD
  obtain ⟨zz8, hzz8, eL7T⟩ := eL7T
  have hT : TI g ad (gset th 37 zz8) f5 := eL7T
  have eL7F : ∀ b, b ≠ (ad 255) → f5 b = f b := eL7F
  have hfr : (∀ b, b ≠ (ad 255) → b ≠ (ad 257) → f5 b = f b) := fun b z0_ z1_ => (eL7F b z0_).trans (hfr b z0_ z1_)
  have eL7R : In r3 (-1) 255 := eL7R
  refine lv_istore_n (lv' := [(1, .int r3), (0, .ref (ad 255))]) hx hb dX11_piece_4 rfl hl (by decide) rfl (fun ls hl => ?_)
  refine lv_aload_n hx hb dX11_piece_5 rfl (lv_at hl 1 rfl) ?_
  obtain ⟨v0_9, v2_9, v3_9, v4_9, v5_9, v6_9, v8_9, v9_9, v12_9, v13_9, v14_9, v15_9, v16_9, v17_9, v18_9, v19_9, v20_9, v21_9, v22_9, v23_9, v25_9, v36_9, v37_9, v38_9, v39_9, v40_9, v45_9, v46_9, v47_9, v48_9, v50_9, v51_9, v53_9, v55_9, hf10, hv0_9, hv2_9, hg2_9, hv3_9, hg3_9, hv4_9, hg4_9, hv5_9, hg5_9, hv6_9, hg6_9, hv8_9, hv9_9, hg9_9, hv12_9, hv13_9, hg13_9, hv14_9, hg14_9, hv15_9, hg15_9, hv17_9, hg17_9, hv20_9, hg20_9, hv23_9, hg23_9, hv25_9, hv36_9, hg36_9, hv47_9, hg47_9, hv48_9, hg48_9, hv53_9, hg53_9, hv55_9, hg55_9, hrel0_9⟩ := hT.2.2 0 (by decide)
  have hg2_9 : v2_9.toInt = th 13 := hg2_9
  have hg3_9 : v3_9.toInt = zz8 := hg3_9
  have hg4_9 : v4_9.toInt = th 42 := hg4_9
  have hg5_9 : v5_9.toInt = th 40 := hg5_9
  have hg6_9 : v6_9.toInt = th 41 := hg6_9
  have hg9_9 : v9_9.toInt = th 35 := hg9_9
  have hg13_9 : v13_9.toInt = th 36 := hg13_9
  have hg14_9 : v14_9.toInt = th 10 := hg14_9
  have hg15_9 : v15_9.toInt = th 11 := hg15_9
  have hg17_9 : v17_9.toInt = th 12 := hg17_9
  have hg20_9 : v20_9.toInt = th 14 := hg20_9
  have hg23_9 : v23_9.toInt = th 15 := hg23_9
  have hg36_9 : v36_9.toInt = th 18 := hg36_9
  have hg47_9 : v47_9.toInt = th 16 := hg47_9
  have hg48_9 : v48_9.toInt = th 17 := hg48_9
  have hg53_9 : v53_9.toInt = th 38 := hg53_9
  have hg55_9 : v55_9.toInt = th 39 := hg55_9
  refine pl_get (v := .int v3_9) hx hb hts (fun w h => mT (inX11 w h)) hown hG.1 hP (hst.1 255 (by decide)) hf10 rfl 3 (by decide) (hts _ (mT wg_1339)) (fun _ h => h) rfl dX11_piece_6 ?_
  refine lv_istore_n (lv' := [(2, .int v3_9), (1, .int r3), (0, .ref (ad 255))]) hx hb dX11_piece_9 rfl hl (by decide) rfl (fun ls hl => ?_)
  refine lv_aload_n hx hb dX11_piece_10 rfl (lv_at hl 2 rfl) ?_
  refine call_i (run_V (rm := rm_X11_pieceHere) hx hb hml hown hts (s_X11_pieceHere l g ad (gset th 37 zz8) _ _ _  hst hT ) cV_X11_pieceHere wg_1553 ⟨Nat.le_of_ble_eq_true rfl, Nat.le_of_ble_eq_true rfl⟩ hG hE hA hP hD hS (hst.1 255 (by decide)) hf10 rfl rfl hl.1 (As := []) (rest := []) rfl (Nat.le_of_ble_eq_true rfl) dX11_piece_11 ⟨Nat.le_of_ble_eq_true rfl, Nat.le_of_ble_eq_true rfl⟩) hA hD hS (fun r11 L12 f13 H locs hp14 hP hD hS => ?_)
  obtain ⟨eL15L, eL15T, eL15F, eL15R⟩ := hp14
  have eL15L : L12 = L := eL15L
  rw [eL15L] at hP hD
  obtain ⟨zz16, hzz16, eL15T⟩ := eL15T
  have hT : TI g ad (gset (gset th 37 zz8) 37 zz16) f13 := eL15T
  have hT : TI g ad (gset th 37 zz16) f13 := TI.cast hT (by funext q; simp only [gset]; (repeat' split); all_goals first | rfl | omega | (subst_vars; rfl) | (exfalso; omega))
  have eL15F : ∀ b, b ≠ (ad 255) → f13 b = f5 b := eL15F
  have hfr : (∀ b, b ≠ (ad 255) → b ≠ (ad 257) → f13 b = f b) := fun b z0_ z1_ => (eL15F b z0_).trans (hfr b z0_ z1_)
  have eL15R : In r11 (-1) 5 := eL15R
  refine lv_istore_n (lv' := [(3, .int r11), (2, .int v3_9), (1, .int r3), (0, .ref (ad 255))]) hx hb dX11_piece_14 rfl hl (by decide) rfl (fun ls hl => ?_)
  refine lv_iload_n hx hb dX11_piece_15 rfl (lv_at hl 0 rfl) ?_
  refine lv_iconst (v := (-1)) hx hb dX11_piece_16 (by decide) ?_
  have hJ52 : ∀ (H : Heap) (locs : List Loc) (ls : Array Slot), va_P g.1 vwCl (va_pl L f13) H → va_D A (va_pl L f13) → va_S A s.heap H locs → lv_has ls 4 [(0, .ref (ad 255)), (1, .int r3), (2, .int v3_9), (3, .int r11)] → W p l e rm_X11_piece s m [.ref (ad 255)].toArray below meth c H locs 0 0 (MQ below (va_Qv (po_X11_piece g ad th L f ) (PstB g A) A) [.ref (ad 255)].toArray s rm_X11_piece.cells rm_X11_piece.slots A) (F0 m 52 ls []) := by
    intro H locs ls hP hD hS hl
    refine lv_aload_n hx hb dX11_piece_52 rfl (lv_at hl 0 rfl) ?_
    refine lv_iload_n hx hb dX11_piece_53 rfl (lv_at hl 2 rfl) ?_
    obtain ⟨v0_17, v2_17, v3_17, v4_17, v5_17, v6_17, v8_17, v9_17, v12_17, v13_17, v14_17, v15_17, v16_17, v17_17, v18_17, v19_17, v20_17, v21_17, v22_17, v23_17, v25_17, v36_17, v37_17, v38_17, v39_17, v40_17, v45_17, v46_17, v47_17, v48_17, v50_17, v51_17, v53_17, v55_17, hf18, hv0_17, hv2_17, hg2_17, hv3_17, hg3_17, hv4_17, hg4_17, hv5_17, hg5_17, hv6_17, hg6_17, hv8_17, hv9_17, hg9_17, hv12_17, hv13_17, hg13_17, hv14_17, hg14_17, hv15_17, hg15_17, hv17_17, hg17_17, hv20_17, hg20_17, hv23_17, hg23_17, hv25_17, hv36_17, hg36_17, hv47_17, hg47_17, hv48_17, hg48_17, hv53_17, hg53_17, hv55_17, hg55_17, hrel0_17⟩ := hT.2.2 0 (by decide)
    have hg2_17 : v2_17.toInt = th 13 := hg2_17
    have hg3_17 : v3_17.toInt = zz16 := hg3_17
    have hg4_17 : v4_17.toInt = th 42 := hg4_17
    have hg5_17 : v5_17.toInt = th 40 := hg5_17
    have hg6_17 : v6_17.toInt = th 41 := hg6_17
    have hg9_17 : v9_17.toInt = th 35 := hg9_17
    have hg13_17 : v13_17.toInt = th 36 := hg13_17
    have hg14_17 : v14_17.toInt = th 10 := hg14_17
    have hg15_17 : v15_17.toInt = th 11 := hg15_17
    have hg17_17 : v17_17.toInt = th 12 := hg17_17
    have hg20_17 : v20_17.toInt = th 14 := hg20_17
    have hg23_17 : v23_17.toInt = th 15 := hg23_17
    have hg36_17 : v36_17.toInt = th 18 := hg36_17
    have hg47_17 : v47_17.toInt = th 16 := hg47_17
    have hg48_17 : v48_17.toInt = th 17 := hg48_17
    have hg53_17 : v53_17.toInt = th 38 := hg53_17
    have hg55_17 : v55_17.toInt = th 39 := hg55_17
    refine call_v (run_V (rm := rm_X11_fails) hx hb hml hown hts (s_X11_fails l g ad (gset th 37 zz16) _ _ _ v3_9 hst hT hv3_9) cV_X11_fails wg_1545 ⟨Nat.le_of_ble_eq_true rfl, Nat.le_of_ble_eq_true rfl⟩ hG hE hA hP hD hS (hst.1 255 (by decide)) hf18 rfl rfl hl.1 (As := [.int v3_9]) (rest := []) rfl (Nat.le_of_ble_eq_true rfl) dX11_piece_54 ⟨Nat.le_of_ble_eq_true rfl, Nat.le_of_ble_eq_true rfl⟩) hA hD hS (fun L20 f21 H locs hp22 hP hD hS => ?_)
    obtain ⟨eL23L, eL23T, eL23F⟩ := hp22
    have eL23L : L20 = L := eL23L
    rw [eL23L] at hP hD
    obtain ⟨zz24, hzz24, eL23T⟩ := eL23T
    have hT : TI g ad (gset (gset th 37 zz16) 42 zz24) f21 := eL23T
    have eL23F : ∀ b, b ≠ (ad 255) → f21 b = f13 b := eL23F
    have hfr : (∀ b, b ≠ (ad 255) → b ≠ (ad 257) → f21 b = f b) := fun b z0_ z1_ => (eL23F b z0_).trans (hfr b z0_ z1_)
    exact ret_v hx hb hr hlocks hP hD hS (Nat.le_of_ble_eq_true rfl) (Nat.le_of_ble_eq_true rfl) (⟨rfl, ⟨zz16, (th 40), (th 41), zz24, (th 35), (th 30), (th 34), ⟨(show th 37 ≤ zz16 ∧ zz16 ≤ 500 from (by omega)), hDI0⟩, TI.cast hT (by funext q; simp only [gset]; (repeat' split); all_goals first | rfl | omega | (subst_vars; rfl) | (exfalso; omega))⟩, hfr⟩) dX11_piece_57
  refine lv_icmp_eq (tgt := 52) hx hb dX11_piece_17 (by decide) (fun c25 => ?_) (fun c25 => ?_)
  ·
    have ocm1 : ((-1) : Int32).toInt = (-1) := by decide
    have cc26 : r11.toInt = ((-1) : Int32).toInt := congrArg Int32.toInt c25
    have hb27 : In r11 (-1) (-1) := In.eq1 eL15R (⟨by decide, by decide⟩ : In (-1) (-1) (-1)) cc26 (by omega) (by omega)
    exact hJ52 _ _ _ hP hD hS (lv_sub hl [3, 2, 1, 0] rfl)
  ·
    have ocm1 : ((-1) : Int32).toInt = (-1) := by decide
    have cc28 : r11.toInt ≠ ((-1) : Int32).toInt := i32_ne c25
    have hb29 : In r11 0 5 := In.ne1 eL15R (⟨by decide, by decide⟩ : In (-1) (-1) (-1)) cc28 (by omega) (by omega)
    refine lv_aload_n hx hb dX11_piece_20 rfl (lv_at hl 3 rfl) ?_
    obtain ⟨v0_30, v2_30, v3_30, v4_30, v5_30, v6_30, v8_30, v9_30, v12_30, v13_30, v14_30, v15_30, v16_30, v17_30, v18_30, v19_30, v20_30, v21_30, v22_30, v23_30, v25_30, v36_30, v37_30, v38_30, v39_30, v40_30, v45_30, v46_30, v47_30, v48_30, v50_30, v51_30, v53_30, v55_30, hf31, hv0_30, hv2_30, hg2_30, hv3_30, hg3_30, hv4_30, hg4_30, hv5_30, hg5_30, hv6_30, hg6_30, hv8_30, hv9_30, hg9_30, hv12_30, hv13_30, hg13_30, hv14_30, hg14_30, hv15_30, hg15_30, hv17_30, hg17_30, hv20_30, hg20_30, hv23_30, hg23_30, hv25_30, hv36_30, hg36_30, hv47_30, hg47_30, hv48_30, hg48_30, hv53_30, hg53_30, hv55_30, hg55_30, hrel0_30⟩ := hT.2.2 0 (by decide)
    have hg2_30 : v2_30.toInt = th 13 := hg2_30
    have hg3_30 : v3_30.toInt = zz16 := hg3_30
    have hg4_30 : v4_30.toInt = th 42 := hg4_30
    have hg5_30 : v5_30.toInt = th 40 := hg5_30
    have hg6_30 : v6_30.toInt = th 41 := hg6_30
    have hg9_30 : v9_30.toInt = th 35 := hg9_30
    have hg13_30 : v13_30.toInt = th 36 := hg13_30
    have hg14_30 : v14_30.toInt = th 10 := hg14_30
    have hg15_30 : v15_30.toInt = th 11 := hg15_30
    have hg17_30 : v17_30.toInt = th 12 := hg17_30
    have hg20_30 : v20_30.toInt = th 14 := hg20_30
    have hg23_30 : v23_30.toInt = th 15 := hg23_30
    have hg36_30 : v36_30.toInt = th 18 := hg36_30
    have hg47_30 : v47_30.toInt = th 16 := hg47_30
    have hg48_30 : v48_30.toInt = th 17 := hg48_30
    have hg53_30 : v53_30.toInt = th 38 := hg53_30
    have hg55_30 : v55_30.toInt = th 39 := hg55_30
    refine pl_get (v := .int v9_30) hx hb hts (fun w h => mT (inX11 w h)) hown hG.1 hP (hst.1 255 (by decide)) hf31 rfl 9 (by decide) (hts _ (mT wg_1345)) (fun _ h => h) rfl dX11_piece_21 ?_
    refine lv_iload_n hx hb dX11_piece_24 rfl (lv_at hl 0 rfl) ?_
    refine call_i (run_S (rm := rm_X11_has) hx hb hml hown hts (s_X11_has l g ad (gset th 37 zz16) _ _ _ v9_30 r11 hst hT ) cS_X11_has wg_1563 ⟨Nat.le_of_ble_eq_true rfl, Nat.le_of_ble_eq_true rfl⟩ hG hE hA hP hD hS rfl hl.1 (As := [.int v9_30, .int r11]) (rest := []) rfl (Nat.le_of_ble_eq_true rfl) dX11_piece_25 ⟨Nat.le_of_ble_eq_true rfl, Nat.le_of_ble_eq_true rfl⟩) hA hD hS (fun r32 L33 f34 H locs hp35 hP hD hS => ?_)
    obtain ⟨eL36L, eL36T, eL36R, eL36X0⟩ := hp35
    have eL36L : L33 = L := eL36L
    have eL36T : f34 = f13 := eL36T
    rw [eL36L, eL36T] at hP hD
    have eL36R : In r32 0 1 := eL36R
    have hbt37 : r32.toInt = bitI (th 35) r11.toInt := (eL36X0 (Int.le_trans (by decide) hv9_30.1) (In.mono hb29 (by decide) (by decide))).trans (by rw [hg9_30])
    refine lv_if_ne (tgt := 52) hx hb dX11_piece_28 (by decide) (fun c38 => ?_) (fun c38 => ?_)
    ·
      have oc0 : (0 : Int32).toInt = 0 := by decide
      have cc39 : r32.toInt ≠ (0 : Int32).toInt := i32_ne c38
      have hb40 : In r32 1 1 := In.ne1 eL36R (⟨by decide, by decide⟩ : In 0 0 0) cc39 (by omega) (by omega)
      exact hJ52 _ _ _ hP hD hS (lv_sub hl [3, 2, 1, 0] rfl)
    ·
      have oc0 : (0 : Int32).toInt = 0 := by decide
      have cc41 : r32.toInt = (0 : Int32).toInt := congrArg Int32.toInt c38
      have hb42 : In r32 0 0 := In.eq1 eL36R (⟨by decide, by decide⟩ : In 0 0 0) cc41 (by omega) (by omega)
      refine lv_iload_n hx hb dX11_piece_31 rfl (lv_at hl 0 rfl) ?_
      refine lv_iconst (v := 3) hx hb dX11_piece_32 (by decide) ?_
      have hJ58 : ∀ (H : Heap) (locs : List Loc) (ls : Array Slot), va_P g.1 vwCl (va_pl L f13) H → va_D A (va_pl L f13) → va_S A s.heap H locs → (r11.toInt ≠ 4 ∨ bitI (th 35) 0 = 1) → lv_has ls 4 [(0, .ref (ad 255)), (1, .int r3), (2, .int v3_9), (3, .int r11)] → W p l e rm_X11_piece s m [.ref (ad 255)].toArray below meth c H locs 0 0 (MQ below (va_Qv (po_X11_piece g ad th L f ) (PstB g A) A) [.ref (ad 255)].toArray s rm_X11_piece.cells rm_X11_piece.slots A) (F0 m 58 ls []) := by
        intro H locs ls hP hD hS hinv58_0 hl
        refine lv_aload_n hx hb dX11_piece_58 rfl (lv_at hl 0 rfl) ?_
        refine lv_dup hx hb dX11_piece_59 rfl ?_
        refine pl_get (v := .int v9_30) hx hb hts (fun w h => mT (inX11 w h)) hown hG.1 hP (hst.1 255 (by decide)) hf31 rfl 9 (by decide) (hts _ (mT wg_1345)) (fun _ h => h) rfl dX11_piece_60 ?_
        refine lv_iconst (v := 1) hx hb dX11_piece_63 (by decide) ?_
        refine lv_iload_n hx hb dX11_piece_64 rfl (lv_at hl 3 rfl) ?_
        refine lv_ishl hx hb dX11_piece_65 ?_
        refine lv_topi (fun x43 ex43 => ?_)
        have hb44 : In x43 1 32 := ex43 ▸ In.shl (⟨by decide, by decide⟩ : In 1 1 1) hb29 (by decide) (by decide) (by decide) (by decide) (by decide) (by decide)
        refine lv_ior hx hb dX11_piece_66 ?_
        refine lv_topi (fun x45 ex45 => ?_)
        have hb46 : In x45 0 63 := ex45 ▸ In.or 6 hv9_30 hb44 (by decide) (by decide) (by decide) (by decide) (by decide)
        have hoa : x45.toInt = th 35 + 2 ^ r11.toInt.toNat := (or_add ex43 ex45 hb29 hv9_30 (by rw [hg9_30]; omega)).trans (by rw [hg9_30])
        have hb47 : In x45 0 63 := by rw [ex45]; exact In.or 6 hv9_30 hb44 (by decide) (by decide) (by decide) (by decide) (by decide)
        refine pl_put (ty := .int) (v := .int x45) (fs' := [.int v0_30, .ref (ad 256), .int v2_30, .int v3_30, .int v4_30, .int v5_30, .int v6_30, .ref (ad 257), .int v8_30, .int x45, .ref (ad 258), .ref (ad 259), .int v12_30, .int v13_30, .int v14_30, .int v15_30, .int v16_30, .int v17_30, .int v18_30, .int v19_30, .int v20_30, .long v21_30, .long v22_30, .int v23_30, .ref (ad 260), .int v25_30, .ref (ad 261), .ref (ad 262), .ref (ad 263), .ref (ad 264), .ref (ad 265), .ref (ad 266), .ref (ad 267), .ref (ad 268), .ref (ad 269), .ref (ad 270), .int v36_30, .int v37_30, .int v38_30, .int v39_30, .int v40_30, .ref (ad 271), .ref (ad 272), .ref (ad 273), .ref (ad 274), .long v45_30, .long v46_30, .int v47_30, .int v48_30, .ref (ad 275), .int v50_30, .int v51_30, .ref (ad 276), .int v53_30, .ref (ad 277), .int v55_30]) hx hb hts (fun w h => mT (inX11 w h)) tyX11 tyX11_ok nmX11 hown hG.1 hP hD hS (hst.1 255 (by decide)) hf31 rfl 9 (by decide) (hts _ (mT wg_1345)) (fun _ h => h) rfl (by decide +kernel) (rfl) (rfl) (Nat.le_of_ble_eq_true rfl) rfl dX11_piece_67 (fun H locs f48 hf49 ho50 hP hD hS => ?_)
        have hfr : (∀ b, b ≠ (ad 255) → b ≠ (ad 257) → f48 b = f b) := fun b z0_ z1_ => (ho50 b z0_).trans (hfr b z0_ z1_)
        refine lv_iload_n hx hb dX11_piece_70 rfl (lv_at hl 3 rfl) ?_
        have hT := TI.updMG (th' := (gset (gset th 37 zz16) 35 (x45.toInt))) hT hst (k := 0) (by decide) hf49 ho50 ⟨v0_30, v2_30, v3_30, v4_30, v5_30, v6_30, v8_30, x45, v12_30, v13_30, v14_30, v15_30, v16_30, v17_30, v18_30, v19_30, v20_30, v21_30, v22_30, v23_30, v25_30, v36_30, v37_30, v38_30, v39_30, v40_30, v45_30, v46_30, v47_30, v48_30, v50_30, v51_30, v53_30, v55_30, rfl, hv0_30, hv2_30, (by rw [hg2_30]; simp [gset]), hv3_30, (by rw [hg3_30]; simp [gset]), hv4_30, (by rw [hg4_30]; simp [gset]), hv5_30, (by rw [hg5_30]; simp [gset]), hv6_30, (by rw [hg6_30]; simp [gset]), hv8_30, hb47, (by simp [gset]), hv12_30, hv13_30, (by rw [hg13_30]; simp [gset]), hv14_30, (by rw [hg14_30]; simp [gset]), hv15_30, (by rw [hg15_30]; simp [gset]), hv17_30, (by rw [hg17_30]; simp [gset]), hv20_30, (by rw [hg20_30]; simp [gset]), hv23_30, (by rw [hg23_30]; simp [gset]), hv25_30, hv36_30, (by rw [hg36_30]; simp [gset]), hv47_30, (by rw [hg47_30]; simp [gset]), hv48_30, (by rw [hg48_30]; simp [gset]), hv53_30, (by rw [hg53_30]; simp [gset]), hv55_30, (by rw [hg55_30]; simp [gset]), hrel0_30⟩ (fun q hq => ((gset_ne (fun e => hq (by subst e; decide))).trans rfl))
        have hT : TI g ad (gset (gset th 37 zz16) 35 x45.toInt) f48 := TI.cast hT (by funext q; simp only [gset]; (repeat' split); all_goals first | rfl | omega | (subst_vars; rfl) | (exfalso; omega))
        refine lv_if_ne (tgt := 87) hx hb dX11_piece_71 (by decide) (fun c51 => ?_) (fun c51 => ?_)
        ·
          have oc0 : (0 : Int32).toInt = 0 := by decide
          have cc52 : r11.toInt ≠ (0 : Int32).toInt := i32_ne c51
          have hb53 : In r11 1 5 := In.ne1 hb29 (⟨by decide, by decide⟩ : In 0 0 0) cc52 (by omega) (by omega)
          refine lv_iload_n hx hb dX11_piece_87 rfl (lv_at hl 3 rfl) ?_
          refine lv_iconst (v := 1) hx hb dX11_piece_88 (by decide) ?_
          refine lv_icmp_ne (tgt := 104) hx hb dX11_piece_89 (by decide) (fun c54 => ?_) (fun c54 => ?_)
          ·
            have oc1 : (1 : Int32).toInt = 1 := by decide
            have cc55 : r11.toInt ≠ (1 : Int32).toInt := i32_ne c54
            have hb56 : In r11 2 5 := In.ne1 hb53 (⟨by decide, by decide⟩ : In 1 1 1) cc55 (by omega) (by omega)
            refine lv_iload_n hx hb dX11_piece_104 rfl (lv_at hl 3 rfl) ?_
            refine lv_iconst (v := 2) hx hb dX11_piece_105 (by decide) ?_
            refine lv_icmp_ne (tgt := 122) hx hb dX11_piece_106 (by decide) (fun c57 => ?_) (fun c57 => ?_)
            ·
              have oc2 : (2 : Int32).toInt = 2 := by decide
              have cc58 : r11.toInt ≠ (2 : Int32).toInt := i32_ne c57
              have hb59 : In r11 3 5 := In.ne1 hb56 (⟨by decide, by decide⟩ : In 2 2 2) cc58 (by omega) (by omega)
              refine lv_iload_n hx hb dX11_piece_122 rfl (lv_at hl 3 rfl) ?_
              refine lv_iconst (v := 3) hx hb dX11_piece_123 (by decide) ?_
              refine lv_icmp_ne (tgt := 131) hx hb dX11_piece_124 (by decide) (fun c60 => ?_) (fun c60 => ?_)
              ·
                have oc3 : (3 : Int32).toInt = 3 := by decide
                have cc61 : r11.toInt ≠ (3 : Int32).toInt := i32_ne c60
                have hb62 : In r11 4 5 := In.ne1 hb59 (⟨by decide, by decide⟩ : In 3 3 3) cc61 (by omega) (by omega)
                refine lv_iload_n hx hb dX11_piece_131 rfl (lv_at hl 3 rfl) ?_
                refine lv_iconst (v := 4) hx hb dX11_piece_132 (by decide) ?_
                refine lv_icmp_ne (tgt := 140) hx hb dX11_piece_133 (by decide) (fun c63 => ?_) (fun c63 => ?_)
                ·
                  have oc4 : (4 : Int32).toInt = 4 := by decide
                  have cc64 : r11.toInt ≠ (4 : Int32).toInt := i32_ne c63
                  have hb65 : In r11 5 5 := In.ne1 hb62 (⟨by decide, by decide⟩ : In 4 4 4) cc64 (by omega) (by omega)
                  refine lv_iload_n hx hb dX11_piece_140 rfl (lv_at hl 3 rfl) ?_
                  refine lv_iconst (v := 5) hx hb dX11_piece_141 (by decide) ?_
                  refine lv_icmp_ne (tgt := 152) hx hb dX11_piece_142 (by decide) (fun c66 => ?_) (fun c66 => ?_)
                  ·
                    have oc5 : (5 : Int32).toInt = 5 := by decide
                    have cc67 : r11.toInt ≠ (5 : Int32).toInt := i32_ne c66
                    exact In.empty (lo := 6) (hi := 5) (In.ne1 hb65 (⟨by decide, by decide⟩ : In 5 5 5) cc67 (by omega) (by omega)) (by decide)
                  ·
                    have oc5 : (5 : Int32).toInt = 5 := by decide
                    have cc68 : r11.toInt = (5 : Int32).toInt := congrArg Int32.toInt c66
                    have hpk : r11.toInt = 5 := (by obtain ⟨o0a, o0b⟩ := (hb65 : In _ _ _); omega)
                    have hp2 : (2 : Int) ^ r11.toInt.toNat = 32 := by rw [hpk]; rfl
                    have hbk : bitI (th 35) r11.toInt = bitI (th 35) 5 := by rw [hpk]
                    refine lv_aload_n hx hb dX11_piece_145 rfl (lv_at hl 0 rfl) ?_
                    obtain ⟨v0_69, v2_69, v3_69, v4_69, v5_69, v6_69, v8_69, v9_69, v12_69, v13_69, v14_69, v15_69, v16_69, v17_69, v18_69, v19_69, v20_69, v21_69, v22_69, v23_69, v25_69, v36_69, v37_69, v38_69, v39_69, v40_69, v45_69, v46_69, v47_69, v48_69, v50_69, v51_69, v53_69, v55_69, hf70, hv0_69, hv2_69, hg2_69, hv3_69, hg3_69, hv4_69, hg4_69, hv5_69, hg5_69, hv6_69, hg6_69, hv8_69, hv9_69, hg9_69, hv12_69, hv13_69, hg13_69, hv14_69, hg14_69, hv15_69, hg15_69, hv17_69, hg17_69, hv20_69, hg20_69, hv23_69, hg23_69, hv25_69, hv36_69, hg36_69, hv47_69, hg47_69, hv48_69, hg48_69, hv53_69, hg53_69, hv55_69, hg55_69, hrel0_69⟩ := hT.2.2 0 (by decide)
                    have hg2_69 : v2_69.toInt = th 13 := hg2_69
                    have hg3_69 : v3_69.toInt = zz16 := hg3_69
                    have hg4_69 : v4_69.toInt = th 42 := hg4_69
                    have hg5_69 : v5_69.toInt = th 40 := hg5_69
                    have hg6_69 : v6_69.toInt = th 41 := hg6_69
                    have hg9_69 : v9_69.toInt = x45.toInt := hg9_69
                    have hg13_69 : v13_69.toInt = th 36 := hg13_69
                    have hg14_69 : v14_69.toInt = th 10 := hg14_69
                    have hg15_69 : v15_69.toInt = th 11 := hg15_69
                    have hg17_69 : v17_69.toInt = th 12 := hg17_69
                    have hg20_69 : v20_69.toInt = th 14 := hg20_69
                    have hg23_69 : v23_69.toInt = th 15 := hg23_69
                    have hg36_69 : v36_69.toInt = th 18 := hg36_69
                    have hg47_69 : v47_69.toInt = th 16 := hg47_69
                    have hg48_69 : v48_69.toInt = th 17 := hg48_69
                    have hg53_69 : v53_69.toInt = th 38 := hg53_69
                    have hg55_69 : v55_69.toInt = th 39 := hg55_69
                    refine pl_get (v := .ref (ad 257)) hx hb hts (fun w h => mT (inX11 w h)) hown hG.1 hP (hst.1 255 (by decide)) hf70 rfl 7 (by decide) (hts _ (mT wg_1343)) (fun _ h => h) rfl dX11_piece_146 ?_
                    refine lv_iconst (v := 5) hx hb dX11_piece_149 (by decide) ?_
                    refine lv_iconst (v := 1) hx hb dX11_piece_150 (by decide) ?_
                    obtain ⟨rw71, hf72, hpn73, hpg74, hpn75, hpn76, hpn77, hpg78⟩ := hT.2.2 2 (by decide)
                    refine pl_iastE hx hb hG.1 hP hD hS (hst.1 257 (by decide)) 0 hf72 rfl (In.inb (⟨by decide, by decide⟩ : In 5 5 5) (by decide) (by decide)) dX11_piece_151 (fun H locs f79 r82 er82 hf80 ho81 hP hD hS => ?_)
                    have hpn83 : In (r82 0) 0 9 := (upd_neI (k := 0) er82 (by decide)) ▸ hpn73
                    have hpg84 := (congrArg Int32.toInt (upd_neI (k := 0) er82 (by decide))).trans hpg74
                    have hpn85 : In (r82 1) 0 4 := (upd_neI (k := 1) er82 (by decide)) ▸ hpn75
                    have hpn86 : In (r82 2) 0 6 := (upd_neI (k := 2) er82 (by decide)) ▸ hpn76
                    have hpn87 : In (r82 4) 0 511 := (upd_neI (k := 4) er82 (by decide)) ▸ hpn77
                    have hpg88 := (congrArg Int32.toInt (upd_neI (k := 4) er82 (by decide))).trans hpg78
                    have hf89 := (ho81 (ad 255) (hst.ne (by decide) (by decide) (by decide))).trans hf70
                    have hfr : (∀ b, b ≠ (ad 255) → b ≠ (ad 257) → f79 b = f b) := fun b z0_ z1_ => (ho81 b z1_).trans (hfr b z0_ z1_)
                    have hT := TI.updM hT hst (k := 2) (by decide) hf80 ho81 ⟨r82, rfl, hpn83, (hpg84.trans rfl), hpn85, hpn86, hpn87, (hpg88.trans rfl)⟩
                    exact ret_v hx hb hr hlocks hP hD hS (Nat.le_of_ble_eq_true rfl) (Nat.le_of_ble_eq_true rfl) (⟨rfl, ⟨zz16, (th 40), (th 41), (th 42), x45.toInt, (th 30), (th 34), ⟨(show th 37 ≤ zz16 ∧ zz16 ≤ 500 from (by obtain ⟨o0a, o0b⟩ := (hv2_69 : In _ _ _); obtain ⟨o1a, o1b⟩ := (hv3_69 : In _ _ _); obtain ⟨o2a, o2b⟩ := (hv4_69 : In _ _ _); obtain ⟨o3a, o3b⟩ := (hv5_69 : In _ _ _); obtain ⟨o4a, o4b⟩ := (hv6_69 : In _ _ _); obtain ⟨o5a, o5b⟩ := (hv9_69 : In _ _ _); obtain ⟨o6a, o6b⟩ := (hv13_69 : In _ _ _); obtain ⟨o7a, o7b⟩ := (hv14_69 : In _ _ _); obtain ⟨o8a, o8b⟩ := (hv15_69 : In _ _ _); obtain ⟨o9a, o9b⟩ := (hv17_69 : In _ _ _); obtain ⟨o10a, o10b⟩ := (hv20_69 : In _ _ _); obtain ⟨o11a, o11b⟩ := (hv23_69 : In _ _ _); obtain ⟨o12a, o12b⟩ := (hv36_69 : In _ _ _); obtain ⟨o13a, o13b⟩ := (hv47_69 : In _ _ _); obtain ⟨o14a, o14b⟩ := (hv48_69 : In _ _ _); obtain ⟨o15a, o15b⟩ := (hv53_69 : In _ _ _); obtain ⟨o16a, o16b⟩ := (hv55_69 : In _ _ _); omega)), ⟨(by obtain ⟨o0a, o0b⟩ := (hb44 : In _ _ _); obtain ⟨o1a, o1b⟩ := (hb47 : In _ _ _); obtain ⟨o2a, o2b⟩ := (eL7R : In _ _ _); obtain ⟨o3a, o3b⟩ := (hb65 : In _ _ _); obtain ⟨o4a, o4b⟩ := (hb42 : In _ _ _); obtain ⟨o5a, o5b⟩ := (hv2_69 : In _ _ _); obtain ⟨o6a, o6b⟩ := (hv3_69 : In _ _ _); obtain ⟨o7a, o7b⟩ := (hv4_69 : In _ _ _); obtain ⟨o8a, o8b⟩ := (hv5_69 : In _ _ _); obtain ⟨o9a, o9b⟩ := (hv6_69 : In _ _ _); obtain ⟨o10a, o10b⟩ := (hv9_69 : In _ _ _); obtain ⟨o11a, o11b⟩ := (hv13_69 : In _ _ _); obtain ⟨o12a, o12b⟩ := (hv14_69 : In _ _ _); obtain ⟨o13a, o13b⟩ := (hv15_69 : In _ _ _); obtain ⟨o14a, o14b⟩ := (hv17_69 : In _ _ _); obtain ⟨o15a, o15b⟩ := (hv20_69 : In _ _ _); obtain ⟨o16a, o16b⟩ := (hv23_69 : In _ _ _); obtain ⟨o17a, o17b⟩ := (hv36_69 : In _ _ _); obtain ⟨o18a, o18b⟩ := (hv47_69 : In _ _ _); obtain ⟨o19a, o19b⟩ := (hv48_69 : In _ _ _); obtain ⟨o20a, o20b⟩ := (hv53_69 : In _ _ _); obtain ⟨o21a, o21b⟩ := (hv55_69 : In _ _ _); omega), (by obtain ⟨o0a, o0b⟩ := (hb44 : In _ _ _); obtain ⟨o1a, o1b⟩ := (hb47 : In _ _ _); obtain ⟨o2a, o2b⟩ := (eL7R : In _ _ _); obtain ⟨o3a, o3b⟩ := (hb65 : In _ _ _); obtain ⟨o4a, o4b⟩ := (hb42 : In _ _ _); obtain ⟨o5a, o5b⟩ := (hv2_69 : In _ _ _); obtain ⟨o6a, o6b⟩ := (hv3_69 : In _ _ _); obtain ⟨o7a, o7b⟩ := (hv4_69 : In _ _ _); obtain ⟨o8a, o8b⟩ := (hv5_69 : In _ _ _); obtain ⟨o9a, o9b⟩ := (hv6_69 : In _ _ _); obtain ⟨o10a, o10b⟩ := (hv9_69 : In _ _ _); obtain ⟨o11a, o11b⟩ := (hv13_69 : In _ _ _); obtain ⟨o12a, o12b⟩ := (hv14_69 : In _ _ _); obtain ⟨o13a, o13b⟩ := (hv15_69 : In _ _ _); obtain ⟨o14a, o14b⟩ := (hv17_69 : In _ _ _); obtain ⟨o15a, o15b⟩ := (hv20_69 : In _ _ _); obtain ⟨o16a, o16b⟩ := (hv23_69 : In _ _ _); obtain ⟨o17a, o17b⟩ := (hv36_69 : In _ _ _); obtain ⟨o18a, o18b⟩ := (hv47_69 : In _ _ _); obtain ⟨o19a, o19b⟩ := (hv48_69 : In _ _ _); obtain ⟨o20a, o20b⟩ := (hv53_69 : In _ _ _); obtain ⟨o21a, o21b⟩ := (hv55_69 : In _ _ _); omega), (by obtain ⟨o0a, o0b⟩ := (hb44 : In _ _ _); obtain ⟨o1a, o1b⟩ := (hb47 : In _ _ _); obtain ⟨o2a, o2b⟩ := (eL7R : In _ _ _); obtain ⟨o3a, o3b⟩ := (hb65 : In _ _ _); obtain ⟨o4a, o4b⟩ := (hb42 : In _ _ _); obtain ⟨o5a, o5b⟩ := (hv2_69 : In _ _ _); obtain ⟨o6a, o6b⟩ := (hv3_69 : In _ _ _); obtain ⟨o7a, o7b⟩ := (hv4_69 : In _ _ _); obtain ⟨o8a, o8b⟩ := (hv5_69 : In _ _ _); obtain ⟨o9a, o9b⟩ := (hv6_69 : In _ _ _); obtain ⟨o10a, o10b⟩ := (hv9_69 : In _ _ _); obtain ⟨o11a, o11b⟩ := (hv13_69 : In _ _ _); obtain ⟨o12a, o12b⟩ := (hv14_69 : In _ _ _); obtain ⟨o13a, o13b⟩ := (hv15_69 : In _ _ _); obtain ⟨o14a, o14b⟩ := (hv17_69 : In _ _ _); obtain ⟨o15a, o15b⟩ := (hv20_69 : In _ _ _); obtain ⟨o16a, o16b⟩ := (hv23_69 : In _ _ _); obtain ⟨o17a, o17b⟩ := (hv36_69 : In _ _ _); obtain ⟨o18a, o18b⟩ := (hv47_69 : In _ _ _); obtain ⟨o19a, o19b⟩ := (hv48_69 : In _ _ _); obtain ⟨o20a, o20b⟩ := (hv53_69 : In _ _ _); obtain ⟨o21a, o21b⟩ := (hv55_69 : In _ _ _); omega), hd4, (by obtain ⟨o0a, o0b⟩ := (hb44 : In _ _ _); obtain ⟨o1a, o1b⟩ := (hb47 : In _ _ _); obtain ⟨o2a, o2b⟩ := (eL7R : In _ _ _); obtain ⟨o3a, o3b⟩ := (hb65 : In _ _ _); obtain ⟨o4a, o4b⟩ := (hb42 : In _ _ _); obtain ⟨o5a, o5b⟩ := (hv2_69 : In _ _ _); obtain ⟨o6a, o6b⟩ := (hv3_69 : In _ _ _); obtain ⟨o7a, o7b⟩ := (hv4_69 : In _ _ _); obtain ⟨o8a, o8b⟩ := (hv5_69 : In _ _ _); obtain ⟨o9a, o9b⟩ := (hv6_69 : In _ _ _); obtain ⟨o10a, o10b⟩ := (hv9_69 : In _ _ _); obtain ⟨o11a, o11b⟩ := (hv13_69 : In _ _ _); obtain ⟨o12a, o12b⟩ := (hv14_69 : In _ _ _); obtain ⟨o13a, o13b⟩ := (hv15_69 : In _ _ _); obtain ⟨o14a, o14b⟩ := (hv17_69 : In _ _ _); obtain ⟨o15a, o15b⟩ := (hv20_69 : In _ _ _); obtain ⟨o16a, o16b⟩ := (hv23_69 : In _ _ _); obtain ⟨o17a, o17b⟩ := (hv36_69 : In _ _ _); obtain ⟨o18a, o18b⟩ := (hv47_69 : In _ _ _); obtain ⟨o19a, o19b⟩ := (hv48_69 : In _ _ _); obtain ⟨o20a, o20b⟩ := (hv53_69 : In _ _ _); obtain ⟨o21a, o21b⟩ := (hv55_69 : In _ _ _); omega)⟩⟩, TI.cast hT (by funext q; simp only [gset]; (repeat' split); all_goals first | rfl | omega | (subst_vars; rfl) | (exfalso; omega))⟩, hfr⟩) dX11_piece_152
                ·
                  have oc4 : (4 : Int32).toInt = 4 := by decide
                  have cc90 : r11.toInt = (4 : Int32).toInt := congrArg Int32.toInt c63
                  have hb91 : In r11 4 4 := In.eq1 hb62 (⟨by decide, by decide⟩ : In 4 4 4) cc90 (by omega) (by omega)
                  have hpk : r11.toInt = 4 := (by obtain ⟨o0a, o0b⟩ := (hb91 : In _ _ _); omega)
                  have hp2 : (2 : Int) ^ r11.toInt.toNat = 16 := by rw [hpk]; rfl
                  have hbk : bitI (th 35) r11.toInt = bitI (th 35) 4 := by rw [hpk]
                  refine lv_aload_n hx hb dX11_piece_136 rfl (lv_at hl 0 rfl) ?_
                  obtain ⟨v0_92, v2_92, v3_92, v4_92, v5_92, v6_92, v8_92, v9_92, v12_92, v13_92, v14_92, v15_92, v16_92, v17_92, v18_92, v19_92, v20_92, v21_92, v22_92, v23_92, v25_92, v36_92, v37_92, v38_92, v39_92, v40_92, v45_92, v46_92, v47_92, v48_92, v50_92, v51_92, v53_92, v55_92, hf93, hv0_92, hv2_92, hg2_92, hv3_92, hg3_92, hv4_92, hg4_92, hv5_92, hg5_92, hv6_92, hg6_92, hv8_92, hv9_92, hg9_92, hv12_92, hv13_92, hg13_92, hv14_92, hg14_92, hv15_92, hg15_92, hv17_92, hg17_92, hv20_92, hg20_92, hv23_92, hg23_92, hv25_92, hv36_92, hg36_92, hv47_92, hg47_92, hv48_92, hg48_92, hv53_92, hg53_92, hv55_92, hg55_92, hrel0_92⟩ := hT.2.2 0 (by decide)
                  have hg2_92 : v2_92.toInt = th 13 := hg2_92
                  have hg3_92 : v3_92.toInt = zz16 := hg3_92
                  have hg4_92 : v4_92.toInt = th 42 := hg4_92
                  have hg5_92 : v5_92.toInt = th 40 := hg5_92
                  have hg6_92 : v6_92.toInt = th 41 := hg6_92
                  have hg9_92 : v9_92.toInt = x45.toInt := hg9_92
                  have hg13_92 : v13_92.toInt = th 36 := hg13_92
                  have hg14_92 : v14_92.toInt = th 10 := hg14_92
                  have hg15_92 : v15_92.toInt = th 11 := hg15_92
                  have hg17_92 : v17_92.toInt = th 12 := hg17_92
                  have hg20_92 : v20_92.toInt = th 14 := hg20_92
                  have hg23_92 : v23_92.toInt = th 15 := hg23_92
                  have hg36_92 : v36_92.toInt = th 18 := hg36_92
                  have hg47_92 : v47_92.toInt = th 16 := hg47_92
                  have hg48_92 : v48_92.toInt = th 17 := hg48_92
                  have hg53_92 : v53_92.toInt = th 38 := hg53_92
                  have hg55_92 : v55_92.toInt = th 39 := hg55_92
                  refine call_v (run_V (rm := rm_X11_liars) hx hb hml hown hts (s_X11_liars l g ad (gset (gset th 37 zz16) 35 x45.toInt) _ _ _  hst hT (show th 34 = 0 by omega) (show 3 ≤ th 30 ∧ th 30 ≤ 9 by omega)) cV_X11_liars wg_1588 ⟨Nat.le_of_ble_eq_true rfl, Nat.le_of_ble_eq_true rfl⟩ hG hE hA hP hD hS (hst.1 255 (by decide)) hf93 rfl rfl hl.1 (As := []) (rest := []) rfl (Nat.le_of_ble_eq_true rfl) dX11_piece_137 ⟨Nat.le_of_ble_eq_true rfl, Nat.le_of_ble_eq_true rfl⟩) hA hD hS (fun L95 f96 H locs hp97 hP hD hS => ?_)
                  obtain ⟨eL98L, eL98T, eL98F⟩ := hp97
                  have eL98L : L95 = L := eL98L
                  rw [eL98L] at hP hD
                  obtain ⟨zz99, zz100, zz101, zz102, zz103, hzz99, eL98T⟩ := eL98T
                  have hT : TI g ad (gset (gset (gset (gset (gset (gset (gset th 37 zz16) 35 x45.toInt) 37 zz99) 40 zz100) 41 zz101) 42 zz102) 34 zz103) f96 := eL98T
                  have hT : TI g ad (gset (gset (gset (gset (gset (gset th 35 x45.toInt) 37 zz99) 40 zz100) 41 zz101) 42 zz102) 34 zz103) f96 := TI.cast hT (by funext q; simp only [gset]; (repeat' split); all_goals first | rfl | omega | (subst_vars; rfl) | (exfalso; omega))
                  have eL98F : ∀ b, b ≠ (ad 255) → b ≠ (ad 257) → f96 b = f48 b := eL98F
                  have hfr : (∀ b, b ≠ (ad 255) → b ≠ (ad 257) → f96 b = f b) := fun b z0_ z1_ => (eL98F b z0_ z1_).trans (hfr b z0_ z1_)
                  refine lv_iload_n hx hb dX11_piece_140 rfl (lv_at hl 3 rfl) ?_
                  refine lv_iconst (v := 5) hx hb dX11_piece_141 (by decide) ?_
                  refine lv_icmp_ne (tgt := 152) hx hb dX11_piece_142 (by decide) (fun c104 => ?_) (fun c104 => ?_)
                  ·
                    have oc5 : (5 : Int32).toInt = 5 := by decide
                    have cc105 : r11.toInt ≠ (5 : Int32).toInt := i32_ne c104
                    exact ret_v hx hb hr hlocks hP hD hS (Nat.le_of_ble_eq_true rfl) (Nat.le_of_ble_eq_true rfl) (⟨rfl, ⟨zz99, zz100, zz101, zz102, x45.toInt, (th 30), zz103, ⟨(show th 37 ≤ zz99 ∧ zz99 ≤ 500 from (by omega)), ⟨(by obtain ⟨o0a, o0b⟩ := (hb44 : In _ _ _); obtain ⟨o1a, o1b⟩ := (hb47 : In _ _ _); obtain ⟨o2a, o2b⟩ := (eL7R : In _ _ _); obtain ⟨o3a, o3b⟩ := (hb91 : In _ _ _); obtain ⟨o4a, o4b⟩ := (hb42 : In _ _ _); omega), (by obtain ⟨o0a, o0b⟩ := (hb44 : In _ _ _); obtain ⟨o1a, o1b⟩ := (hb47 : In _ _ _); obtain ⟨o2a, o2b⟩ := (eL7R : In _ _ _); obtain ⟨o3a, o3b⟩ := (hb91 : In _ _ _); obtain ⟨o4a, o4b⟩ := (hb42 : In _ _ _); omega), (by obtain ⟨o0a, o0b⟩ := (hb44 : In _ _ _); obtain ⟨o1a, o1b⟩ := (hb47 : In _ _ _); obtain ⟨o2a, o2b⟩ := (eL7R : In _ _ _); obtain ⟨o3a, o3b⟩ := (hb91 : In _ _ _); obtain ⟨o4a, o4b⟩ := (hb42 : In _ _ _); omega), hzz99.2, (by obtain ⟨o0a, o0b⟩ := (hb44 : In _ _ _); obtain ⟨o1a, o1b⟩ := (hb47 : In _ _ _); obtain ⟨o2a, o2b⟩ := (eL7R : In _ _ _); obtain ⟨o3a, o3b⟩ := (hb91 : In _ _ _); obtain ⟨o4a, o4b⟩ := (hb42 : In _ _ _); omega)⟩⟩, TI.cast hT (by funext q; simp only [gset]; (repeat' split); all_goals first | rfl | omega | (subst_vars; rfl) | (exfalso; omega))⟩, hfr⟩) dX11_piece_152
                  ·
                    have oc5 : (5 : Int32).toInt = 5 := by decide
                    have cc106 : r11.toInt = (5 : Int32).toInt := congrArg Int32.toInt c104
                    exact In.empty (lo := 5) (hi := 4) (In.eq1 hb91 (⟨by decide, by decide⟩ : In 5 5 5) cc106 (by omega) (by omega)) (by decide)
              ·
                have oc3 : (3 : Int32).toInt = 3 := by decide
                have cc107 : r11.toInt = (3 : Int32).toInt := congrArg Int32.toInt c60
                have hb108 : In r11 3 3 := In.eq1 hb59 (⟨by decide, by decide⟩ : In 3 3 3) cc107 (by omega) (by omega)
                have hpk : r11.toInt = 3 := (by obtain ⟨o0a, o0b⟩ := (hb108 : In _ _ _); omega)
                have hp2 : (2 : Int) ^ r11.toInt.toNat = 8 := by rw [hpk]; rfl
                have hbk : bitI (th 35) r11.toInt = bitI (th 35) 3 := by rw [hpk]
                refine lv_aload_n hx hb dX11_piece_127 rfl (lv_at hl 0 rfl) ?_
                obtain ⟨v0_109, v2_109, v3_109, v4_109, v5_109, v6_109, v8_109, v9_109, v12_109, v13_109, v14_109, v15_109, v16_109, v17_109, v18_109, v19_109, v20_109, v21_109, v22_109, v23_109, v25_109, v36_109, v37_109, v38_109, v39_109, v40_109, v45_109, v46_109, v47_109, v48_109, v50_109, v51_109, v53_109, v55_109, hf110, hv0_109, hv2_109, hg2_109, hv3_109, hg3_109, hv4_109, hg4_109, hv5_109, hg5_109, hv6_109, hg6_109, hv8_109, hv9_109, hg9_109, hv12_109, hv13_109, hg13_109, hv14_109, hg14_109, hv15_109, hg15_109, hv17_109, hg17_109, hv20_109, hg20_109, hv23_109, hg23_109, hv25_109, hv36_109, hg36_109, hv47_109, hg47_109, hv48_109, hg48_109, hv53_109, hg53_109, hv55_109, hg55_109, hrel0_109⟩ := hT.2.2 0 (by decide)
                have hg2_109 : v2_109.toInt = th 13 := hg2_109
                have hg3_109 : v3_109.toInt = zz16 := hg3_109
                have hg4_109 : v4_109.toInt = th 42 := hg4_109
                have hg5_109 : v5_109.toInt = th 40 := hg5_109
                have hg6_109 : v6_109.toInt = th 41 := hg6_109
                have hg9_109 : v9_109.toInt = x45.toInt := hg9_109
                have hg13_109 : v13_109.toInt = th 36 := hg13_109
                have hg14_109 : v14_109.toInt = th 10 := hg14_109
                have hg15_109 : v15_109.toInt = th 11 := hg15_109
                have hg17_109 : v17_109.toInt = th 12 := hg17_109
                have hg20_109 : v20_109.toInt = th 14 := hg20_109
                have hg23_109 : v23_109.toInt = th 15 := hg23_109
                have hg36_109 : v36_109.toInt = th 18 := hg36_109
                have hg47_109 : v47_109.toInt = th 16 := hg47_109
                have hg48_109 : v48_109.toInt = th 17 := hg48_109
                have hg53_109 : v53_109.toInt = th 38 := hg53_109
                have hg55_109 : v55_109.toInt = th 39 := hg55_109
                refine call_v (run_V (rm := rm_X11_starts) hx hb hml hown hts (s_X11_starts l g ad (gset (gset th 37 zz16) 35 x45.toInt) _ _ _  hst hT ) cV_X11_starts wg_1584 ⟨Nat.le_of_ble_eq_true rfl, Nat.le_of_ble_eq_true rfl⟩ hG hE hA hP hD hS (hst.1 255 (by decide)) hf110 rfl rfl hl.1 (As := []) (rest := []) rfl (Nat.le_of_ble_eq_true rfl) dX11_piece_128 ⟨Nat.le_of_ble_eq_true rfl, Nat.le_of_ble_eq_true rfl⟩) hA hD hS (fun L112 f113 H locs hp114 hP hD hS => ?_)
                obtain ⟨eL115L, eL115T, eL115F⟩ := hp114
                have eL115L : L112 = L := eL115L
                rw [eL115L] at hP hD
                obtain ⟨zz116, zz117, zz118, zz119, hzz116, eL115T⟩ := eL115T
                have hT : TI g ad (gset (gset (gset (gset (gset (gset th 37 zz16) 35 x45.toInt) 37 zz116) 40 zz117) 41 zz118) 42 zz119) f113 := eL115T
                have hT : TI g ad (gset (gset (gset (gset (gset th 35 x45.toInt) 37 zz116) 40 zz117) 41 zz118) 42 zz119) f113 := TI.cast hT (by funext q; simp only [gset]; (repeat' split); all_goals first | rfl | omega | (subst_vars; rfl) | (exfalso; omega))
                have eL115F : ∀ b, b ≠ (ad 255) → b ≠ (ad 257) → f113 b = f48 b := eL115F
                have hfr : (∀ b, b ≠ (ad 255) → b ≠ (ad 257) → f113 b = f b) := fun b z0_ z1_ => (eL115F b z0_ z1_).trans (hfr b z0_ z1_)
                refine lv_iload_n hx hb dX11_piece_131 rfl (lv_at hl 3 rfl) ?_
                refine lv_iconst (v := 4) hx hb dX11_piece_132 (by decide) ?_
                refine lv_icmp_ne (tgt := 140) hx hb dX11_piece_133 (by decide) (fun c120 => ?_) (fun c120 => ?_)
                ·
                  have oc4 : (4 : Int32).toInt = 4 := by decide
                  have cc121 : r11.toInt ≠ (4 : Int32).toInt := i32_ne c120
                  refine lv_iload_n hx hb dX11_piece_140 rfl (lv_at hl 3 rfl) ?_
                  refine lv_iconst (v := 5) hx hb dX11_piece_141 (by decide) ?_
                  refine lv_icmp_ne (tgt := 152) hx hb dX11_piece_142 (by decide) (fun c122 => ?_) (fun c122 => ?_)
                  ·
                    have oc5 : (5 : Int32).toInt = 5 := by decide
                    have cc123 : r11.toInt ≠ (5 : Int32).toInt := i32_ne c122
                    exact ret_v hx hb hr hlocks hP hD hS (Nat.le_of_ble_eq_true rfl) (Nat.le_of_ble_eq_true rfl) (⟨rfl, ⟨zz116, zz117, zz118, zz119, x45.toInt, (th 30), (th 34), ⟨(show th 37 ≤ zz116 ∧ zz116 ≤ 500 from (by omega)), ⟨(by obtain ⟨o0a, o0b⟩ := (hb44 : In _ _ _); obtain ⟨o1a, o1b⟩ := (hb47 : In _ _ _); obtain ⟨o2a, o2b⟩ := (eL7R : In _ _ _); obtain ⟨o3a, o3b⟩ := (hb108 : In _ _ _); obtain ⟨o4a, o4b⟩ := (hb42 : In _ _ _); omega), (by obtain ⟨o0a, o0b⟩ := (hb44 : In _ _ _); obtain ⟨o1a, o1b⟩ := (hb47 : In _ _ _); obtain ⟨o2a, o2b⟩ := (eL7R : In _ _ _); obtain ⟨o3a, o3b⟩ := (hb108 : In _ _ _); obtain ⟨o4a, o4b⟩ := (hb42 : In _ _ _); omega), (by obtain ⟨o0a, o0b⟩ := (hb44 : In _ _ _); obtain ⟨o1a, o1b⟩ := (hb47 : In _ _ _); obtain ⟨o2a, o2b⟩ := (eL7R : In _ _ _); obtain ⟨o3a, o3b⟩ := (hb108 : In _ _ _); obtain ⟨o4a, o4b⟩ := (hb42 : In _ _ _); omega), hd4, (by obtain ⟨o0a, o0b⟩ := (hb44 : In _ _ _); obtain ⟨o1a, o1b⟩ := (hb47 : In _ _ _); obtain ⟨o2a, o2b⟩ := (eL7R : In _ _ _); obtain ⟨o3a, o3b⟩ := (hb108 : In _ _ _); obtain ⟨o4a, o4b⟩ := (hb42 : In _ _ _); omega)⟩⟩, TI.cast hT (by funext q; simp only [gset]; (repeat' split); all_goals first | rfl | omega | (subst_vars; rfl) | (exfalso; omega))⟩, hfr⟩) dX11_piece_152
                  ·
                    have oc5 : (5 : Int32).toInt = 5 := by decide
                    have cc124 : r11.toInt = (5 : Int32).toInt := congrArg Int32.toInt c122
                    exact In.empty (lo := 5) (hi := 3) (In.eq1 hb108 (⟨by decide, by decide⟩ : In 5 5 5) cc124 (by omega) (by omega)) (by decide)
                ·
                  have oc4 : (4 : Int32).toInt = 4 := by decide
                  have cc125 : r11.toInt = (4 : Int32).toInt := congrArg Int32.toInt c120
                  exact In.empty (lo := 4) (hi := 3) (In.eq1 hb108 (⟨by decide, by decide⟩ : In 4 4 4) cc125 (by omega) (by omega)) (by decide)
            ·
              have oc2 : (2 : Int32).toInt = 2 := by decide
              have cc126 : r11.toInt = (2 : Int32).toInt := congrArg Int32.toInt c57
              have hb127 : In r11 2 2 := In.eq1 hb56 (⟨by decide, by decide⟩ : In 2 2 2) cc126 (by omega) (by omega)
              have hpk : r11.toInt = 2 := (by obtain ⟨o0a, o0b⟩ := (hb127 : In _ _ _); omega)
              have hp2 : (2 : Int) ^ r11.toInt.toNat = 4 := by rw [hpk]; rfl
              have hbk : bitI (th 35) r11.toInt = bitI (th 35) 2 := by rw [hpk]
              refine lv_aload_n hx hb dX11_piece_109 rfl (lv_at hl 0 rfl) ?_
              obtain ⟨v0_128, v2_128, v3_128, v4_128, v5_128, v6_128, v8_128, v9_128, v12_128, v13_128, v14_128, v15_128, v16_128, v17_128, v18_128, v19_128, v20_128, v21_128, v22_128, v23_128, v25_128, v36_128, v37_128, v38_128, v39_128, v40_128, v45_128, v46_128, v47_128, v48_128, v50_128, v51_128, v53_128, v55_128, hf129, hv0_128, hv2_128, hg2_128, hv3_128, hg3_128, hv4_128, hg4_128, hv5_128, hg5_128, hv6_128, hg6_128, hv8_128, hv9_128, hg9_128, hv12_128, hv13_128, hg13_128, hv14_128, hg14_128, hv15_128, hg15_128, hv17_128, hg17_128, hv20_128, hg20_128, hv23_128, hg23_128, hv25_128, hv36_128, hg36_128, hv47_128, hg47_128, hv48_128, hg48_128, hv53_128, hg53_128, hv55_128, hg55_128, hrel0_128⟩ := hT.2.2 0 (by decide)
              have hg2_128 : v2_128.toInt = th 13 := hg2_128
              have hg3_128 : v3_128.toInt = zz16 := hg3_128
              have hg4_128 : v4_128.toInt = th 42 := hg4_128
              have hg5_128 : v5_128.toInt = th 40 := hg5_128
              have hg6_128 : v6_128.toInt = th 41 := hg6_128
              have hg9_128 : v9_128.toInt = x45.toInt := hg9_128
              have hg13_128 : v13_128.toInt = th 36 := hg13_128
              have hg14_128 : v14_128.toInt = th 10 := hg14_128
              have hg15_128 : v15_128.toInt = th 11 := hg15_128
              have hg17_128 : v17_128.toInt = th 12 := hg17_128
              have hg20_128 : v20_128.toInt = th 14 := hg20_128
              have hg23_128 : v23_128.toInt = th 15 := hg23_128
              have hg36_128 : v36_128.toInt = th 18 := hg36_128
              have hg47_128 : v47_128.toInt = th 16 := hg47_128
              have hg48_128 : v48_128.toInt = th 17 := hg48_128
              have hg53_128 : v53_128.toInt = th 38 := hg53_128
              have hg55_128 : v55_128.toInt = th 39 := hg55_128
              refine pl_get (v := .ref (ad 257)) hx hb hts (fun w h => mT (inX11 w h)) hown hG.1 hP (hst.1 255 (by decide)) hf129 rfl 7 (by decide) (hts _ (mT wg_1343)) (fun _ h => h) rfl dX11_piece_110 ?_
              refine lv_iconst (v := 2) hx hb dX11_piece_113 (by decide) ?_
              refine lv_aload_n hx hb dX11_piece_114 rfl (lv_at hl 0 rfl) ?_
              refine lv_iconst (v := 1) hx hb dX11_piece_115 (by decide) ?_
              refine lv_bipush (v := 6) hx hb dX11_piece_116 (by decide) ?_
              refine call_i (run_V (rm := rm_X11_digit_1_6) hx hb hml hown hts (s_X11_digit_1_6 l g ad (gset (gset th 37 zz16) 35 x45.toInt) _ _ _  hst hT ) cV_X11_digit wg_1566 ⟨Nat.le_of_ble_eq_true rfl, Nat.le_of_ble_eq_true rfl⟩ hG hE hA hP hD hS (hst.1 255 (by decide)) hf129 rfl rfl hl.1 (As := [.int 1, .int 6]) (rest := [.int 2, .ref (ad 257)]) rfl (Nat.le_of_ble_eq_true rfl) dX11_piece_118 ⟨Nat.le_of_ble_eq_true rfl, Nat.le_of_ble_eq_true rfl⟩) hA hD hS (fun r130 L131 f132 H locs hp133 hP hD hS => ?_)
              obtain ⟨eL134L, eL134T, eL134F, eL134R⟩ := hp133
              have eL134L : L131 = L := eL134L
              rw [eL134L] at hP hD
              obtain ⟨zz135, zz136, zz137, zz138, hzz135, eL134T⟩ := eL134T
              have hT : TI g ad (gset (gset (gset (gset (gset (gset th 37 zz16) 35 x45.toInt) 37 zz135) 40 zz136) 41 zz137) 42 zz138) f132 := eL134T
              have hT : TI g ad (gset (gset (gset (gset (gset th 35 x45.toInt) 37 zz135) 40 zz136) 41 zz137) 42 zz138) f132 := TI.cast hT (by funext q; simp only [gset]; (repeat' split); all_goals first | rfl | omega | (subst_vars; rfl) | (exfalso; omega))
              have eL134F : ∀ b, b ≠ (ad 255) → f132 b = f48 b := eL134F
              have hfr : (∀ b, b ≠ (ad 255) → b ≠ (ad 257) → f132 b = f b) := fun b z0_ z1_ => (eL134F b z0_).trans (hfr b z0_ z1_)
              have eL134R : In r130 1 6 := eL134R
              obtain ⟨rw139, hf140, hpn141, hpg142, hpn143, hpn144, hpn145, hpg146⟩ := hT.2.2 2 (by decide)
              refine pl_iastE hx hb hG.1 hP hD hS (hst.1 257 (by decide)) 0 hf140 rfl (In.inb (⟨by decide, by decide⟩ : In 2 2 2) (by decide) (by decide)) dX11_piece_121 (fun H locs f147 r150 er150 hf148 ho149 hP hD hS => ?_)
              have hpn151 : In (r150 0) 0 9 := (upd_neI (k := 0) er150 (by decide)) ▸ hpn141
              have hpg152 := (congrArg Int32.toInt (upd_neI (k := 0) er150 (by decide))).trans hpg142
              have hpn153 : In (r150 1) 0 4 := (upd_neI (k := 1) er150 (by decide)) ▸ hpn143
              have hpn154 : In (r150 2) 0 6 := (upd_eqI (k := 2) er150 (by decide)) ▸ (In.mono eL134R (by decide) (by decide))
              have hpn155 : In (r150 4) 0 511 := (upd_neI (k := 4) er150 (by decide)) ▸ hpn145
              have hpg156 := (congrArg Int32.toInt (upd_neI (k := 4) er150 (by decide))).trans hpg146
              have hfr : (∀ b, b ≠ (ad 255) → b ≠ (ad 257) → f147 b = f b) := fun b z0_ z1_ => (ho149 b z1_).trans (hfr b z0_ z1_)
              refine lv_iload_n hx hb dX11_piece_122 rfl (lv_at hl 3 rfl) ?_
              refine lv_iconst (v := 3) hx hb dX11_piece_123 (by decide) ?_
              have hT := TI.updM hT hst (k := 2) (by decide) hf148 ho149 ⟨r150, rfl, hpn151, (hpg152.trans rfl), hpn153, hpn154, hpn155, (hpg156.trans rfl)⟩
              refine lv_icmp_ne (tgt := 131) hx hb dX11_piece_124 (by decide) (fun c157 => ?_) (fun c157 => ?_)
              ·
                have oc3 : (3 : Int32).toInt = 3 := by decide
                have cc158 : r11.toInt ≠ (3 : Int32).toInt := i32_ne c157
                refine lv_iload_n hx hb dX11_piece_131 rfl (lv_at hl 3 rfl) ?_
                refine lv_iconst (v := 4) hx hb dX11_piece_132 (by decide) ?_
                refine lv_icmp_ne (tgt := 140) hx hb dX11_piece_133 (by decide) (fun c159 => ?_) (fun c159 => ?_)
                ·
                  have oc4 : (4 : Int32).toInt = 4 := by decide
                  have cc160 : r11.toInt ≠ (4 : Int32).toInt := i32_ne c159
                  refine lv_iload_n hx hb dX11_piece_140 rfl (lv_at hl 3 rfl) ?_
                  refine lv_iconst (v := 5) hx hb dX11_piece_141 (by decide) ?_
                  refine lv_icmp_ne (tgt := 152) hx hb dX11_piece_142 (by decide) (fun c161 => ?_) (fun c161 => ?_)
                  ·
                    have oc5 : (5 : Int32).toInt = 5 := by decide
                    have cc162 : r11.toInt ≠ (5 : Int32).toInt := i32_ne c161
                    exact ret_v hx hb hr hlocks hP hD hS (Nat.le_of_ble_eq_true rfl) (Nat.le_of_ble_eq_true rfl) (⟨rfl, ⟨zz135, zz136, zz137, zz138, x45.toInt, (th 30), (th 34), ⟨(show th 37 ≤ zz135 ∧ zz135 ≤ 500 from (by omega)), ⟨(by obtain ⟨o0a, o0b⟩ := (hb44 : In _ _ _); obtain ⟨o1a, o1b⟩ := (hb47 : In _ _ _); obtain ⟨o2a, o2b⟩ := (eL7R : In _ _ _); obtain ⟨o3a, o3b⟩ := (hb127 : In _ _ _); obtain ⟨o4a, o4b⟩ := (hb42 : In _ _ _); obtain ⟨o5a, o5b⟩ := (eL134R : In _ _ _); omega), (by obtain ⟨o0a, o0b⟩ := (hb44 : In _ _ _); obtain ⟨o1a, o1b⟩ := (hb47 : In _ _ _); obtain ⟨o2a, o2b⟩ := (eL7R : In _ _ _); obtain ⟨o3a, o3b⟩ := (hb127 : In _ _ _); obtain ⟨o4a, o4b⟩ := (hb42 : In _ _ _); obtain ⟨o5a, o5b⟩ := (eL134R : In _ _ _); omega), (by obtain ⟨o0a, o0b⟩ := (hb44 : In _ _ _); obtain ⟨o1a, o1b⟩ := (hb47 : In _ _ _); obtain ⟨o2a, o2b⟩ := (eL7R : In _ _ _); obtain ⟨o3a, o3b⟩ := (hb127 : In _ _ _); obtain ⟨o4a, o4b⟩ := (hb42 : In _ _ _); obtain ⟨o5a, o5b⟩ := (eL134R : In _ _ _); omega), hd4, (by obtain ⟨o0a, o0b⟩ := (hb44 : In _ _ _); obtain ⟨o1a, o1b⟩ := (hb47 : In _ _ _); obtain ⟨o2a, o2b⟩ := (eL7R : In _ _ _); obtain ⟨o3a, o3b⟩ := (hb127 : In _ _ _); obtain ⟨o4a, o4b⟩ := (hb42 : In _ _ _); obtain ⟨o5a, o5b⟩ := (eL134R : In _ _ _); omega)⟩⟩, TI.cast hT (by funext q; simp only [gset]; (repeat' split); all_goals first | rfl | omega | (subst_vars; rfl) | (exfalso; omega))⟩, hfr⟩) dX11_piece_152
                  ·
                    have oc5 : (5 : Int32).toInt = 5 := by decide
                    have cc163 : r11.toInt = (5 : Int32).toInt := congrArg Int32.toInt c161
                    exact In.empty (lo := 5) (hi := 2) (In.eq1 hb127 (⟨by decide, by decide⟩ : In 5 5 5) cc163 (by omega) (by omega)) (by decide)
                ·
                  have oc4 : (4 : Int32).toInt = 4 := by decide
                  have cc164 : r11.toInt = (4 : Int32).toInt := congrArg Int32.toInt c159
                  exact In.empty (lo := 4) (hi := 2) (In.eq1 hb127 (⟨by decide, by decide⟩ : In 4 4 4) cc164 (by omega) (by omega)) (by decide)
              ·
                have oc3 : (3 : Int32).toInt = 3 := by decide
                have cc165 : r11.toInt = (3 : Int32).toInt := congrArg Int32.toInt c157
                exact In.empty (lo := 3) (hi := 2) (In.eq1 hb127 (⟨by decide, by decide⟩ : In 3 3 3) cc165 (by omega) (by omega)) (by decide)
          ·
            have oc1 : (1 : Int32).toInt = 1 := by decide
            have cc166 : r11.toInt = (1 : Int32).toInt := congrArg Int32.toInt c54
            have hb167 : In r11 1 1 := In.eq1 hb53 (⟨by decide, by decide⟩ : In 1 1 1) cc166 (by omega) (by omega)
            have hpk : r11.toInt = 1 := (by obtain ⟨o0a, o0b⟩ := (hb167 : In _ _ _); omega)
            have hp2 : (2 : Int) ^ r11.toInt.toNat = 2 := by rw [hpk]; rfl
            have hbk : bitI (th 35) r11.toInt = bitI (th 35) 1 := by rw [hpk]
            refine lv_aload_n hx hb dX11_piece_92 rfl (lv_at hl 0 rfl) ?_
            obtain ⟨v0_168, v2_168, v3_168, v4_168, v5_168, v6_168, v8_168, v9_168, v12_168, v13_168, v14_168, v15_168, v16_168, v17_168, v18_168, v19_168, v20_168, v21_168, v22_168, v23_168, v25_168, v36_168, v37_168, v38_168, v39_168, v40_168, v45_168, v46_168, v47_168, v48_168, v50_168, v51_168, v53_168, v55_168, hf169, hv0_168, hv2_168, hg2_168, hv3_168, hg3_168, hv4_168, hg4_168, hv5_168, hg5_168, hv6_168, hg6_168, hv8_168, hv9_168, hg9_168, hv12_168, hv13_168, hg13_168, hv14_168, hg14_168, hv15_168, hg15_168, hv17_168, hg17_168, hv20_168, hg20_168, hv23_168, hg23_168, hv25_168, hv36_168, hg36_168, hv47_168, hg47_168, hv48_168, hg48_168, hv53_168, hg53_168, hv55_168, hg55_168, hrel0_168⟩ := hT.2.2 0 (by decide)
            have hg2_168 : v2_168.toInt = th 13 := hg2_168
            have hg3_168 : v3_168.toInt = zz16 := hg3_168
            have hg4_168 : v4_168.toInt = th 42 := hg4_168
            have hg5_168 : v5_168.toInt = th 40 := hg5_168
            have hg6_168 : v6_168.toInt = th 41 := hg6_168
            have hg9_168 : v9_168.toInt = x45.toInt := hg9_168
            have hg13_168 : v13_168.toInt = th 36 := hg13_168
            have hg14_168 : v14_168.toInt = th 10 := hg14_168
            have hg15_168 : v15_168.toInt = th 11 := hg15_168
            have hg17_168 : v17_168.toInt = th 12 := hg17_168
            have hg20_168 : v20_168.toInt = th 14 := hg20_168
            have hg23_168 : v23_168.toInt = th 15 := hg23_168
            have hg36_168 : v36_168.toInt = th 18 := hg36_168
            have hg47_168 : v47_168.toInt = th 16 := hg47_168
            have hg48_168 : v48_168.toInt = th 17 := hg48_168
            have hg53_168 : v53_168.toInt = th 38 := hg53_168
            have hg55_168 : v55_168.toInt = th 39 := hg55_168
            refine pl_get (v := .ref (ad 257)) hx hb hts (fun w h => mT (inX11 w h)) hown hG.1 hP (hst.1 255 (by decide)) hf169 rfl 7 (by decide) (hts _ (mT wg_1343)) (fun _ h => h) rfl dX11_piece_93 ?_
            refine lv_iconst (v := 1) hx hb dX11_piece_96 (by decide) ?_
            refine lv_aload_n hx hb dX11_piece_97 rfl (lv_at hl 0 rfl) ?_
            refine lv_iconst (v := 0) hx hb dX11_piece_98 (by decide) ?_
            refine lv_iconst (v := 4) hx hb dX11_piece_99 (by decide) ?_
            refine call_i (run_V (rm := rm_X11_digit_0_4) hx hb hml hown hts (s_X11_digit_0_4 l g ad (gset (gset th 37 zz16) 35 x45.toInt) _ _ _  hst hT ) cV_X11_digit wg_1566 ⟨Nat.le_of_ble_eq_true rfl, Nat.le_of_ble_eq_true rfl⟩ hG hE hA hP hD hS (hst.1 255 (by decide)) hf169 rfl rfl hl.1 (As := [.int 0, .int 4]) (rest := [.int 1, .ref (ad 257)]) rfl (Nat.le_of_ble_eq_true rfl) dX11_piece_100 ⟨Nat.le_of_ble_eq_true rfl, Nat.le_of_ble_eq_true rfl⟩) hA hD hS (fun r170 L171 f172 H locs hp173 hP hD hS => ?_)
            obtain ⟨eL174L, eL174T, eL174F, eL174R⟩ := hp173
            have eL174L : L171 = L := eL174L
            rw [eL174L] at hP hD
            obtain ⟨zz175, zz176, zz177, zz178, hzz175, eL174T⟩ := eL174T
            have hT : TI g ad (gset (gset (gset (gset (gset (gset th 37 zz16) 35 x45.toInt) 37 zz175) 40 zz176) 41 zz177) 42 zz178) f172 := eL174T
            have hT : TI g ad (gset (gset (gset (gset (gset th 35 x45.toInt) 37 zz175) 40 zz176) 41 zz177) 42 zz178) f172 := TI.cast hT (by funext q; simp only [gset]; (repeat' split); all_goals first | rfl | omega | (subst_vars; rfl) | (exfalso; omega))
            have eL174F : ∀ b, b ≠ (ad 255) → f172 b = f48 b := eL174F
            have hfr : (∀ b, b ≠ (ad 255) → b ≠ (ad 257) → f172 b = f b) := fun b z0_ z1_ => (eL174F b z0_).trans (hfr b z0_ z1_)
            have eL174R : In r170 0 4 := eL174R
            obtain ⟨rw179, hf180, hpn181, hpg182, hpn183, hpn184, hpn185, hpg186⟩ := hT.2.2 2 (by decide)
            refine pl_iastE hx hb hG.1 hP hD hS (hst.1 257 (by decide)) 0 hf180 rfl (In.inb (⟨by decide, by decide⟩ : In 1 1 1) (by decide) (by decide)) dX11_piece_103 (fun H locs f187 r190 er190 hf188 ho189 hP hD hS => ?_)
            have hpn191 : In (r190 0) 0 9 := (upd_neI (k := 0) er190 (by decide)) ▸ hpn181
            have hpg192 := (congrArg Int32.toInt (upd_neI (k := 0) er190 (by decide))).trans hpg182
            have hpn193 : In (r190 1) 0 4 := (upd_eqI (k := 1) er190 (by decide)) ▸ eL174R
            have hpn194 : In (r190 2) 0 6 := (upd_neI (k := 2) er190 (by decide)) ▸ hpn184
            have hpn195 : In (r190 4) 0 511 := (upd_neI (k := 4) er190 (by decide)) ▸ hpn185
            have hpg196 := (congrArg Int32.toInt (upd_neI (k := 4) er190 (by decide))).trans hpg186
            have hfr : (∀ b, b ≠ (ad 255) → b ≠ (ad 257) → f187 b = f b) := fun b z0_ z1_ => (ho189 b z1_).trans (hfr b z0_ z1_)
            refine lv_iload_n hx hb dX11_piece_104 rfl (lv_at hl 3 rfl) ?_
            refine lv_iconst (v := 2) hx hb dX11_piece_105 (by decide) ?_
            have hT := TI.updM hT hst (k := 2) (by decide) hf188 ho189 ⟨r190, rfl, hpn191, (hpg192.trans rfl), hpn193, hpn194, hpn195, (hpg196.trans rfl)⟩
            refine lv_icmp_ne (tgt := 122) hx hb dX11_piece_106 (by decide) (fun c197 => ?_) (fun c197 => ?_)
            ·
              have oc2 : (2 : Int32).toInt = 2 := by decide
              have cc198 : r11.toInt ≠ (2 : Int32).toInt := i32_ne c197
              refine lv_iload_n hx hb dX11_piece_122 rfl (lv_at hl 3 rfl) ?_
              refine lv_iconst (v := 3) hx hb dX11_piece_123 (by decide) ?_
              refine lv_icmp_ne (tgt := 131) hx hb dX11_piece_124 (by decide) (fun c199 => ?_) (fun c199 => ?_)
              ·
                have oc3 : (3 : Int32).toInt = 3 := by decide
                have cc200 : r11.toInt ≠ (3 : Int32).toInt := i32_ne c199
                refine lv_iload_n hx hb dX11_piece_131 rfl (lv_at hl 3 rfl) ?_
                refine lv_iconst (v := 4) hx hb dX11_piece_132 (by decide) ?_
                refine lv_icmp_ne (tgt := 140) hx hb dX11_piece_133 (by decide) (fun c201 => ?_) (fun c201 => ?_)
                ·
                  have oc4 : (4 : Int32).toInt = 4 := by decide
                  have cc202 : r11.toInt ≠ (4 : Int32).toInt := i32_ne c201
                  refine lv_iload_n hx hb dX11_piece_140 rfl (lv_at hl 3 rfl) ?_
                  refine lv_iconst (v := 5) hx hb dX11_piece_141 (by decide) ?_
                  refine lv_icmp_ne (tgt := 152) hx hb dX11_piece_142 (by decide) (fun c203 => ?_) (fun c203 => ?_)
                  ·
                    have oc5 : (5 : Int32).toInt = 5 := by decide
                    have cc204 : r11.toInt ≠ (5 : Int32).toInt := i32_ne c203
                    exact ret_v hx hb hr hlocks hP hD hS (Nat.le_of_ble_eq_true rfl) (Nat.le_of_ble_eq_true rfl) (⟨rfl, ⟨zz175, zz176, zz177, zz178, x45.toInt, (th 30), (th 34), ⟨(show th 37 ≤ zz175 ∧ zz175 ≤ 500 from (by omega)), ⟨(by obtain ⟨o0a, o0b⟩ := (hb44 : In _ _ _); obtain ⟨o1a, o1b⟩ := (hb47 : In _ _ _); obtain ⟨o2a, o2b⟩ := (eL7R : In _ _ _); obtain ⟨o3a, o3b⟩ := (hb167 : In _ _ _); obtain ⟨o4a, o4b⟩ := (hb42 : In _ _ _); obtain ⟨o5a, o5b⟩ := (eL174R : In _ _ _); omega), (by obtain ⟨o0a, o0b⟩ := (hb44 : In _ _ _); obtain ⟨o1a, o1b⟩ := (hb47 : In _ _ _); obtain ⟨o2a, o2b⟩ := (eL7R : In _ _ _); obtain ⟨o3a, o3b⟩ := (hb167 : In _ _ _); obtain ⟨o4a, o4b⟩ := (hb42 : In _ _ _); obtain ⟨o5a, o5b⟩ := (eL174R : In _ _ _); omega), (by obtain ⟨o0a, o0b⟩ := (hb44 : In _ _ _); obtain ⟨o1a, o1b⟩ := (hb47 : In _ _ _); obtain ⟨o2a, o2b⟩ := (eL7R : In _ _ _); obtain ⟨o3a, o3b⟩ := (hb167 : In _ _ _); obtain ⟨o4a, o4b⟩ := (hb42 : In _ _ _); obtain ⟨o5a, o5b⟩ := (eL174R : In _ _ _); omega), hd4, (by obtain ⟨o0a, o0b⟩ := (hb44 : In _ _ _); obtain ⟨o1a, o1b⟩ := (hb47 : In _ _ _); obtain ⟨o2a, o2b⟩ := (eL7R : In _ _ _); obtain ⟨o3a, o3b⟩ := (hb167 : In _ _ _); obtain ⟨o4a, o4b⟩ := (hb42 : In _ _ _); obtain ⟨o5a, o5b⟩ := (eL174R : In _ _ _); omega)⟩⟩, TI.cast hT (by funext q; simp only [gset]; (repeat' split); all_goals first | rfl | omega | (subst_vars; rfl) | (exfalso; omega))⟩, hfr⟩) dX11_piece_152
                  ·
                    have oc5 : (5 : Int32).toInt = 5 := by decide
                    have cc205 : r11.toInt = (5 : Int32).toInt := congrArg Int32.toInt c203
                    exact In.empty (lo := 5) (hi := 1) (In.eq1 hb167 (⟨by decide, by decide⟩ : In 5 5 5) cc205 (by omega) (by omega)) (by decide)
                ·
                  have oc4 : (4 : Int32).toInt = 4 := by decide
                  have cc206 : r11.toInt = (4 : Int32).toInt := congrArg Int32.toInt c201
                  exact In.empty (lo := 4) (hi := 1) (In.eq1 hb167 (⟨by decide, by decide⟩ : In 4 4 4) cc206 (by omega) (by omega)) (by decide)
              ·
                have oc3 : (3 : Int32).toInt = 3 := by decide
                have cc207 : r11.toInt = (3 : Int32).toInt := congrArg Int32.toInt c199
                exact In.empty (lo := 3) (hi := 1) (In.eq1 hb167 (⟨by decide, by decide⟩ : In 3 3 3) cc207 (by omega) (by omega)) (by decide)
            ·
              have oc2 : (2 : Int32).toInt = 2 := by decide
              have cc208 : r11.toInt = (2 : Int32).toInt := congrArg Int32.toInt c197
              exact In.empty (lo := 2) (hi := 1) (In.eq1 hb167 (⟨by decide, by decide⟩ : In 2 2 2) cc208 (by omega) (by omega)) (by decide)
        ·
          have oc0 : (0 : Int32).toInt = 0 := by decide
          have cc209 : r11.toInt = (0 : Int32).toInt := congrArg Int32.toInt c51
          have hb210 : In r11 0 0 := In.eq1 hb29 (⟨by decide, by decide⟩ : In 0 0 0) cc209 (by omega) (by omega)
          have hpk : r11.toInt = 0 := (by obtain ⟨o0a, o0b⟩ := (hb210 : In _ _ _); omega)
          have hp2 : (2 : Int) ^ r11.toInt.toNat = 1 := by rw [hpk]; rfl
          have hbk : bitI (th 35) r11.toInt = bitI (th 35) 0 := by rw [hpk]
          refine lv_aload_n hx hb dX11_piece_74 rfl (lv_at hl 0 rfl) ?_
          obtain ⟨v0_211, v2_211, v3_211, v4_211, v5_211, v6_211, v8_211, v9_211, v12_211, v13_211, v14_211, v15_211, v16_211, v17_211, v18_211, v19_211, v20_211, v21_211, v22_211, v23_211, v25_211, v36_211, v37_211, v38_211, v39_211, v40_211, v45_211, v46_211, v47_211, v48_211, v50_211, v51_211, v53_211, v55_211, hf212, hv0_211, hv2_211, hg2_211, hv3_211, hg3_211, hv4_211, hg4_211, hv5_211, hg5_211, hv6_211, hg6_211, hv8_211, hv9_211, hg9_211, hv12_211, hv13_211, hg13_211, hv14_211, hg14_211, hv15_211, hg15_211, hv17_211, hg17_211, hv20_211, hg20_211, hv23_211, hg23_211, hv25_211, hv36_211, hg36_211, hv47_211, hg47_211, hv48_211, hg48_211, hv53_211, hg53_211, hv55_211, hg55_211, hrel0_211⟩ := hT.2.2 0 (by decide)
          have hg2_211 : v2_211.toInt = th 13 := hg2_211
          have hg3_211 : v3_211.toInt = zz16 := hg3_211
          have hg4_211 : v4_211.toInt = th 42 := hg4_211
          have hg5_211 : v5_211.toInt = th 40 := hg5_211
          have hg6_211 : v6_211.toInt = th 41 := hg6_211
          have hg9_211 : v9_211.toInt = x45.toInt := hg9_211
          have hg13_211 : v13_211.toInt = th 36 := hg13_211
          have hg14_211 : v14_211.toInt = th 10 := hg14_211
          have hg15_211 : v15_211.toInt = th 11 := hg15_211
          have hg17_211 : v17_211.toInt = th 12 := hg17_211
          have hg20_211 : v20_211.toInt = th 14 := hg20_211
          have hg23_211 : v23_211.toInt = th 15 := hg23_211
          have hg36_211 : v36_211.toInt = th 18 := hg36_211
          have hg47_211 : v47_211.toInt = th 16 := hg47_211
          have hg48_211 : v48_211.toInt = th 17 := hg48_211
          have hg53_211 : v53_211.toInt = th 38 := hg53_211
          have hg55_211 : v55_211.toInt = th 39 := hg55_211
          refine pl_get (v := .ref (ad 257)) hx hb hts (fun w h => mT (inX11 w h)) hown hG.1 hP (hst.1 255 (by decide)) hf212 rfl 7 (by decide) (hts _ (mT wg_1343)) (fun _ h => h) rfl dX11_piece_75 ?_
          refine lv_iconst (v := 0) hx hb dX11_piece_78 (by decide) ?_
          refine lv_aload_n hx hb dX11_piece_79 rfl (lv_at hl 0 rfl) ?_
          refine lv_iconst (v := 3) hx hb dX11_piece_80 (by decide) ?_
          refine lv_bipush (v := 9) hx hb dX11_piece_81 (by decide) ?_
          refine call_i (run_V (rm := rm_X11_digit_3_9) hx hb hml hown hts (s_X11_digit_3_9 l g ad (gset (gset th 37 zz16) 35 x45.toInt) _ _ _  hst hT ) cV_X11_digit wg_1566 ⟨Nat.le_of_ble_eq_true rfl, Nat.le_of_ble_eq_true rfl⟩ hG hE hA hP hD hS (hst.1 255 (by decide)) hf212 rfl rfl hl.1 (As := [.int 3, .int 9]) (rest := [.int 0, .ref (ad 257)]) rfl (Nat.le_of_ble_eq_true rfl) dX11_piece_83 ⟨Nat.le_of_ble_eq_true rfl, Nat.le_of_ble_eq_true rfl⟩) hA hD hS (fun r213 L214 f215 H locs hp216 hP hD hS => ?_)
          obtain ⟨eL217L, eL217T, eL217F, eL217R⟩ := hp216
          have eL217L : L214 = L := eL217L
          rw [eL217L] at hP hD
          obtain ⟨zz218, zz219, zz220, zz221, hzz218, eL217T⟩ := eL217T
          have hT : TI g ad (gset (gset (gset (gset (gset (gset th 37 zz16) 35 x45.toInt) 37 zz218) 40 zz219) 41 zz220) 42 zz221) f215 := eL217T
          have hT : TI g ad (gset (gset (gset (gset (gset th 35 x45.toInt) 37 zz218) 40 zz219) 41 zz220) 42 zz221) f215 := TI.cast hT (by funext q; simp only [gset]; (repeat' split); all_goals first | rfl | omega | (subst_vars; rfl) | (exfalso; omega))
          have eL217F : ∀ b, b ≠ (ad 255) → f215 b = f48 b := eL217F
          have hfr : (∀ b, b ≠ (ad 255) → b ≠ (ad 257) → f215 b = f b) := fun b z0_ z1_ => (eL217F b z0_).trans (hfr b z0_ z1_)
          have eL217R : In r213 3 9 := eL217R
          obtain ⟨rw222, hf223, hpn224, hpg225, hpn226, hpn227, hpn228, hpg229⟩ := hT.2.2 2 (by decide)
          refine pl_iastE hx hb hG.1 hP hD hS (hst.1 257 (by decide)) 0 hf223 rfl (In.inb (⟨by decide, by decide⟩ : In 0 0 0) (by decide) (by decide)) dX11_piece_86 (fun H locs f230 r233 er233 hf231 ho232 hP hD hS => ?_)
          have hpn234 : In (r233 0) 0 9 := (upd_eqI (k := 0) er233 (by decide)) ▸ (In.mono eL217R (by decide) (by decide))
          have hpg235 : (r233 0).toInt = r213.toInt := congrArg Int32.toInt (upd_eqI (k := 0) er233 (by decide))
          have hpn236 : In (r233 1) 0 4 := (upd_neI (k := 1) er233 (by decide)) ▸ hpn226
          have hpn237 : In (r233 2) 0 6 := (upd_neI (k := 2) er233 (by decide)) ▸ hpn227
          have hpn238 : In (r233 4) 0 511 := (upd_neI (k := 4) er233 (by decide)) ▸ hpn228
          have hpg239 := (congrArg Int32.toInt (upd_neI (k := 4) er233 (by decide))).trans hpg229
          have hfr : (∀ b, b ≠ (ad 255) → b ≠ (ad 257) → f230 b = f b) := fun b z0_ z1_ => (ho232 b z1_).trans (hfr b z0_ z1_)
          refine lv_iload_n hx hb dX11_piece_87 rfl (lv_at hl 3 rfl) ?_
          refine lv_iconst (v := 1) hx hb dX11_piece_88 (by decide) ?_
          have hT := TI.updMG (th' := (gset (gset (gset (gset (gset (gset th 35 x45.toInt) 37 zz218) 40 zz219) 41 zz220) 42 zz221) 30 (r213.toInt))) hT hst (k := 2) (by decide) hf231 ho232 ⟨r233, rfl, hpn234, (hpg235.trans rfl), hpn236, hpn237, hpn238, (hpg239.trans rfl)⟩ (fun q hq => ((gset_ne (fun e => hq (by subst e; decide))).trans rfl))
          have hT : TI g ad (gset (gset (gset (gset (gset (gset th 35 x45.toInt) 37 zz218) 40 zz219) 41 zz220) 42 zz221) 30 r213.toInt) f230 := TI.cast hT (by funext q; simp only [gset]; (repeat' split); all_goals first | rfl | omega | (subst_vars; rfl) | (exfalso; omega))
          refine lv_icmp_ne (tgt := 104) hx hb dX11_piece_89 (by decide) (fun c240 => ?_) (fun c240 => ?_)
          ·
            have oc1 : (1 : Int32).toInt = 1 := by decide
            have cc241 : r11.toInt ≠ (1 : Int32).toInt := i32_ne c240
            refine lv_iload_n hx hb dX11_piece_104 rfl (lv_at hl 3 rfl) ?_
            refine lv_iconst (v := 2) hx hb dX11_piece_105 (by decide) ?_
            refine lv_icmp_ne (tgt := 122) hx hb dX11_piece_106 (by decide) (fun c242 => ?_) (fun c242 => ?_)
            ·
              have oc2 : (2 : Int32).toInt = 2 := by decide
              have cc243 : r11.toInt ≠ (2 : Int32).toInt := i32_ne c242
              refine lv_iload_n hx hb dX11_piece_122 rfl (lv_at hl 3 rfl) ?_
              refine lv_iconst (v := 3) hx hb dX11_piece_123 (by decide) ?_
              refine lv_icmp_ne (tgt := 131) hx hb dX11_piece_124 (by decide) (fun c244 => ?_) (fun c244 => ?_)
              ·
                have oc3 : (3 : Int32).toInt = 3 := by decide
                have cc245 : r11.toInt ≠ (3 : Int32).toInt := i32_ne c244
                refine lv_iload_n hx hb dX11_piece_131 rfl (lv_at hl 3 rfl) ?_
                refine lv_iconst (v := 4) hx hb dX11_piece_132 (by decide) ?_
                refine lv_icmp_ne (tgt := 140) hx hb dX11_piece_133 (by decide) (fun c246 => ?_) (fun c246 => ?_)
                ·
                  have oc4 : (4 : Int32).toInt = 4 := by decide
                  have cc247 : r11.toInt ≠ (4 : Int32).toInt := i32_ne c246
                  refine lv_iload_n hx hb dX11_piece_140 rfl (lv_at hl 3 rfl) ?_
                  refine lv_iconst (v := 5) hx hb dX11_piece_141 (by decide) ?_
                  refine lv_icmp_ne (tgt := 152) hx hb dX11_piece_142 (by decide) (fun c248 => ?_) (fun c248 => ?_)
                  ·
                    have oc5 : (5 : Int32).toInt = 5 := by decide
                    have cc249 : r11.toInt ≠ (5 : Int32).toInt := i32_ne c248
                    exact ret_v hx hb hr hlocks hP hD hS (Nat.le_of_ble_eq_true rfl) (Nat.le_of_ble_eq_true rfl) (⟨rfl, ⟨zz218, zz219, zz220, zz221, x45.toInt, r213.toInt, (th 34), ⟨(show th 37 ≤ zz218 ∧ zz218 ≤ 500 from (by omega)), ⟨(by obtain ⟨o0a, o0b⟩ := (hb44 : In _ _ _); obtain ⟨o1a, o1b⟩ := (hb47 : In _ _ _); obtain ⟨o2a, o2b⟩ := (eL7R : In _ _ _); obtain ⟨o3a, o3b⟩ := (hb210 : In _ _ _); obtain ⟨o4a, o4b⟩ := (hb42 : In _ _ _); obtain ⟨o5a, o5b⟩ := (eL217R : In _ _ _); omega), (by obtain ⟨o0a, o0b⟩ := (hb44 : In _ _ _); obtain ⟨o1a, o1b⟩ := (hb47 : In _ _ _); obtain ⟨o2a, o2b⟩ := (eL7R : In _ _ _); obtain ⟨o3a, o3b⟩ := (hb210 : In _ _ _); obtain ⟨o4a, o4b⟩ := (hb42 : In _ _ _); obtain ⟨o5a, o5b⟩ := (eL217R : In _ _ _); omega), (by obtain ⟨o0a, o0b⟩ := (hb44 : In _ _ _); obtain ⟨o1a, o1b⟩ := (hb47 : In _ _ _); obtain ⟨o2a, o2b⟩ := (eL7R : In _ _ _); obtain ⟨o3a, o3b⟩ := (hb210 : In _ _ _); obtain ⟨o4a, o4b⟩ := (hb42 : In _ _ _); obtain ⟨o5a, o5b⟩ := (eL217R : In _ _ _); omega), Or.inl (by omega), (by obtain ⟨o0a, o0b⟩ := (hb44 : In _ _ _); obtain ⟨o1a, o1b⟩ := (hb47 : In _ _ _); obtain ⟨o2a, o2b⟩ := (eL7R : In _ _ _); obtain ⟨o3a, o3b⟩ := (hb210 : In _ _ _); obtain ⟨o4a, o4b⟩ := (hb42 : In _ _ _); obtain ⟨o5a, o5b⟩ := (eL217R : In _ _ _); omega)⟩⟩, TI.cast hT (by funext q; simp only [gset]; (repeat' split); all_goals first | rfl | omega | (subst_vars; rfl) | (exfalso; omega))⟩, hfr⟩) dX11_piece_152
                  ·
                    have oc5 : (5 : Int32).toInt = 5 := by decide
                    have cc250 : r11.toInt = (5 : Int32).toInt := congrArg Int32.toInt c248
                    exact In.empty (lo := 5) (hi := 0) (In.eq1 hb210 (⟨by decide, by decide⟩ : In 5 5 5) cc250 (by omega) (by omega)) (by decide)
                ·
                  have oc4 : (4 : Int32).toInt = 4 := by decide
                  have cc251 : r11.toInt = (4 : Int32).toInt := congrArg Int32.toInt c246
                  exact In.empty (lo := 4) (hi := 0) (In.eq1 hb210 (⟨by decide, by decide⟩ : In 4 4 4) cc251 (by omega) (by omega)) (by decide)
              ·
                have oc3 : (3 : Int32).toInt = 3 := by decide
                have cc252 : r11.toInt = (3 : Int32).toInt := congrArg Int32.toInt c244
                exact In.empty (lo := 3) (hi := 0) (In.eq1 hb210 (⟨by decide, by decide⟩ : In 3 3 3) cc252 (by omega) (by omega)) (by decide)
            ·
              have oc2 : (2 : Int32).toInt = 2 := by decide
              have cc253 : r11.toInt = (2 : Int32).toInt := congrArg Int32.toInt c242
              exact In.empty (lo := 2) (hi := 0) (In.eq1 hb210 (⟨by decide, by decide⟩ : In 2 2 2) cc253 (by omega) (by omega)) (by decide)
          ·
            have oc1 : (1 : Int32).toInt = 1 := by decide
            have cc254 : r11.toInt = (1 : Int32).toInt := congrArg Int32.toInt c240
            exact In.empty (lo := 1) (hi := 0) (In.eq1 hb210 (⟨by decide, by decide⟩ : In 1 1 1) cc254 (by omega) (by omega)) (by decide)
      have hJ41 : ∀ (H : Heap) (locs : List Loc) (ls : Array Slot), va_P g.1 vwCl (va_pl L f13) H → va_D A (va_pl L f13) → va_S A s.heap H locs → lv_has ls 4 [(0, .ref (ad 255)), (1, .int r3), (2, .int v3_9), (3, .int r11)] → W p l e rm_X11_piece s m [.ref (ad 255)].toArray below meth c H locs 0 0 (MQ below (va_Qv (po_X11_piece g ad th L f ) (PstB g A) A) [.ref (ad 255)].toArray s rm_X11_piece.cells rm_X11_piece.slots A) (F0 m 41 ls []) := by
        intro H locs ls hP hD hS hl
        refine lv_aload_n hx hb dX11_piece_41 rfl (lv_at hl 0 rfl) ?_
        refine pl_get (v := .int v9_30) hx hb hts (fun w h => mT (inX11 w h)) hown hG.1 hP (hst.1 255 (by decide)) hf31 rfl 9 (by decide) (hts _ (mT wg_1345)) (fun _ h => h) rfl dX11_piece_42 ?_
        refine lv_iconst (v := 0) hx hb dX11_piece_45 (by decide) ?_
        refine call_i (run_S (rm := rm_X11_has) hx hb hml hown hts (s_X11_has l g ad (gset th 37 zz16) _ _ _ v9_30 0 hst hT ) cS_X11_has wg_1563 ⟨Nat.le_of_ble_eq_true rfl, Nat.le_of_ble_eq_true rfl⟩ hG hE hA hP hD hS rfl hl.1 (As := [.int v9_30, .int 0]) (rest := []) rfl (Nat.le_of_ble_eq_true rfl) dX11_piece_46 ⟨Nat.le_of_ble_eq_true rfl, Nat.le_of_ble_eq_true rfl⟩) hA hD hS (fun r255 L256 f257 H locs hp258 hP hD hS => ?_)
        obtain ⟨eL259L, eL259T, eL259R, eL259X0⟩ := hp258
        have eL259L : L256 = L := eL259L
        have eL259T : f257 = f13 := eL259T
        rw [eL259L, eL259T] at hP hD
        have eL259R : In r255 0 1 := eL259R
        have hbt260 : r255.toInt = bitI (th 35) 0 := (eL259X0 (Int.le_trans (by decide) hv9_30.1) (⟨by decide, by decide⟩ : In 0 0 30)).trans (by rw [hg9_30])
        refine lv_if_ne (tgt := 58) hx hb dX11_piece_49 (by decide) (fun c261 => ?_) (fun c261 => ?_)
        ·
          have oc0 : (0 : Int32).toInt = 0 := by decide
          have cc262 : r255.toInt ≠ (0 : Int32).toInt := i32_ne c261
          have hb263 : In r255 1 1 := In.ne1 eL259R (⟨by decide, by decide⟩ : In 0 0 0) cc262 (by omega) (by omega)
          exact hJ58 _ _ _ hP hD hS (by obtain ⟨o0a, o0b⟩ := (hb29 : In _ _ _); obtain ⟨o1a, o1b⟩ := (hv2_30 : In _ _ _); obtain ⟨o2a, o2b⟩ := (hv3_30 : In _ _ _); obtain ⟨o3a, o3b⟩ := (hv4_30 : In _ _ _); obtain ⟨o4a, o4b⟩ := (hv5_30 : In _ _ _); obtain ⟨o5a, o5b⟩ := (hv6_30 : In _ _ _); obtain ⟨o6a, o6b⟩ := (hv9_30 : In _ _ _); obtain ⟨o7a, o7b⟩ := (hv13_30 : In _ _ _); obtain ⟨o8a, o8b⟩ := (hv14_30 : In _ _ _); obtain ⟨o9a, o9b⟩ := (hv15_30 : In _ _ _); obtain ⟨o10a, o10b⟩ := (hv17_30 : In _ _ _); obtain ⟨o11a, o11b⟩ := (hv20_30 : In _ _ _); obtain ⟨o12a, o12b⟩ := (hv23_30 : In _ _ _); obtain ⟨o13a, o13b⟩ := (hv36_30 : In _ _ _); obtain ⟨o14a, o14b⟩ := (hv47_30 : In _ _ _); obtain ⟨o15a, o15b⟩ := (hv48_30 : In _ _ _); obtain ⟨o16a, o16b⟩ := (hv53_30 : In _ _ _); obtain ⟨o17a, o17b⟩ := (hv55_30 : In _ _ _); omega) (lv_sub hl [0, 1, 2, 3] rfl)
        ·
          have oc0 : (0 : Int32).toInt = 0 := by decide
          have cc264 : r255.toInt = (0 : Int32).toInt := congrArg Int32.toInt c261
          have hb265 : In r255 0 0 := In.eq1 eL259R (⟨by decide, by decide⟩ : In 0 0 0) cc264 (by omega) (by omega)
          exact hJ52 _ _ _ hP hD hS (lv_sub hl [0, 1, 2, 3] rfl)
      refine lv_icmp_eq (tgt := 41) hx hb dX11_piece_33 (by decide) (fun c266 => ?_) (fun c266 => ?_)
      ·
        have oc3 : (3 : Int32).toInt = 3 := by decide
        have cc267 : r11.toInt = (3 : Int32).toInt := congrArg Int32.toInt c266
        have hb268 : In r11 3 3 := In.eq1 hb29 (⟨by decide, by decide⟩ : In 3 3 3) cc267 (by omega) (by omega)
        exact hJ41 _ _ _ hP hD hS (lv_sub hl [3, 2, 1, 0] rfl)
      ·
        have oc3 : (3 : Int32).toInt = 3 := by decide
        have cc269 : r11.toInt ≠ (3 : Int32).toInt := i32_ne c266
        refine lv_iload_n hx hb dX11_piece_36 rfl (lv_at hl 0 rfl) ?_
        refine lv_iconst (v := 4) hx hb dX11_piece_37 (by decide) ?_
        refine lv_icmp_ne (tgt := 58) hx hb dX11_piece_38 (by decide) (fun c270 => ?_) (fun c270 => ?_)
        ·
          have oc4 : (4 : Int32).toInt = 4 := by decide
          have cc271 : r11.toInt ≠ (4 : Int32).toInt := i32_ne c270
          exact hJ58 _ _ _ hP hD hS (by obtain ⟨o0a, o0b⟩ := (hb29 : In _ _ _); obtain ⟨o1a, o1b⟩ := (hv2_30 : In _ _ _); obtain ⟨o2a, o2b⟩ := (hv3_30 : In _ _ _); obtain ⟨o3a, o3b⟩ := (hv4_30 : In _ _ _); obtain ⟨o4a, o4b⟩ := (hv5_30 : In _ _ _); obtain ⟨o5a, o5b⟩ := (hv6_30 : In _ _ _); obtain ⟨o6a, o6b⟩ := (hv9_30 : In _ _ _); obtain ⟨o7a, o7b⟩ := (hv13_30 : In _ _ _); obtain ⟨o8a, o8b⟩ := (hv14_30 : In _ _ _); obtain ⟨o9a, o9b⟩ := (hv15_30 : In _ _ _); obtain ⟨o10a, o10b⟩ := (hv17_30 : In _ _ _); obtain ⟨o11a, o11b⟩ := (hv20_30 : In _ _ _); obtain ⟨o12a, o12b⟩ := (hv23_30 : In _ _ _); obtain ⟨o13a, o13b⟩ := (hv36_30 : In _ _ _); obtain ⟨o14a, o14b⟩ := (hv47_30 : In _ _ _); obtain ⟨o15a, o15b⟩ := (hv48_30 : In _ _ _); obtain ⟨o16a, o16b⟩ := (hv53_30 : In _ _ _); obtain ⟨o17a, o17b⟩ := (hv55_30 : In _ _ _); omega) (lv_sub hl [3, 2, 1, 0] rfl)
        ·
          have oc4 : (4 : Int32).toInt = 4 := by decide
          have cc272 : r11.toInt = (4 : Int32).toInt := congrArg Int32.toInt c270
          have hb273 : In r11 4 4 := In.eq1 hb29 (⟨by decide, by decide⟩ : In 4 4 4) cc272 (by omega) (by omega)
          exact hJ41 _ _ _ hP hD hS (lv_sub hl [3, 2, 1, 0] rfl)

abbrev rm_X11_readsCouncil : Room := { frames := 7, cells := 0, slots := 0, locals := 151 }
abbrev po_X11_readsCouncil (g : GG) (ad : Nat → Nat) (th : Nat → Int) (L : List Nat) (f : HP)  : Int32 → (List Nat × HP) → Prop := fun r u => u.1 = L ∧ (∃ za zr zl ze zt zs zf : Int, (r.toInt ≠ -1 ∨ (zt % 2 = 1 ∧ DIp zt zs zf)) ∧ TI g ad (gset (gset (gset (gset (gset (gset (gset th 37 za) 40 zr) 41 zl) 42 ze) 35 zt) 30 zs) 34 zf) u.2) ∧ (∀ b, b ≠ (ad 255) → b ≠ (ad 257) → u.2 b = f b) ∧ In r (-1) 500
set_option maxHeartbeats 4000000 in
set_option maxRecDepth 100000 in
theorem s_X11_readsCouncil (l : Launch) (g : GG) (ad : Nat → Nat) (th : Nat → Int) (L : List Nat) (f : HP) (sz : Nat)  (hst : ST ad L) (hT : TI g ad th f)  : MtI l g yX11_readsCouncil cX11_readsCouncil 2 (some .int) rm_X11_readsCouncil [.ref (ad 255)] L f sz (po_X11_readsCouncil g ad th L f ) := by
  refine MtI.of (by decide +kernel) (Nat.le_of_ble_eq_true rfl) ?_
  intro p e s m below meth c A hEn hP hD hS ls hl
  obtain ⟨hx, hb, hr, hml, hown, hlocks, hts, hG, hA, hE, hnm⟩ := hEn
  have hown : s.vm.findClass "RulerWordModel" = some m.cls := hown
  have hl : lv_has ls 2 [(0, .ref (ad 255))] := hl
  have hfr : (∀ b, b ≠ (ad 255) → b ≠ (ad 257) → f b = f b) := fun b z0_ z1_ => rfl
  refine lv_aload_n hx hb dX11_readsCouncil_0 rfl (lv_at hl 0 rfl) ?_
  refine lv_iconst (v := 0) hx hb dX11_readsCouncil_1 (by decide) ?_
  obtain ⟨v0_1, v2_1, v3_1, v4_1, v5_1, v6_1, v8_1, v9_1, v12_1, v13_1, v14_1, v15_1, v16_1, v17_1, v18_1, v19_1, v20_1, v21_1, v22_1, v23_1, v25_1, v36_1, v37_1, v38_1, v39_1, v40_1, v45_1, v46_1, v47_1, v48_1, v50_1, v51_1, v53_1, v55_1, hf2, hv0_1, hv2_1, hg2_1, hv3_1, hg3_1, hv4_1, hg4_1, hv5_1, hg5_1, hv6_1, hg6_1, hv8_1, hv9_1, hg9_1, hv12_1, hv13_1, hg13_1, hv14_1, hg14_1, hv15_1, hg15_1, hv17_1, hg17_1, hv20_1, hg20_1, hv23_1, hg23_1, hv25_1, hv36_1, hg36_1, hv47_1, hg47_1, hv48_1, hg48_1, hv53_1, hg53_1, hv55_1, hg55_1, hrel0_1⟩ := hT.2.2 0 (by decide)
  refine pl_put (ty := .int) (v := .int 0) (fs' := [.int v0_1, .ref (ad 256), .int v2_1, .int 0, .int v4_1, .int v5_1, .int v6_1, .ref (ad 257), .int v8_1, .int v9_1, .ref (ad 258), .ref (ad 259), .int v12_1, .int v13_1, .int v14_1, .int v15_1, .int v16_1, .int v17_1, .int v18_1, .int v19_1, .int v20_1, .long v21_1, .long v22_1, .int v23_1, .ref (ad 260), .int v25_1, .ref (ad 261), .ref (ad 262), .ref (ad 263), .ref (ad 264), .ref (ad 265), .ref (ad 266), .ref (ad 267), .ref (ad 268), .ref (ad 269), .ref (ad 270), .int v36_1, .int v37_1, .int v38_1, .int v39_1, .int v40_1, .ref (ad 271), .ref (ad 272), .ref (ad 273), .ref (ad 274), .long v45_1, .long v46_1, .int v47_1, .int v48_1, .ref (ad 275), .int v50_1, .int v51_1, .ref (ad 276), .int v53_1, .ref (ad 277), .int v55_1]) hx hb hts (fun w h => mT (inX11 w h)) tyX11 tyX11_ok nmX11 hown hG.1 hP hD hS (hst.1 255 (by decide)) hf2 rfl 3 (by decide) (hts _ (mT wg_1339)) (fun _ h => h) rfl (by decide +kernel) (rfl) (rfl) (Nat.le_of_ble_eq_true rfl) rfl dX11_readsCouncil_2 (fun H locs f3 hf4 ho5 hP hD hS => ?_)
  have hfr : (∀ b, b ≠ (ad 255) → b ≠ (ad 257) → f3 b = f b) := fun b z0_ z1_ => (ho5 b z0_).trans (hfr b z0_ z1_)
  refine lv_aload_n hx hb dX11_readsCouncil_5 rfl (lv_at hl 0 rfl) ?_
  refine lv_iconst (v := (-1)) hx hb dX11_readsCouncil_6 (by decide) ?_
  refine pl_put (ty := .int) (v := .int (-1)) (fs' := [.int v0_1, .ref (ad 256), .int v2_1, .int 0, .int (-1), .int v5_1, .int v6_1, .ref (ad 257), .int v8_1, .int v9_1, .ref (ad 258), .ref (ad 259), .int v12_1, .int v13_1, .int v14_1, .int v15_1, .int v16_1, .int v17_1, .int v18_1, .int v19_1, .int v20_1, .long v21_1, .long v22_1, .int v23_1, .ref (ad 260), .int v25_1, .ref (ad 261), .ref (ad 262), .ref (ad 263), .ref (ad 264), .ref (ad 265), .ref (ad 266), .ref (ad 267), .ref (ad 268), .ref (ad 269), .ref (ad 270), .int v36_1, .int v37_1, .int v38_1, .int v39_1, .int v40_1, .ref (ad 271), .ref (ad 272), .ref (ad 273), .ref (ad 274), .long v45_1, .long v46_1, .int v47_1, .int v48_1, .ref (ad 275), .int v50_1, .int v51_1, .ref (ad 276), .int v53_1, .ref (ad 277), .int v55_1]) hx hb hts (fun w h => mT (inX11 w h)) tyX11 tyX11_ok nmX11 hown hG.1 hP hD hS (hst.1 255 (by decide)) hf4 rfl 4 (by decide) (hts _ (mT wg_1340)) (fun _ h => h) rfl (by decide +kernel) (rfl) (rfl) (Nat.le_of_ble_eq_true rfl) rfl dX11_readsCouncil_7 (fun H locs f6 hf7 ho8 hP hD hS => ?_)
  have ho9 : ∀ b, b ≠ (ad 255) → f6 b = _ := fun b hb => (ho8 b hb).trans (ho5 b hb)
  have hfr : (∀ b, b ≠ (ad 255) → b ≠ (ad 257) → f6 b = f b) := fun b z0_ z1_ => (ho8 b z0_).trans (hfr b z0_ z1_)
  refine lv_aload_n hx hb dX11_readsCouncil_10 rfl (lv_at hl 0 rfl) ?_
  refine lv_iconst (v := 0) hx hb dX11_readsCouncil_11 (by decide) ?_
  refine pl_put (ty := .int) (v := .int 0) (fs' := [.int v0_1, .ref (ad 256), .int v2_1, .int 0, .int (-1), .int v5_1, .int v6_1, .ref (ad 257), .int v8_1, .int 0, .ref (ad 258), .ref (ad 259), .int v12_1, .int v13_1, .int v14_1, .int v15_1, .int v16_1, .int v17_1, .int v18_1, .int v19_1, .int v20_1, .long v21_1, .long v22_1, .int v23_1, .ref (ad 260), .int v25_1, .ref (ad 261), .ref (ad 262), .ref (ad 263), .ref (ad 264), .ref (ad 265), .ref (ad 266), .ref (ad 267), .ref (ad 268), .ref (ad 269), .ref (ad 270), .int v36_1, .int v37_1, .int v38_1, .int v39_1, .int v40_1, .ref (ad 271), .ref (ad 272), .ref (ad 273), .ref (ad 274), .long v45_1, .long v46_1, .int v47_1, .int v48_1, .ref (ad 275), .int v50_1, .int v51_1, .ref (ad 276), .int v53_1, .ref (ad 277), .int v55_1]) hx hb hts (fun w h => mT (inX11 w h)) tyX11 tyX11_ok nmX11 hown hG.1 hP hD hS (hst.1 255 (by decide)) hf7 rfl 9 (by decide) (hts _ (mT wg_1345)) (fun _ h => h) rfl (by decide +kernel) (rfl) (rfl) (Nat.le_of_ble_eq_true rfl) rfl dX11_readsCouncil_12 (fun H locs f10 hf11 ho12 hP hD hS => ?_)
  have ho13 : ∀ b, b ≠ (ad 255) → f10 b = _ := fun b hb => (ho12 b hb).trans (ho9 b hb)
  have hfr : (∀ b, b ≠ (ad 255) → b ≠ (ad 257) → f10 b = f b) := fun b z0_ z1_ => (ho12 b z0_).trans (hfr b z0_ z1_)
  refine lv_iconst (v := 0) hx hb dX11_readsCouncil_15 (by decide) ?_
  refine lv_istore_n (lv' := [(1, .int 0), (0, .ref (ad 255))]) hx hb dX11_readsCouncil_16 rfl hl (by decide) rfl (fun ls hl => ?_)
  refine lv_iload_n hx hb dX11_readsCouncil_17 rfl (lv_at hl 0 rfl) ?_
  refine lv_bipush (v := 6) hx hb dX11_readsCouncil_18 (by decide) ?_
  have hT := TI.updMG (th' := (gset (gset (gset th 37 (0)) 42 ((-1))) 35 (0))) hT hst (k := 0) (by decide) hf11 ho13 ⟨v0_1, v2_1, 0, (-1), v5_1, v6_1, v8_1, 0, v12_1, v13_1, v14_1, v15_1, v16_1, v17_1, v18_1, v19_1, v20_1, v21_1, v22_1, v23_1, v25_1, v36_1, v37_1, v38_1, v39_1, v40_1, v45_1, v46_1, v47_1, v48_1, v50_1, v51_1, v53_1, v55_1, rfl, hv0_1, hv2_1, (by rw [hg2_1]; simp [gset]), (⟨by decide, by decide⟩ : In 0 0 500), (by simp [gset, i32z]), (⟨by decide, by decide⟩ : In (-1) (-1) 500), (by simp [gset, i32z]), hv5_1, (by rw [hg5_1]; simp [gset]), hv6_1, (by rw [hg6_1]; simp [gset]), hv8_1, (⟨by decide, by decide⟩ : In 0 0 63), (by simp [gset, i32z]), hv12_1, hv13_1, (by rw [hg13_1]; simp [gset]), hv14_1, (by rw [hg14_1]; simp [gset]), hv15_1, (by rw [hg15_1]; simp [gset]), hv17_1, (by rw [hg17_1]; simp [gset]), hv20_1, (by rw [hg20_1]; simp [gset]), hv23_1, (by rw [hg23_1]; simp [gset]), hv25_1, hv36_1, (by rw [hg36_1]; simp [gset]), hv47_1, (by rw [hg47_1]; simp [gset]), hv48_1, (by rw [hg48_1]; simp [gset]), hv53_1, (by rw [hg53_1]; simp [gset]), hv55_1, (by rw [hg55_1]; simp [gset]), hrel0_1⟩ (fun q hq => ((gset_ne (fun e => hq (by subst e; decide))).trans ((gset_ne (fun e => hq (by subst e; decide))).trans ((gset_ne (fun e => hq (by subst e; decide))).trans rfl))))
  have hT : TI g ad (gset (gset (gset th 37 0) 42 (-1)) 35 0) f10 := TI.cast hT (by funext q; simp only [gset]; (repeat' split); all_goals first | rfl | omega | (subst_vars; rfl) | (exfalso; omega))
  refine lv_icmp_ge (tgt := 36) hx hb dX11_readsCouncil_20 (by decide) (fun c14 => ?_) (fun c14 => ?_)
  ·
    have oc0 : (0 : Int32).toInt = 0 := by decide
    have oc6 : (6 : Int32).toInt = 6 := by decide
    have cc15 : (6 : Int32).toInt ≤ (0 : Int32).toInt := i32_le.mp c14
    exact In.empty (lo := 6) (hi := 0) (In.ge1 (⟨by decide, by decide⟩ : In 0 0 0) (⟨by decide, by decide⟩ : In 6 6 6) cc15 (by omega) (by omega)) (by decide)
  ·
    have oc0 : (0 : Int32).toInt = 0 := by decide
    have oc6 : (6 : Int32).toInt = 6 := by decide
    have cc16 : (0 : Int32).toInt < (6 : Int32).toInt := i32_nle c14
    refine lv_aload_n hx hb dX11_readsCouncil_23 rfl (lv_at hl 1 rfl) ?_
    obtain ⟨v0_17, v2_17, v3_17, v4_17, v5_17, v6_17, v8_17, v9_17, v12_17, v13_17, v14_17, v15_17, v16_17, v17_17, v18_17, v19_17, v20_17, v21_17, v22_17, v23_17, v25_17, v36_17, v37_17, v38_17, v39_17, v40_17, v45_17, v46_17, v47_17, v48_17, v50_17, v51_17, v53_17, v55_17, hf18, hv0_17, hv2_17, hg2_17, hv3_17, hg3_17, hv4_17, hg4_17, hv5_17, hg5_17, hv6_17, hg6_17, hv8_17, hv9_17, hg9_17, hv12_17, hv13_17, hg13_17, hv14_17, hg14_17, hv15_17, hg15_17, hv17_17, hg17_17, hv20_17, hg20_17, hv23_17, hg23_17, hv25_17, hv36_17, hg36_17, hv47_17, hg47_17, hv48_17, hg48_17, hv53_17, hg53_17, hv55_17, hg55_17, hrel0_17⟩ := hT.2.2 0 (by decide)
    have hg2_17 : v2_17.toInt = th 13 := hg2_17
    have hg3_17 : v3_17.toInt = 0 := hg3_17
    have hg4_17 : v4_17.toInt = -1 := hg4_17
    have hg5_17 : v5_17.toInt = th 40 := hg5_17
    have hg6_17 : v6_17.toInt = th 41 := hg6_17
    have hg9_17 : v9_17.toInt = 0 := hg9_17
    have hg13_17 : v13_17.toInt = th 36 := hg13_17
    have hg14_17 : v14_17.toInt = th 10 := hg14_17
    have hg15_17 : v15_17.toInt = th 11 := hg15_17
    have hg17_17 : v17_17.toInt = th 12 := hg17_17
    have hg20_17 : v20_17.toInt = th 14 := hg20_17
    have hg23_17 : v23_17.toInt = th 15 := hg23_17
    have hg36_17 : v36_17.toInt = th 18 := hg36_17
    have hg47_17 : v47_17.toInt = th 16 := hg47_17
    have hg48_17 : v48_17.toInt = th 17 := hg48_17
    have hg53_17 : v53_17.toInt = th 38 := hg53_17
    have hg55_17 : v55_17.toInt = th 39 := hg55_17
    refine pl_get (v := .ref (ad 257)) hx hb hts (fun w h => mT (inX11 w h)) hown hG.1 hP (hst.1 255 (by decide)) hf18 rfl 7 (by decide) (hts _ (mT wg_1343)) (fun _ h => h) rfl dX11_readsCouncil_24 ?_
    refine lv_iload_n hx hb dX11_readsCouncil_27 rfl (lv_at hl 0 rfl) ?_
    refine lv_iconst (v := 0) hx hb dX11_readsCouncil_28 (by decide) ?_
    obtain ⟨rw19, hf20, hpn21, hpg22, hpn23, hpn24, hpn25, hpg26⟩ := hT.2.2 2 (by decide)
    refine pl_iastE hx hb hG.1 hP hD hS (hst.1 257 (by decide)) 0 hf20 rfl (In.inb (⟨by decide, by decide⟩ : In 0 0 0) (by decide) (by decide)) dX11_readsCouncil_29 (fun H locs f27 r30 er30 hf28 ho29 hP hD hS => ?_)
    have hpn31 : In (r30 0) 0 9 := (upd_eqI (k := 0) er30 (by decide)) ▸ (⟨by decide, by decide⟩ : In 0 0 9)
    have hpg32 : (r30 0).toInt = (0 : Int32).toInt := congrArg Int32.toInt (upd_eqI (k := 0) er30 (by decide))
    have hpn33 : In (r30 1) 0 4 := (upd_neI (k := 1) er30 (by decide)) ▸ hpn23
    have hpn34 : In (r30 2) 0 6 := (upd_neI (k := 2) er30 (by decide)) ▸ hpn24
    have hpn35 : In (r30 4) 0 511 := (upd_neI (k := 4) er30 (by decide)) ▸ hpn25
    have hpg36 := (congrArg Int32.toInt (upd_neI (k := 4) er30 (by decide))).trans hpg26
    have hf37 := (ho29 (ad 255) (hst.ne (by decide) (by decide) (by decide))).trans hf18
    have hfr : (∀ b, b ≠ (ad 255) → b ≠ (ad 257) → f27 b = f b) := fun b z0_ z1_ => (ho29 b z1_).trans (hfr b z0_ z1_)
    refine lv_iinc (v := 1) (lv' := [(1, .int 1), (0, .ref (ad 255))]) hx hb dX11_readsCouncil_30 hl (k := 0) rfl (by decide) (by decide) rfl (fun ls hl => ?_)
    have hT := TI.updMG (th' := (gset (gset (gset (gset th 37 0) 42 (-1)) 35 0) 30 0)) hT hst (k := 2) (by decide) hf28 ho29 ⟨r30, rfl, hpn31, (hpg32.trans (by decide)), hpn33, hpn34, hpn35, (hpg36.trans rfl)⟩ (fun q hq => ((gset_ne (fun e => hq (by subst e; decide))).trans rfl))
    refine lv_goto (tgt := 17) hx hb dX11_readsCouncil_33 (by decide) ?_
    refine lv_iload_n hx hb dX11_readsCouncil_17 rfl (lv_at hl 0 rfl) ?_
    refine lv_bipush (v := 6) hx hb dX11_readsCouncil_18 (by decide) ?_
    refine lv_icmp_ge (tgt := 36) hx hb dX11_readsCouncil_20 (by decide) (fun c38 => ?_) (fun c38 => ?_)
    ·
      have oc1 : (1 : Int32).toInt = 1 := by decide
      have oc6 : (6 : Int32).toInt = 6 := by decide
      have cc39 : (6 : Int32).toInt ≤ (1 : Int32).toInt := i32_le.mp c38
      exact In.empty (lo := 6) (hi := 1) (In.ge1 (⟨by decide, by decide⟩ : In 1 1 1) (⟨by decide, by decide⟩ : In 6 6 6) cc39 (by omega) (by omega)) (by decide)
    ·
      have oc1 : (1 : Int32).toInt = 1 := by decide
      have oc6 : (6 : Int32).toInt = 6 := by decide
      have cc40 : (1 : Int32).toInt < (6 : Int32).toInt := i32_nle c38
      refine lv_aload_n hx hb dX11_readsCouncil_23 rfl (lv_at hl 1 rfl) ?_
      obtain ⟨v0_41, v2_41, v3_41, v4_41, v5_41, v6_41, v8_41, v9_41, v12_41, v13_41, v14_41, v15_41, v16_41, v17_41, v18_41, v19_41, v20_41, v21_41, v22_41, v23_41, v25_41, v36_41, v37_41, v38_41, v39_41, v40_41, v45_41, v46_41, v47_41, v48_41, v50_41, v51_41, v53_41, v55_41, hf42, hv0_41, hv2_41, hg2_41, hv3_41, hg3_41, hv4_41, hg4_41, hv5_41, hg5_41, hv6_41, hg6_41, hv8_41, hv9_41, hg9_41, hv12_41, hv13_41, hg13_41, hv14_41, hg14_41, hv15_41, hg15_41, hv17_41, hg17_41, hv20_41, hg20_41, hv23_41, hg23_41, hv25_41, hv36_41, hg36_41, hv47_41, hg47_41, hv48_41, hg48_41, hv53_41, hg53_41, hv55_41, hg55_41, hrel0_41⟩ := hT.2.2 0 (by decide)
      have hg2_41 : v2_41.toInt = th 13 := hg2_41
      have hg3_41 : v3_41.toInt = 0 := hg3_41
      have hg4_41 : v4_41.toInt = -1 := hg4_41
      have hg5_41 : v5_41.toInt = th 40 := hg5_41
      have hg6_41 : v6_41.toInt = th 41 := hg6_41
      have hg9_41 : v9_41.toInt = 0 := hg9_41
      have hg13_41 : v13_41.toInt = th 36 := hg13_41
      have hg14_41 : v14_41.toInt = th 10 := hg14_41
      have hg15_41 : v15_41.toInt = th 11 := hg15_41
      have hg17_41 : v17_41.toInt = th 12 := hg17_41
      have hg20_41 : v20_41.toInt = th 14 := hg20_41
      have hg23_41 : v23_41.toInt = th 15 := hg23_41
      have hg36_41 : v36_41.toInt = th 18 := hg36_41
      have hg47_41 : v47_41.toInt = th 16 := hg47_41
      have hg48_41 : v48_41.toInt = th 17 := hg48_41
      have hg53_41 : v53_41.toInt = th 38 := hg53_41
      have hg55_41 : v55_41.toInt = th 39 := hg55_41
      refine pl_get (v := .ref (ad 257)) hx hb hts (fun w h => mT (inX11 w h)) hown hG.1 hP (hst.1 255 (by decide)) hf42 rfl 7 (by decide) (hts _ (mT wg_1343)) (fun _ h => h) rfl dX11_readsCouncil_24 ?_
      refine lv_iload_n hx hb dX11_readsCouncil_27 rfl (lv_at hl 0 rfl) ?_
      refine lv_iconst (v := 0) hx hb dX11_readsCouncil_28 (by decide) ?_
      obtain ⟨rw43, hf44, hpn45, hpg46, hpn47, hpn48, hpn49, hpg50⟩ := hT.2.2 2 (by decide)
      refine pl_iastE hx hb hG.1 hP hD hS (hst.1 257 (by decide)) 0 hf44 rfl (In.inb (⟨by decide, by decide⟩ : In 1 1 1) (by decide) (by decide)) dX11_readsCouncil_29 (fun H locs f51 r54 er54 hf52 ho53 hP hD hS => ?_)
      have hpn55 : In (r54 0) 0 9 := (upd_neI (k := 0) er54 (by decide)) ▸ hpn45
      have hpg56 := (congrArg Int32.toInt (upd_neI (k := 0) er54 (by decide))).trans hpg46
      have hpn57 : In (r54 1) 0 4 := (upd_eqI (k := 1) er54 (by decide)) ▸ (⟨by decide, by decide⟩ : In 0 0 4)
      have hpn58 : In (r54 2) 0 6 := (upd_neI (k := 2) er54 (by decide)) ▸ hpn48
      have hpn59 : In (r54 4) 0 511 := (upd_neI (k := 4) er54 (by decide)) ▸ hpn49
      have hpg60 := (congrArg Int32.toInt (upd_neI (k := 4) er54 (by decide))).trans hpg50
      have hf61 := (ho53 (ad 255) (hst.ne (by decide) (by decide) (by decide))).trans hf42
      have hfr : (∀ b, b ≠ (ad 255) → b ≠ (ad 257) → f51 b = f b) := fun b z0_ z1_ => (ho53 b z1_).trans (hfr b z0_ z1_)
      refine lv_iinc (v := 2) (lv' := [(1, .int 2), (0, .ref (ad 255))]) hx hb dX11_readsCouncil_30 hl (k := 0) rfl (by decide) (by decide) rfl (fun ls hl => ?_)
      have hT := TI.updM hT hst (k := 2) (by decide) hf52 ho53 ⟨r54, rfl, hpn55, (hpg56.trans rfl), hpn57, hpn58, hpn59, (hpg60.trans rfl)⟩
      refine lv_goto (tgt := 17) hx hb dX11_readsCouncil_33 (by decide) ?_
      refine lv_iload_n hx hb dX11_readsCouncil_17 rfl (lv_at hl 0 rfl) ?_
      refine lv_bipush (v := 6) hx hb dX11_readsCouncil_18 (by decide) ?_
      refine lv_icmp_ge (tgt := 36) hx hb dX11_readsCouncil_20 (by decide) (fun c62 => ?_) (fun c62 => ?_)
      ·
        have oc2 : (2 : Int32).toInt = 2 := by decide
        have oc6 : (6 : Int32).toInt = 6 := by decide
        have cc63 : (6 : Int32).toInt ≤ (2 : Int32).toInt := i32_le.mp c62
        exact In.empty (lo := 6) (hi := 2) (In.ge1 (⟨by decide, by decide⟩ : In 2 2 2) (⟨by decide, by decide⟩ : In 6 6 6) cc63 (by omega) (by omega)) (by decide)
      ·
        have oc2 : (2 : Int32).toInt = 2 := by decide
        have oc6 : (6 : Int32).toInt = 6 := by decide
        have cc64 : (2 : Int32).toInt < (6 : Int32).toInt := i32_nle c62
        refine lv_aload_n hx hb dX11_readsCouncil_23 rfl (lv_at hl 1 rfl) ?_
        refine pl_get (v := .ref (ad 257)) hx hb hts (fun w h => mT (inX11 w h)) hown hG.1 hP (hst.1 255 (by decide)) hf61 rfl 7 (by decide) (hts _ (mT wg_1343)) (fun _ h => h) rfl dX11_readsCouncil_24 ?_
        refine lv_iload_n hx hb dX11_readsCouncil_27 rfl (lv_at hl 0 rfl) ?_
        refine lv_iconst (v := 0) hx hb dX11_readsCouncil_28 (by decide) ?_
        refine pl_iastE hx hb hG.1 hP hD hS (hst.1 257 (by decide)) 0 hf52 rfl (In.inb (⟨by decide, by decide⟩ : In 2 2 2) (by decide) (by decide)) dX11_readsCouncil_29 (fun H locs f65 r68 er68 hf66 ho67 hP hD hS => ?_)
        have hpn69 : In (r68 0) 0 9 := (upd_neI (k := 0) er68 (by decide)) ▸ hpn55
        have hpg70 := (congrArg Int32.toInt (upd_neI (k := 0) er68 (by decide))).trans hpg56
        have hpn71 : In (r68 1) 0 4 := (upd_neI (k := 1) er68 (by decide)) ▸ hpn57
        have hpn72 : In (r68 2) 0 6 := (upd_eqI (k := 2) er68 (by decide)) ▸ (⟨by decide, by decide⟩ : In 0 0 6)
        have hpn73 : In (r68 4) 0 511 := (upd_neI (k := 4) er68 (by decide)) ▸ hpn59
        have hpg74 := (congrArg Int32.toInt (upd_neI (k := 4) er68 (by decide))).trans hpg60
        have hf75 := (ho67 (ad 255) (hst.ne (by decide) (by decide) (by decide))).trans hf61
        have hfr : (∀ b, b ≠ (ad 255) → b ≠ (ad 257) → f65 b = f b) := fun b z0_ z1_ => (ho67 b z1_).trans (hfr b z0_ z1_)
        refine lv_iinc (v := 3) (lv' := [(1, .int 3), (0, .ref (ad 255))]) hx hb dX11_readsCouncil_30 hl (k := 0) rfl (by decide) (by decide) rfl (fun ls hl => ?_)
        have hT := TI.updM hT hst (k := 2) (by decide) hf66 ho67 ⟨r68, rfl, hpn69, (hpg70.trans rfl), hpn71, hpn72, hpn73, (hpg74.trans rfl)⟩
        refine lv_goto (tgt := 17) hx hb dX11_readsCouncil_33 (by decide) ?_
        refine lv_iload_n hx hb dX11_readsCouncil_17 rfl (lv_at hl 0 rfl) ?_
        refine lv_bipush (v := 6) hx hb dX11_readsCouncil_18 (by decide) ?_
        refine lv_icmp_ge (tgt := 36) hx hb dX11_readsCouncil_20 (by decide) (fun c76 => ?_) (fun c76 => ?_)
        ·
          have oc3 : (3 : Int32).toInt = 3 := by decide
          have oc6 : (6 : Int32).toInt = 6 := by decide
          have cc77 : (6 : Int32).toInt ≤ (3 : Int32).toInt := i32_le.mp c76
          exact In.empty (lo := 6) (hi := 3) (In.ge1 (⟨by decide, by decide⟩ : In 3 3 3) (⟨by decide, by decide⟩ : In 6 6 6) cc77 (by omega) (by omega)) (by decide)
        ·
          have oc3 : (3 : Int32).toInt = 3 := by decide
          have oc6 : (6 : Int32).toInt = 6 := by decide
          have cc78 : (3 : Int32).toInt < (6 : Int32).toInt := i32_nle c76
          refine lv_aload_n hx hb dX11_readsCouncil_23 rfl (lv_at hl 1 rfl) ?_
          refine pl_get (v := .ref (ad 257)) hx hb hts (fun w h => mT (inX11 w h)) hown hG.1 hP (hst.1 255 (by decide)) hf75 rfl 7 (by decide) (hts _ (mT wg_1343)) (fun _ h => h) rfl dX11_readsCouncil_24 ?_
          refine lv_iload_n hx hb dX11_readsCouncil_27 rfl (lv_at hl 0 rfl) ?_
          refine lv_iconst (v := 0) hx hb dX11_readsCouncil_28 (by decide) ?_
          refine pl_iastE hx hb hG.1 hP hD hS (hst.1 257 (by decide)) 0 hf66 rfl (In.inb (⟨by decide, by decide⟩ : In 3 3 3) (by decide) (by decide)) dX11_readsCouncil_29 (fun H locs f79 r82 er82 hf80 ho81 hP hD hS => ?_)
          have hpn83 : In (r82 0) 0 9 := (upd_neI (k := 0) er82 (by decide)) ▸ hpn69
          have hpg84 := (congrArg Int32.toInt (upd_neI (k := 0) er82 (by decide))).trans hpg70
          have hpn85 : In (r82 1) 0 4 := (upd_neI (k := 1) er82 (by decide)) ▸ hpn71
          have hpn86 : In (r82 2) 0 6 := (upd_neI (k := 2) er82 (by decide)) ▸ hpn72
          have hpn87 : In (r82 4) 0 511 := (upd_neI (k := 4) er82 (by decide)) ▸ hpn73
          have hpg88 := (congrArg Int32.toInt (upd_neI (k := 4) er82 (by decide))).trans hpg74
          have hf89 := (ho81 (ad 255) (hst.ne (by decide) (by decide) (by decide))).trans hf75
          have hfr : (∀ b, b ≠ (ad 255) → b ≠ (ad 257) → f79 b = f b) := fun b z0_ z1_ => (ho81 b z1_).trans (hfr b z0_ z1_)
          refine lv_iinc (v := 4) (lv' := [(1, .int 4), (0, .ref (ad 255))]) hx hb dX11_readsCouncil_30 hl (k := 0) rfl (by decide) (by decide) rfl (fun ls hl => ?_)
          have hT := TI.updM hT hst (k := 2) (by decide) hf80 ho81 ⟨r82, rfl, hpn83, (hpg84.trans rfl), hpn85, hpn86, hpn87, (hpg88.trans rfl)⟩
          refine lv_goto (tgt := 17) hx hb dX11_readsCouncil_33 (by decide) ?_
          refine lv_iload_n hx hb dX11_readsCouncil_17 rfl (lv_at hl 0 rfl) ?_
          refine lv_bipush (v := 6) hx hb dX11_readsCouncil_18 (by decide) ?_
          refine lv_icmp_ge (tgt := 36) hx hb dX11_readsCouncil_20 (by decide) (fun c90 => ?_) (fun c90 => ?_)
          ·
            have oc4 : (4 : Int32).toInt = 4 := by decide
            have oc6 : (6 : Int32).toInt = 6 := by decide
            have cc91 : (6 : Int32).toInt ≤ (4 : Int32).toInt := i32_le.mp c90
            exact In.empty (lo := 6) (hi := 4) (In.ge1 (⟨by decide, by decide⟩ : In 4 4 4) (⟨by decide, by decide⟩ : In 6 6 6) cc91 (by omega) (by omega)) (by decide)
          ·
            have oc4 : (4 : Int32).toInt = 4 := by decide
            have oc6 : (6 : Int32).toInt = 6 := by decide
            have cc92 : (4 : Int32).toInt < (6 : Int32).toInt := i32_nle c90
            refine lv_aload_n hx hb dX11_readsCouncil_23 rfl (lv_at hl 1 rfl) ?_
            refine pl_get (v := .ref (ad 257)) hx hb hts (fun w h => mT (inX11 w h)) hown hG.1 hP (hst.1 255 (by decide)) hf89 rfl 7 (by decide) (hts _ (mT wg_1343)) (fun _ h => h) rfl dX11_readsCouncil_24 ?_
            refine lv_iload_n hx hb dX11_readsCouncil_27 rfl (lv_at hl 0 rfl) ?_
            refine lv_iconst (v := 0) hx hb dX11_readsCouncil_28 (by decide) ?_
            refine pl_iastE hx hb hG.1 hP hD hS (hst.1 257 (by decide)) 0 hf80 rfl (In.inb (⟨by decide, by decide⟩ : In 4 4 4) (by decide) (by decide)) dX11_readsCouncil_29 (fun H locs f93 r96 er96 hf94 ho95 hP hD hS => ?_)
            have hpn97 : In (r96 0) 0 9 := (upd_neI (k := 0) er96 (by decide)) ▸ hpn83
            have hpg98 := (congrArg Int32.toInt (upd_neI (k := 0) er96 (by decide))).trans hpg84
            have hpn99 : In (r96 1) 0 4 := (upd_neI (k := 1) er96 (by decide)) ▸ hpn85
            have hpn100 : In (r96 2) 0 6 := (upd_neI (k := 2) er96 (by decide)) ▸ hpn86
            have hpn101 : In (r96 4) 0 511 := (upd_eqI (k := 4) er96 (by decide)) ▸ (⟨by decide, by decide⟩ : In 0 0 511)
            have hpg102 : (r96 4).toInt = (0 : Int32).toInt := congrArg Int32.toInt (upd_eqI (k := 4) er96 (by decide))
            have hf103 := (ho95 (ad 255) (hst.ne (by decide) (by decide) (by decide))).trans hf89
            have hfr : (∀ b, b ≠ (ad 255) → b ≠ (ad 257) → f93 b = f b) := fun b z0_ z1_ => (ho95 b z1_).trans (hfr b z0_ z1_)
            refine lv_iinc (v := 5) (lv' := [(1, .int 5), (0, .ref (ad 255))]) hx hb dX11_readsCouncil_30 hl (k := 0) rfl (by decide) (by decide) rfl (fun ls hl => ?_)
            have hT := TI.updMG (th' := (gset (gset (gset (gset (gset th 37 0) 42 (-1)) 35 0) 30 0) 34 0)) hT hst (k := 2) (by decide) hf94 ho95 ⟨r96, rfl, hpn97, (hpg98.trans rfl), hpn99, hpn100, hpn101, (hpg102.trans (by decide))⟩ (fun q hq => ((gset_ne (fun e => hq (by subst e; decide))).trans rfl))
            refine lv_goto (tgt := 17) hx hb dX11_readsCouncil_33 (by decide) ?_
            refine lv_iload_n hx hb dX11_readsCouncil_17 rfl (lv_at hl 0 rfl) ?_
            refine lv_bipush (v := 6) hx hb dX11_readsCouncil_18 (by decide) ?_
            refine lv_icmp_ge (tgt := 36) hx hb dX11_readsCouncil_20 (by decide) (fun c104 => ?_) (fun c104 => ?_)
            ·
              have oc5 : (5 : Int32).toInt = 5 := by decide
              have oc6 : (6 : Int32).toInt = 6 := by decide
              have cc105 : (6 : Int32).toInt ≤ (5 : Int32).toInt := i32_le.mp c104
              exact In.empty (lo := 6) (hi := 5) (In.ge1 (⟨by decide, by decide⟩ : In 5 5 5) (⟨by decide, by decide⟩ : In 6 6 6) cc105 (by omega) (by omega)) (by decide)
            ·
              have oc5 : (5 : Int32).toInt = 5 := by decide
              have oc6 : (6 : Int32).toInt = 6 := by decide
              have cc106 : (5 : Int32).toInt < (6 : Int32).toInt := i32_nle c104
              refine lv_aload_n hx hb dX11_readsCouncil_23 rfl (lv_at hl 1 rfl) ?_
              obtain ⟨v0_107, v2_107, v3_107, v4_107, v5_107, v6_107, v8_107, v9_107, v12_107, v13_107, v14_107, v15_107, v16_107, v17_107, v18_107, v19_107, v20_107, v21_107, v22_107, v23_107, v25_107, v36_107, v37_107, v38_107, v39_107, v40_107, v45_107, v46_107, v47_107, v48_107, v50_107, v51_107, v53_107, v55_107, hf108, hv0_107, hv2_107, hg2_107, hv3_107, hg3_107, hv4_107, hg4_107, hv5_107, hg5_107, hv6_107, hg6_107, hv8_107, hv9_107, hg9_107, hv12_107, hv13_107, hg13_107, hv14_107, hg14_107, hv15_107, hg15_107, hv17_107, hg17_107, hv20_107, hg20_107, hv23_107, hg23_107, hv25_107, hv36_107, hg36_107, hv47_107, hg47_107, hv48_107, hg48_107, hv53_107, hg53_107, hv55_107, hg55_107, hrel0_107⟩ := hT.2.2 0 (by decide)
              have hg2_107 : v2_107.toInt = th 13 := hg2_107
              have hg3_107 : v3_107.toInt = 0 := hg3_107
              have hg4_107 : v4_107.toInt = -1 := hg4_107
              have hg5_107 : v5_107.toInt = th 40 := hg5_107
              have hg6_107 : v6_107.toInt = th 41 := hg6_107
              have hg9_107 : v9_107.toInt = 0 := hg9_107
              have hg13_107 : v13_107.toInt = th 36 := hg13_107
              have hg14_107 : v14_107.toInt = th 10 := hg14_107
              have hg15_107 : v15_107.toInt = th 11 := hg15_107
              have hg17_107 : v17_107.toInt = th 12 := hg17_107
              have hg20_107 : v20_107.toInt = th 14 := hg20_107
              have hg23_107 : v23_107.toInt = th 15 := hg23_107
              have hg36_107 : v36_107.toInt = th 18 := hg36_107
              have hg47_107 : v47_107.toInt = th 16 := hg47_107
              have hg48_107 : v48_107.toInt = th 17 := hg48_107
              have hg53_107 : v53_107.toInt = th 38 := hg53_107
              have hg55_107 : v55_107.toInt = th 39 := hg55_107
              refine pl_get (v := .ref (ad 257)) hx hb hts (fun w h => mT (inX11 w h)) hown hG.1 hP (hst.1 255 (by decide)) hf108 rfl 7 (by decide) (hts _ (mT wg_1343)) (fun _ h => h) rfl dX11_readsCouncil_24 ?_
              refine lv_iload_n hx hb dX11_readsCouncil_27 rfl (lv_at hl 0 rfl) ?_
              refine lv_iconst (v := 0) hx hb dX11_readsCouncil_28 (by decide) ?_
              obtain ⟨rw109, hf110, hpn111, hpg112, hpn113, hpn114, hpn115, hpg116⟩ := hT.2.2 2 (by decide)
              refine pl_iastE hx hb hG.1 hP hD hS (hst.1 257 (by decide)) 0 hf110 rfl (In.inb (⟨by decide, by decide⟩ : In 5 5 5) (by decide) (by decide)) dX11_readsCouncil_29 (fun H locs f117 r120 er120 hf118 ho119 hP hD hS => ?_)
              have hpn121 : In (r120 0) 0 9 := (upd_neI (k := 0) er120 (by decide)) ▸ hpn111
              have hpg122 := (congrArg Int32.toInt (upd_neI (k := 0) er120 (by decide))).trans hpg112
              have hpn123 : In (r120 1) 0 4 := (upd_neI (k := 1) er120 (by decide)) ▸ hpn113
              have hpn124 : In (r120 2) 0 6 := (upd_neI (k := 2) er120 (by decide)) ▸ hpn114
              have hpn125 : In (r120 4) 0 511 := (upd_neI (k := 4) er120 (by decide)) ▸ hpn115
              have hpg126 := (congrArg Int32.toInt (upd_neI (k := 4) er120 (by decide))).trans hpg116
              have hf127 := (ho119 (ad 255) (hst.ne (by decide) (by decide) (by decide))).trans hf108
              have hfr : (∀ b, b ≠ (ad 255) → b ≠ (ad 257) → f117 b = f b) := fun b z0_ z1_ => (ho119 b z1_).trans (hfr b z0_ z1_)
              refine lv_iinc (v := 6) (lv' := [(1, .int 6), (0, .ref (ad 255))]) hx hb dX11_readsCouncil_30 hl (k := 0) rfl (by decide) (by decide) rfl (fun ls hl => ?_)
              have hT := TI.updM hT hst (k := 2) (by decide) hf118 ho119 ⟨r120, rfl, hpn121, (hpg122.trans rfl), hpn123, hpn124, hpn125, (hpg126.trans rfl)⟩
              refine lv_goto (tgt := 17) hx hb dX11_readsCouncil_33 (by decide) ?_
              refine lv_iload_n hx hb dX11_readsCouncil_17 rfl (lv_at hl 0 rfl) ?_
              refine lv_bipush (v := 6) hx hb dX11_readsCouncil_18 (by decide) ?_
              refine lv_icmp_ge (tgt := 36) hx hb dX11_readsCouncil_20 (by decide) (fun c128 => ?_) (fun c128 => ?_)
              ·
                have oc6 : (6 : Int32).toInt = 6 := by decide
                have oc6 : (6 : Int32).toInt = 6 := by decide
                have cc129 : (6 : Int32).toInt ≤ (6 : Int32).toInt := i32_le.mp c128
                refine lv_aload_n hx hb dX11_readsCouncil_36 rfl (lv_at hl 1 rfl) ?_
                refine call_i (run_V (rm := rm_X11_look) hx hb hml hown hts (s_X11_look l g ad (gset (gset (gset (gset (gset th 37 0) 42 (-1)) 35 0) 30 0) 34 0) _ _ _  hst hT ) cV_X11_look wg_1529 ⟨Nat.le_of_ble_eq_true rfl, Nat.le_of_ble_eq_true rfl⟩ hG hE hA hP hD hS (hst.1 255 (by decide)) hf127 rfl rfl hl.1 (As := []) (rest := []) rfl (Nat.le_of_ble_eq_true rfl) dX11_readsCouncil_37 ⟨Nat.le_of_ble_eq_true rfl, Nat.le_of_ble_eq_true rfl⟩) hA hD hS (fun r130 L131 f132 H locs hp133 hP hD hS => ?_)
                obtain ⟨eL134L, eL134T, eL134F, eL134R⟩ := hp133
                have eL134L : L131 = L := eL134L
                rw [eL134L] at hP hD
                obtain ⟨zz135, hzz135, eL134T⟩ := eL134T
                have hT : TI g ad (gset (gset (gset (gset (gset (gset th 37 0) 42 (-1)) 35 0) 30 0) 34 0) 37 zz135) f132 := eL134T
                have hT : TI g ad (gset (gset (gset (gset (gset th 42 (-1)) 35 0) 30 0) 34 0) 37 zz135) f132 := TI.cast hT (by funext q; simp only [gset]; (repeat' split); all_goals first | rfl | omega | (subst_vars; rfl) | (exfalso; omega))
                have eL134F : ∀ b, b ≠ (ad 255) → f132 b = f117 b := eL134F
                have hfr : (∀ b, b ≠ (ad 255) → b ≠ (ad 257) → f132 b = f b) := fun b z0_ z1_ => (eL134F b z0_).trans (hfr b z0_ z1_)
                have eL134R : In r130 (-1) 255 := eL134R
                refine lv_istore_n (lv' := [(1, .int r130), (0, .ref (ad 255))]) hx hb dX11_readsCouncil_40 rfl hl (by decide) rfl (fun ls hl => ?_)
                refine lv_aload_n hx hb dX11_readsCouncil_41 rfl (lv_at hl 1 rfl) ?_
                refine lv_aload_n hx hb dX11_readsCouncil_42 rfl (lv_at hl 1 rfl) ?_
                refine va_ldcS hx hb hown (hG.2.2.1 ("RulerWordModel", 174, "king", 0) (by decide +kernel)) dX11_readsCouncil_43 ?_
                obtain ⟨v0_136, v2_136, v3_136, v4_136, v5_136, v6_136, v8_136, v9_136, v12_136, v13_136, v14_136, v15_136, v16_136, v17_136, v18_136, v19_136, v20_136, v21_136, v22_136, v23_136, v25_136, v36_136, v37_136, v38_136, v39_136, v40_136, v45_136, v46_136, v47_136, v48_136, v50_136, v51_136, v53_136, v55_136, hf137, hv0_136, hv2_136, hg2_136, hv3_136, hg3_136, hv4_136, hg4_136, hv5_136, hg5_136, hv6_136, hg6_136, hv8_136, hv9_136, hg9_136, hv12_136, hv13_136, hg13_136, hv14_136, hg14_136, hv15_136, hg15_136, hv17_136, hg17_136, hv20_136, hg20_136, hv23_136, hg23_136, hv25_136, hv36_136, hg36_136, hv47_136, hg47_136, hv48_136, hg48_136, hv53_136, hg53_136, hv55_136, hg55_136, hrel0_136⟩ := hT.2.2 0 (by decide)
                have hg2_136 : v2_136.toInt = th 13 := hg2_136
                have hg3_136 : v3_136.toInt = zz135 := hg3_136
                have hg4_136 : v4_136.toInt = -1 := hg4_136
                have hg5_136 : v5_136.toInt = th 40 := hg5_136
                have hg6_136 : v6_136.toInt = th 41 := hg6_136
                have hg9_136 : v9_136.toInt = 0 := hg9_136
                have hg13_136 : v13_136.toInt = th 36 := hg13_136
                have hg14_136 : v14_136.toInt = th 10 := hg14_136
                have hg15_136 : v15_136.toInt = th 11 := hg15_136
                have hg17_136 : v17_136.toInt = th 12 := hg17_136
                have hg20_136 : v20_136.toInt = th 14 := hg20_136
                have hg23_136 : v23_136.toInt = th 15 := hg23_136
                have hg36_136 : v36_136.toInt = th 18 := hg36_136
                have hg47_136 : v47_136.toInt = th 16 := hg47_136
                have hg48_136 : v48_136.toInt = th 17 := hg48_136
                have hg53_136 : v53_136.toInt = th 38 := hg53_136
                have hg55_136 : v55_136.toInt = th 39 := hg55_136
                refine call_i (run_V (rm := rm_X11_takes) hx hb hml hown hts (s_X11_takes l g ad (gset (gset (gset (gset (gset th 42 (-1)) 35 0) 30 0) 34 0) 37 zz135) _ _ _ 0 hst hT (by decide)) cV_X11_takes wg_1538 ⟨Nat.le_of_ble_eq_true rfl, Nat.le_of_ble_eq_true rfl⟩ hG hE hA hP hD hS (hst.1 255 (by decide)) hf137 rfl rfl hl.1 (As := [.ref (g.2.2.1 0)]) (rest := [.ref (ad 255)]) rfl (Nat.le_of_ble_eq_true rfl) dX11_readsCouncil_45 ⟨Nat.le_of_ble_eq_true rfl, Nat.le_of_ble_eq_true rfl⟩) hA hD hS (fun r138 L139 f140 H locs hp141 hP hD hS => ?_)
                obtain ⟨eL142L, eL142T, eL142F, eL142R⟩ := hp141
                have eL142L : L139 = L := eL142L
                rw [eL142L] at hP hD
                obtain ⟨zz143, hzz143, eL142T⟩ := eL142T
                have hT : TI g ad (gset (gset (gset (gset (gset (gset th 42 (-1)) 35 0) 30 0) 34 0) 37 zz135) 37 zz143) f140 := eL142T
                have hT : TI g ad (gset (gset (gset (gset (gset th 42 (-1)) 35 0) 30 0) 34 0) 37 zz143) f140 := TI.cast hT (by funext q; simp only [gset]; (repeat' split); all_goals first | rfl | omega | (subst_vars; rfl) | (exfalso; omega))
                have eL142F : ∀ b, b ≠ (ad 255) → f140 b = f132 b := eL142F
                have hfr : (∀ b, b ≠ (ad 255) → b ≠ (ad 257) → f140 b = f b) := fun b z0_ z1_ => (eL142F b z0_).trans (hfr b z0_ z1_)
                have eL142R : In r138 0 1 := eL142R
                have hJ69 : ∀ (zg69_za : Int) (zg69_zr : Int) (zg69_zl : Int) (zg69_ze : Int) (zg69_zt : Int) (zg69_zs : Int) (zg69_zf : Int) (y69_s0 : Int32) (f_69 : HP) (H : Heap) (locs : List Loc) (ls : Array Slot), (0 ≤ zg69_za ∧ zg69_za ≤ 500) ∧ DIp zg69_zt zg69_zs zg69_zf → In y69_s0 (-1) 1 → va_P g.1 vwCl (va_pl L f_69) H → va_D A (va_pl L f_69) → va_S A s.heap H locs → TI g ad (gset (gset (gset (gset (gset (gset (gset th 37 zg69_za) 40 zg69_zr) 41 zg69_zl) 42 zg69_ze) 35 zg69_zt) 30 zg69_zs) 34 zg69_zf) f_69 → (∀ b, b ≠ (ad 255) → b ≠ (ad 257) → f_69 b = f b) → lv_has ls 2 [(0, .ref (ad 255)), (1, .int r130)] → W p l e rm_X11_readsCouncil s m [.ref (ad 255)].toArray below meth c H locs 0 0 (MQ below (va_Qi (po_X11_readsCouncil g ad th L f ) (PstB g A) A) [.ref (ad 255)].toArray s rm_X11_readsCouncil.cells rm_X11_readsCouncil.slots A) (F0 m 69 ls [.int y69_s0, .ref (ad 255)]) := by
                  intro zg69_za zg69_zr zg69_zl zg69_ze zg69_zt zg69_zs zg69_zf y69_s0 f_69 H locs ls hzg69 hy69_s0 hP hD hS hT hfr hl
                  obtain ⟨v0_144, v2_144, v3_144, v4_144, v5_144, v6_144, v8_144, v9_144, v12_144, v13_144, v14_144, v15_144, v16_144, v17_144, v18_144, v19_144, v20_144, v21_144, v22_144, v23_144, v25_144, v36_144, v37_144, v38_144, v39_144, v40_144, v45_144, v46_144, v47_144, v48_144, v50_144, v51_144, v53_144, v55_144, hf145, hv0_144, hv2_144, hg2_144, hv3_144, hg3_144, hv4_144, hg4_144, hv5_144, hg5_144, hv6_144, hg6_144, hv8_144, hv9_144, hg9_144, hv12_144, hv13_144, hg13_144, hv14_144, hg14_144, hv15_144, hg15_144, hv17_144, hg17_144, hv20_144, hg20_144, hv23_144, hg23_144, hv25_144, hv36_144, hg36_144, hv47_144, hg47_144, hv48_144, hg48_144, hv53_144, hg53_144, hv55_144, hg55_144, hrel0_144⟩ := hT.2.2 0 (by decide)
                  have hg2_144 : v2_144.toInt = th 13 := hg2_144
                  have hg3_144 : v3_144.toInt = zg69_za := hg3_144
                  have hg4_144 : v4_144.toInt = zg69_ze := hg4_144
                  have hg5_144 : v5_144.toInt = zg69_zr := hg5_144
                  have hg6_144 : v6_144.toInt = zg69_zl := hg6_144
                  have hg9_144 : v9_144.toInt = zg69_zt := hg9_144
                  have hg13_144 : v13_144.toInt = th 36 := hg13_144
                  have hg14_144 : v14_144.toInt = th 10 := hg14_144
                  have hg15_144 : v15_144.toInt = th 11 := hg15_144
                  have hg17_144 : v17_144.toInt = th 12 := hg17_144
                  have hg20_144 : v20_144.toInt = th 14 := hg20_144
                  have hg23_144 : v23_144.toInt = th 15 := hg23_144
                  have hg36_144 : v36_144.toInt = th 18 := hg36_144
                  have hg47_144 : v47_144.toInt = th 16 := hg47_144
                  have hg48_144 : v48_144.toInt = th 17 := hg48_144
                  have hg53_144 : v53_144.toInt = th 38 := hg53_144
                  have hg55_144 : v55_144.toInt = th 39 := hg55_144
                  refine pl_put (ty := .int) (v := .int y69_s0) (fs' := [.int v0_144, .ref (ad 256), .int v2_144, .int v3_144, .int v4_144, .int v5_144, .int v6_144, .ref (ad 257), .int y69_s0, .int v9_144, .ref (ad 258), .ref (ad 259), .int v12_144, .int v13_144, .int v14_144, .int v15_144, .int v16_144, .int v17_144, .int v18_144, .int v19_144, .int v20_144, .long v21_144, .long v22_144, .int v23_144, .ref (ad 260), .int v25_144, .ref (ad 261), .ref (ad 262), .ref (ad 263), .ref (ad 264), .ref (ad 265), .ref (ad 266), .ref (ad 267), .ref (ad 268), .ref (ad 269), .ref (ad 270), .int v36_144, .int v37_144, .int v38_144, .int v39_144, .int v40_144, .ref (ad 271), .ref (ad 272), .ref (ad 273), .ref (ad 274), .long v45_144, .long v46_144, .int v47_144, .int v48_144, .ref (ad 275), .int v50_144, .int v51_144, .ref (ad 276), .int v53_144, .ref (ad 277), .int v55_144]) hx hb hts (fun w h => mT (inX11 w h)) tyX11 tyX11_ok nmX11 hown hG.1 hP hD hS (hst.1 255 (by decide)) hf145 rfl 8 (by decide) (hts _ (mT wg_1344)) (fun _ h => h) rfl (by decide +kernel) (rfl) (rfl) (Nat.le_of_ble_eq_true rfl) rfl dX11_readsCouncil_69 (fun H locs f146 hf147 ho148 hP hD hS => ?_)
                  have hfr : (∀ b, b ≠ (ad 255) → b ≠ (ad 257) → f146 b = f b) := fun b z0_ z1_ => (ho148 b z0_).trans (hfr b z0_ z1_)
                  refine lv_aload_n hx hb dX11_readsCouncil_72 rfl (lv_at hl 0 rfl) ?_
                  refine pl_get (v := .int y69_s0) hx hb hts (fun w h => mT (inX11 w h)) hown hG.1 hP (hst.1 255 (by decide)) hf147 rfl 8 (by decide) (hts _ (mT wg_1344)) (fun _ h => h) rfl dX11_readsCouncil_73 ?_
                  refine lv_iconst (v := (-1)) hx hb dX11_readsCouncil_76 (by decide) ?_
                  have hT := TI.updM hT hst (k := 0) (by decide) hf147 ho148 ⟨v0_144, v2_144, v3_144, v4_144, v5_144, v6_144, y69_s0, v9_144, v12_144, v13_144, v14_144, v15_144, v16_144, v17_144, v18_144, v19_144, v20_144, v21_144, v22_144, v23_144, v25_144, v36_144, v37_144, v38_144, v39_144, v40_144, v45_144, v46_144, v47_144, v48_144, v50_144, v51_144, v53_144, v55_144, rfl, hv0_144, hv2_144, hg2_144, hv3_144, hg3_144, hv4_144, hg4_144, hv5_144, hg5_144, hv6_144, hg6_144, hy69_s0, hv9_144, hg9_144, hv12_144, hv13_144, hg13_144, hv14_144, hg14_144, hv15_144, hg15_144, hv17_144, hg17_144, hv20_144, hg20_144, hv23_144, hg23_144, hv25_144, hv36_144, hg36_144, hv47_144, hg47_144, hv48_144, hg48_144, hv53_144, hg53_144, hv55_144, hg55_144, hrel0_144⟩
                  have hJ88 : ∀ (k88 : Nat) (zg88_za : Int) (zg88_zr : Int) (zg88_zl : Int) (zg88_ze : Int) (zg88_zt : Int) (zg88_zs : Int) (zg88_zf : Int) (f_88 : HP) (H : Heap) (locs : List Loc) (ls : Array Slot), (0 ≤ zg88_za ∧ zg88_za ≤ 500) ∧ DIp zg88_zt zg88_zs zg88_zf → va_P g.1 vwCl (va_pl L f_88) H → va_D A (va_pl L f_88) → va_S A s.heap H locs → TI g ad (gset (gset (gset (gset (gset (gset (gset th 37 zg88_za) 40 zg88_zr) 41 zg88_zl) 42 zg88_ze) 35 zg88_zt) 30 zg88_zs) 34 zg88_zf) f_88 → (∀ b, b ≠ (ad 255) → b ≠ (ad 257) → f_88 b = f b) → lv_has ls 2 [(0, .ref (ad 255)), (1, .int r130)] → 500 - zg88_za < ((k88 : Nat) : Int) → W p l e rm_X11_readsCouncil s m [.ref (ad 255)].toArray below meth c H locs 0 0 (MQ below (va_Qi (po_X11_readsCouncil g ad th L f ) (PstB g A) A) [.ref (ad 255)].toArray s rm_X11_readsCouncil.cells rm_X11_readsCouncil.slots A) (F0 m 88 ls []) := by
                    intro k88
                    induction k88 with
                    | zero =>
                      intro zg88_za zg88_zr zg88_zl zg88_ze zg88_zt zg88_zs zg88_zf f_88 H locs ls hzg88 hP hD hS hT hfr hl hmz88
                      exact absurd hmz88 (by omega)
                    | succ k88 ih88 =>
                      intro zg88_za zg88_zr zg88_zl zg88_ze zg88_zt zg88_zs zg88_zf f_88 H locs ls hzg88 hP hD hS hT hfr hl hmz88
                      refine lv_aload_n hx hb dX11_readsCouncil_88 rfl (lv_at hl 0 rfl) ?_
                      obtain ⟨v0_149, v2_149, v3_149, v4_149, v5_149, v6_149, v8_149, v9_149, v12_149, v13_149, v14_149, v15_149, v16_149, v17_149, v18_149, v19_149, v20_149, v21_149, v22_149, v23_149, v25_149, v36_149, v37_149, v38_149, v39_149, v40_149, v45_149, v46_149, v47_149, v48_149, v50_149, v51_149, v53_149, v55_149, hf150, hv0_149, hv2_149, hg2_149, hv3_149, hg3_149, hv4_149, hg4_149, hv5_149, hg5_149, hv6_149, hg6_149, hv8_149, hv9_149, hg9_149, hv12_149, hv13_149, hg13_149, hv14_149, hg14_149, hv15_149, hg15_149, hv17_149, hg17_149, hv20_149, hg20_149, hv23_149, hg23_149, hv25_149, hv36_149, hg36_149, hv47_149, hg47_149, hv48_149, hg48_149, hv53_149, hg53_149, hv55_149, hg55_149, hrel0_149⟩ := hT.2.2 0 (by decide)
                      have hg2_149 : v2_149.toInt = th 13 := hg2_149
                      have hg3_149 : v3_149.toInt = zg88_za := hg3_149
                      have hg4_149 : v4_149.toInt = zg88_ze := hg4_149
                      have hg5_149 : v5_149.toInt = zg88_zr := hg5_149
                      have hg6_149 : v6_149.toInt = zg88_zl := hg6_149
                      have hg9_149 : v9_149.toInt = zg88_zt := hg9_149
                      have hg13_149 : v13_149.toInt = th 36 := hg13_149
                      have hg14_149 : v14_149.toInt = th 10 := hg14_149
                      have hg15_149 : v15_149.toInt = th 11 := hg15_149
                      have hg17_149 : v17_149.toInt = th 12 := hg17_149
                      have hg20_149 : v20_149.toInt = th 14 := hg20_149
                      have hg23_149 : v23_149.toInt = th 15 := hg23_149
                      have hg36_149 : v36_149.toInt = th 18 := hg36_149
                      have hg47_149 : v47_149.toInt = th 16 := hg47_149
                      have hg48_149 : v48_149.toInt = th 17 := hg48_149
                      have hg53_149 : v53_149.toInt = th 38 := hg53_149
                      have hg55_149 : v55_149.toInt = th 39 := hg55_149
                      refine pl_get (v := .int v4_149) hx hb hts (fun w h => mT (inX11 w h)) hown hG.1 hP (hst.1 255 (by decide)) hf150 rfl 4 (by decide) (hts _ (mT wg_1340)) (fun _ h => h) rfl dX11_readsCouncil_89 ?_
                      refine lv_iconst (v := (-1)) hx hb dX11_readsCouncil_92 (by decide) ?_
                      have hJ122 : ∀ (zg122_za : Int) (zg122_zr : Int) (zg122_zl : Int) (zg122_ze : Int) (zg122_zt : Int) (zg122_zs : Int) (zg122_zf : Int) (f_122 : HP) (H : Heap) (locs : List Loc) (ls : Array Slot), (0 ≤ zg122_za ∧ zg122_za ≤ 500) ∧ DIp zg122_zt zg122_zs zg122_zf → va_P g.1 vwCl (va_pl L f_122) H → va_D A (va_pl L f_122) → va_S A s.heap H locs → TI g ad (gset (gset (gset (gset (gset (gset (gset th 37 zg122_za) 40 zg122_zr) 41 zg122_zl) 42 zg122_ze) 35 zg122_zt) 30 zg122_zs) 34 zg122_zf) f_122 → (∀ b, b ≠ (ad 255) → b ≠ (ad 257) → f_122 b = f b) → lv_has ls 2 [(0, .ref (ad 255)), (1, .int r130)] → W p l e rm_X11_readsCouncil s m [.ref (ad 255)].toArray below meth c H locs 0 0 (MQ below (va_Qi (po_X11_readsCouncil g ad th L f ) (PstB g A) A) [.ref (ad 255)].toArray s rm_X11_readsCouncil.cells rm_X11_readsCouncil.slots A) (F0 m 122 ls []) := by
                        intro zg122_za zg122_zr zg122_zl zg122_ze zg122_zt zg122_zs zg122_zf f_122 H locs ls hzg122 hP hD hS hT hfr hl
                        refine lv_aload_n hx hb dX11_readsCouncil_122 rfl (lv_at hl 0 rfl) ?_
                        obtain ⟨v0_151, v2_151, v3_151, v4_151, v5_151, v6_151, v8_151, v9_151, v12_151, v13_151, v14_151, v15_151, v16_151, v17_151, v18_151, v19_151, v20_151, v21_151, v22_151, v23_151, v25_151, v36_151, v37_151, v38_151, v39_151, v40_151, v45_151, v46_151, v47_151, v48_151, v50_151, v51_151, v53_151, v55_151, hf152, hv0_151, hv2_151, hg2_151, hv3_151, hg3_151, hv4_151, hg4_151, hv5_151, hg5_151, hv6_151, hg6_151, hv8_151, hv9_151, hg9_151, hv12_151, hv13_151, hg13_151, hv14_151, hg14_151, hv15_151, hg15_151, hv17_151, hg17_151, hv20_151, hg20_151, hv23_151, hg23_151, hv25_151, hv36_151, hg36_151, hv47_151, hg47_151, hv48_151, hg48_151, hv53_151, hg53_151, hv55_151, hg55_151, hrel0_151⟩ := hT.2.2 0 (by decide)
                        have hg2_151 : v2_151.toInt = th 13 := hg2_151
                        have hg3_151 : v3_151.toInt = zg122_za := hg3_151
                        have hg4_151 : v4_151.toInt = zg122_ze := hg4_151
                        have hg5_151 : v5_151.toInt = zg122_zr := hg5_151
                        have hg6_151 : v6_151.toInt = zg122_zl := hg6_151
                        have hg9_151 : v9_151.toInt = zg122_zt := hg9_151
                        have hg13_151 : v13_151.toInt = th 36 := hg13_151
                        have hg14_151 : v14_151.toInt = th 10 := hg14_151
                        have hg15_151 : v15_151.toInt = th 11 := hg15_151
                        have hg17_151 : v17_151.toInt = th 12 := hg17_151
                        have hg20_151 : v20_151.toInt = th 14 := hg20_151
                        have hg23_151 : v23_151.toInt = th 15 := hg23_151
                        have hg36_151 : v36_151.toInt = th 18 := hg36_151
                        have hg47_151 : v47_151.toInt = th 16 := hg47_151
                        have hg48_151 : v48_151.toInt = th 17 := hg48_151
                        have hg53_151 : v53_151.toInt = th 38 := hg53_151
                        have hg55_151 : v55_151.toInt = th 39 := hg55_151
                        refine pl_get (v := .int v4_151) hx hb hts (fun w h => mT (inX11 w h)) hown hG.1 hP (hst.1 255 (by decide)) hf152 rfl 4 (by decide) (hts _ (mT wg_1340)) (fun _ h => h) rfl dX11_readsCouncil_123 ?_
                        refine lv_iconst (v := (-1)) hx hb dX11_readsCouncil_126 (by decide) ?_
                        have hJ157 : ∀ (zg157_za : Int) (zg157_zr : Int) (zg157_zl : Int) (zg157_ze : Int) (zg157_zt : Int) (zg157_zs : Int) (zg157_zf : Int) (f_157 : HP) (H : Heap) (locs : List Loc) (ls : Array Slot), ((0 ≤ zg157_za ∧ zg157_za ≤ 500) ∧ DIp zg157_zt zg157_zs zg157_zf) ∧ (0 ≤ zg157_ze ∨ zg157_zt % 2 = 1) → va_P g.1 vwCl (va_pl L f_157) H → va_D A (va_pl L f_157) → va_S A s.heap H locs → TI g ad (gset (gset (gset (gset (gset (gset (gset th 37 zg157_za) 40 zg157_zr) 41 zg157_zl) 42 zg157_ze) 35 zg157_zt) 30 zg157_zs) 34 zg157_zf) f_157 → (∀ b, b ≠ (ad 255) → b ≠ (ad 257) → f_157 b = f b) → lv_has ls 2 [(0, .ref (ad 255)), (1, .int r130)] → W p l e rm_X11_readsCouncil s m [.ref (ad 255)].toArray below meth c H locs 0 0 (MQ below (va_Qi (po_X11_readsCouncil g ad th L f ) (PstB g A) A) [.ref (ad 255)].toArray s rm_X11_readsCouncil.cells rm_X11_readsCouncil.slots A) (F0 m 157 ls []) := by
                          intro zg157_za zg157_zr zg157_zl zg157_ze zg157_zt zg157_zs zg157_zf f_157 H locs ls hzg157 hP hD hS hT hfr hl
                          refine lv_aload_n hx hb dX11_readsCouncil_157 rfl (lv_at hl 0 rfl) ?_
                          obtain ⟨v0_153, v2_153, v3_153, v4_153, v5_153, v6_153, v8_153, v9_153, v12_153, v13_153, v14_153, v15_153, v16_153, v17_153, v18_153, v19_153, v20_153, v21_153, v22_153, v23_153, v25_153, v36_153, v37_153, v38_153, v39_153, v40_153, v45_153, v46_153, v47_153, v48_153, v50_153, v51_153, v53_153, v55_153, hf154, hv0_153, hv2_153, hg2_153, hv3_153, hg3_153, hv4_153, hg4_153, hv5_153, hg5_153, hv6_153, hg6_153, hv8_153, hv9_153, hg9_153, hv12_153, hv13_153, hg13_153, hv14_153, hg14_153, hv15_153, hg15_153, hv17_153, hg17_153, hv20_153, hg20_153, hv23_153, hg23_153, hv25_153, hv36_153, hg36_153, hv47_153, hg47_153, hv48_153, hg48_153, hv53_153, hg53_153, hv55_153, hg55_153, hrel0_153⟩ := hT.2.2 0 (by decide)
                          have hg2_153 : v2_153.toInt = th 13 := hg2_153
                          have hg3_153 : v3_153.toInt = zg157_za := hg3_153
                          have hg4_153 : v4_153.toInt = zg157_ze := hg4_153
                          have hg5_153 : v5_153.toInt = zg157_zr := hg5_153
                          have hg6_153 : v6_153.toInt = zg157_zl := hg6_153
                          have hg9_153 : v9_153.toInt = zg157_zt := hg9_153
                          have hg13_153 : v13_153.toInt = th 36 := hg13_153
                          have hg14_153 : v14_153.toInt = th 10 := hg14_153
                          have hg15_153 : v15_153.toInt = th 11 := hg15_153
                          have hg17_153 : v17_153.toInt = th 12 := hg17_153
                          have hg20_153 : v20_153.toInt = th 14 := hg20_153
                          have hg23_153 : v23_153.toInt = th 15 := hg23_153
                          have hg36_153 : v36_153.toInt = th 18 := hg36_153
                          have hg47_153 : v47_153.toInt = th 16 := hg47_153
                          have hg48_153 : v48_153.toInt = th 17 := hg48_153
                          have hg53_153 : v53_153.toInt = th 38 := hg53_153
                          have hg55_153 : v55_153.toInt = th 39 := hg55_153
                          refine pl_get (v := .int v9_153) hx hb hts (fun w h => mT (inX11 w h)) hown hG.1 hP (hst.1 255 (by decide)) hf154 rfl 9 (by decide) (hts _ (mT wg_1345)) (fun _ h => h) rfl dX11_readsCouncil_158 ?_
                          refine lv_iconst (v := 1) hx hb dX11_readsCouncil_161 (by decide) ?_
                          refine call_i (run_S (rm := rm_X11_has) hx hb hml hown hts (s_X11_has l g ad (gset (gset (gset (gset (gset (gset (gset th 37 zg157_za) 40 zg157_zr) 41 zg157_zl) 42 zg157_ze) 35 zg157_zt) 30 zg157_zs) 34 zg157_zf) _ _ _ v9_153 1 hst hT ) cS_X11_has wg_1563 ⟨Nat.le_of_ble_eq_true rfl, Nat.le_of_ble_eq_true rfl⟩ hG hE hA hP hD hS rfl hl.1 (As := [.int v9_153, .int 1]) (rest := []) rfl (Nat.le_of_ble_eq_true rfl) dX11_readsCouncil_162 ⟨Nat.le_of_ble_eq_true rfl, Nat.le_of_ble_eq_true rfl⟩) hA hD hS (fun r155 L156 f157 H locs hp158 hP hD hS => ?_)
                          obtain ⟨eL159L, eL159T, eL159R, eL159X0⟩ := hp158
                          have eL159L : L156 = L := eL159L
                          have eL159T : f157 = f_157 := eL159T
                          rw [eL159L, eL159T] at hP hD
                          have eL159R : In r155 0 1 := eL159R
                          have hbt160 : r155.toInt = bitI zg157_zt 1 := (eL159X0 (Int.le_trans (by decide) hv9_153.1) (⟨by decide, by decide⟩ : In 1 0 30)).trans (by rw [hg9_153])
                          have hJ195 : ∀ (zg195_za : Int) (zg195_zr : Int) (zg195_zl : Int) (zg195_ze : Int) (zg195_zt : Int) (zg195_zs : Int) (zg195_zf : Int) (f_195 : HP) (H : Heap) (locs : List Loc) (ls : Array Slot), ((0 ≤ zg195_za ∧ zg195_za ≤ 500) ∧ DIp zg195_zt zg195_zs zg195_zf) ∧ (0 ≤ zg195_ze ∨ zg195_zt % 2 = 1) → va_P g.1 vwCl (va_pl L f_195) H → va_D A (va_pl L f_195) → va_S A s.heap H locs → TI g ad (gset (gset (gset (gset (gset (gset (gset th 37 zg195_za) 40 zg195_zr) 41 zg195_zl) 42 zg195_ze) 35 zg195_zt) 30 zg195_zs) 34 zg195_zf) f_195 → (∀ b, b ≠ (ad 255) → b ≠ (ad 257) → f_195 b = f b) → lv_has ls 2 [(0, .ref (ad 255)), (1, .int r130)] → W p l e rm_X11_readsCouncil s m [.ref (ad 255)].toArray below meth c H locs 0 0 (MQ below (va_Qi (po_X11_readsCouncil g ad th L f ) (PstB g A) A) [.ref (ad 255)].toArray s rm_X11_readsCouncil.cells rm_X11_readsCouncil.slots A) (F0 m 195 ls []) := by
                            intro zg195_za zg195_zr zg195_zl zg195_ze zg195_zt zg195_zs zg195_zf f_195 H locs ls hzg195 hP hD hS hT hfr hl
                            refine lv_aload_n hx hb dX11_readsCouncil_195 rfl (lv_at hl 0 rfl) ?_
                            obtain ⟨v0_161, v2_161, v3_161, v4_161, v5_161, v6_161, v8_161, v9_161, v12_161, v13_161, v14_161, v15_161, v16_161, v17_161, v18_161, v19_161, v20_161, v21_161, v22_161, v23_161, v25_161, v36_161, v37_161, v38_161, v39_161, v40_161, v45_161, v46_161, v47_161, v48_161, v50_161, v51_161, v53_161, v55_161, hf162, hv0_161, hv2_161, hg2_161, hv3_161, hg3_161, hv4_161, hg4_161, hv5_161, hg5_161, hv6_161, hg6_161, hv8_161, hv9_161, hg9_161, hv12_161, hv13_161, hg13_161, hv14_161, hg14_161, hv15_161, hg15_161, hv17_161, hg17_161, hv20_161, hg20_161, hv23_161, hg23_161, hv25_161, hv36_161, hg36_161, hv47_161, hg47_161, hv48_161, hg48_161, hv53_161, hg53_161, hv55_161, hg55_161, hrel0_161⟩ := hT.2.2 0 (by decide)
                            have hg2_161 : v2_161.toInt = th 13 := hg2_161
                            have hg3_161 : v3_161.toInt = zg195_za := hg3_161
                            have hg4_161 : v4_161.toInt = zg195_ze := hg4_161
                            have hg5_161 : v5_161.toInt = zg195_zr := hg5_161
                            have hg6_161 : v6_161.toInt = zg195_zl := hg6_161
                            have hg9_161 : v9_161.toInt = zg195_zt := hg9_161
                            have hg13_161 : v13_161.toInt = th 36 := hg13_161
                            have hg14_161 : v14_161.toInt = th 10 := hg14_161
                            have hg15_161 : v15_161.toInt = th 11 := hg15_161
                            have hg17_161 : v17_161.toInt = th 12 := hg17_161
                            have hg20_161 : v20_161.toInt = th 14 := hg20_161
                            have hg23_161 : v23_161.toInt = th 15 := hg23_161
                            have hg36_161 : v36_161.toInt = th 18 := hg36_161
                            have hg47_161 : v47_161.toInt = th 16 := hg47_161
                            have hg48_161 : v48_161.toInt = th 17 := hg48_161
                            have hg53_161 : v53_161.toInt = th 38 := hg53_161
                            have hg55_161 : v55_161.toInt = th 39 := hg55_161
                            refine pl_get (v := .int v9_161) hx hb hts (fun w h => mT (inX11 w h)) hown hG.1 hP (hst.1 255 (by decide)) hf162 rfl 9 (by decide) (hts _ (mT wg_1345)) (fun _ h => h) rfl dX11_readsCouncil_196 ?_
                            refine lv_iconst (v := 2) hx hb dX11_readsCouncil_199 (by decide) ?_
                            refine call_i (run_S (rm := rm_X11_has) hx hb hml hown hts (s_X11_has l g ad (gset (gset (gset (gset (gset (gset (gset th 37 zg195_za) 40 zg195_zr) 41 zg195_zl) 42 zg195_ze) 35 zg195_zt) 30 zg195_zs) 34 zg195_zf) _ _ _ v9_161 2 hst hT ) cS_X11_has wg_1563 ⟨Nat.le_of_ble_eq_true rfl, Nat.le_of_ble_eq_true rfl⟩ hG hE hA hP hD hS rfl hl.1 (As := [.int v9_161, .int 2]) (rest := []) rfl (Nat.le_of_ble_eq_true rfl) dX11_readsCouncil_200 ⟨Nat.le_of_ble_eq_true rfl, Nat.le_of_ble_eq_true rfl⟩) hA hD hS (fun r163 L164 f165 H locs hp166 hP hD hS => ?_)
                            obtain ⟨eL167L, eL167T, eL167R, eL167X0⟩ := hp166
                            have eL167L : L164 = L := eL167L
                            have eL167T : f165 = f_195 := eL167T
                            rw [eL167L, eL167T] at hP hD
                            have eL167R : In r163 0 1 := eL167R
                            have hbt168 : r163.toInt = bitI zg195_zt 2 := (eL167X0 (Int.le_trans (by decide) hv9_161.1) (⟨by decide, by decide⟩ : In 2 0 30)).trans (by rw [hg9_161])
                            have hJ220 : ∀ (zg220_za : Int) (zg220_zr : Int) (zg220_zl : Int) (zg220_ze : Int) (zg220_zt : Int) (zg220_zs : Int) (zg220_zf : Int) (f_220 : HP) (H : Heap) (locs : List Loc) (ls : Array Slot), ((0 ≤ zg220_za ∧ zg220_za ≤ 500) ∧ DIp zg220_zt zg220_zs zg220_zf) ∧ (0 ≤ zg220_ze ∨ zg220_zt % 2 = 1) → va_P g.1 vwCl (va_pl L f_220) H → va_D A (va_pl L f_220) → va_S A s.heap H locs → TI g ad (gset (gset (gset (gset (gset (gset (gset th 37 zg220_za) 40 zg220_zr) 41 zg220_zl) 42 zg220_ze) 35 zg220_zt) 30 zg220_zs) 34 zg220_zf) f_220 → (∀ b, b ≠ (ad 255) → b ≠ (ad 257) → f_220 b = f b) → lv_has ls 2 [(0, .ref (ad 255)), (1, .int r130)] → W p l e rm_X11_readsCouncil s m [.ref (ad 255)].toArray below meth c H locs 0 0 (MQ below (va_Qi (po_X11_readsCouncil g ad th L f ) (PstB g A) A) [.ref (ad 255)].toArray s rm_X11_readsCouncil.cells rm_X11_readsCouncil.slots A) (F0 m 220 ls []) := by
                              intro zg220_za zg220_zr zg220_zl zg220_ze zg220_zt zg220_zs zg220_zf f_220 H locs ls hzg220 hP hD hS hT hfr hl
                              refine lv_aload_n hx hb dX11_readsCouncil_220 rfl (lv_at hl 0 rfl) ?_
                              obtain ⟨v0_169, v2_169, v3_169, v4_169, v5_169, v6_169, v8_169, v9_169, v12_169, v13_169, v14_169, v15_169, v16_169, v17_169, v18_169, v19_169, v20_169, v21_169, v22_169, v23_169, v25_169, v36_169, v37_169, v38_169, v39_169, v40_169, v45_169, v46_169, v47_169, v48_169, v50_169, v51_169, v53_169, v55_169, hf170, hv0_169, hv2_169, hg2_169, hv3_169, hg3_169, hv4_169, hg4_169, hv5_169, hg5_169, hv6_169, hg6_169, hv8_169, hv9_169, hg9_169, hv12_169, hv13_169, hg13_169, hv14_169, hg14_169, hv15_169, hg15_169, hv17_169, hg17_169, hv20_169, hg20_169, hv23_169, hg23_169, hv25_169, hv36_169, hg36_169, hv47_169, hg47_169, hv48_169, hg48_169, hv53_169, hg53_169, hv55_169, hg55_169, hrel0_169⟩ := hT.2.2 0 (by decide)
                              have hg2_169 : v2_169.toInt = th 13 := hg2_169
                              have hg3_169 : v3_169.toInt = zg220_za := hg3_169
                              have hg4_169 : v4_169.toInt = zg220_ze := hg4_169
                              have hg5_169 : v5_169.toInt = zg220_zr := hg5_169
                              have hg6_169 : v6_169.toInt = zg220_zl := hg6_169
                              have hg9_169 : v9_169.toInt = zg220_zt := hg9_169
                              have hg13_169 : v13_169.toInt = th 36 := hg13_169
                              have hg14_169 : v14_169.toInt = th 10 := hg14_169
                              have hg15_169 : v15_169.toInt = th 11 := hg15_169
                              have hg17_169 : v17_169.toInt = th 12 := hg17_169
                              have hg20_169 : v20_169.toInt = th 14 := hg20_169
                              have hg23_169 : v23_169.toInt = th 15 := hg23_169
                              have hg36_169 : v36_169.toInt = th 18 := hg36_169
                              have hg47_169 : v47_169.toInt = th 16 := hg47_169
                              have hg48_169 : v48_169.toInt = th 17 := hg48_169
                              have hg53_169 : v53_169.toInt = th 38 := hg53_169
                              have hg55_169 : v55_169.toInt = th 39 := hg55_169
                              refine pl_get (v := .int v4_169) hx hb hts (fun w h => mT (inX11 w h)) hown hG.1 hP (hst.1 255 (by decide)) hf170 rfl 4 (by decide) (hts _ (mT wg_1340)) (fun _ h => h) rfl dX11_readsCouncil_221 ?_
                              exact ret_i (ty := .int) hx hb hr hlocks (rfl) hP hD hS (Nat.le_of_ble_eq_true rfl) (Nat.le_of_ble_eq_true rfl) (⟨rfl, ⟨zg220_za, zg220_zr, zg220_zl, zg220_ze, zg220_zt, zg220_zs, zg220_zf, (show (v4_169.toInt ≠ -1 ∨ (zg220_zt % 2 = 1 ∧ DIp (zg220_zt) (zg220_zs) (zg220_zf))) from (Classical.em (v4_169.toInt = -1)).elim (fun q => Or.inr ⟨(by obtain ⟨o0a, o0b⟩ := (hv4_169 : In _ _ _); obtain ⟨o1a, o1b⟩ := (hv2_169 : In _ _ _); obtain ⟨o2a, o2b⟩ := (hv3_169 : In _ _ _); obtain ⟨o3a, o3b⟩ := (hv5_169 : In _ _ _); obtain ⟨o4a, o4b⟩ := (hv6_169 : In _ _ _); obtain ⟨o5a, o5b⟩ := (hv9_169 : In _ _ _); obtain ⟨o6a, o6b⟩ := (hv13_169 : In _ _ _); obtain ⟨o7a, o7b⟩ := (hv14_169 : In _ _ _); obtain ⟨o8a, o8b⟩ := (hv15_169 : In _ _ _); obtain ⟨o9a, o9b⟩ := (hv17_169 : In _ _ _); obtain ⟨o10a, o10b⟩ := (hv20_169 : In _ _ _); obtain ⟨o11a, o11b⟩ := (hv23_169 : In _ _ _); obtain ⟨o12a, o12b⟩ := (hv36_169 : In _ _ _); obtain ⟨o13a, o13b⟩ := (hv47_169 : In _ _ _); obtain ⟨o14a, o14b⟩ := (hv48_169 : In _ _ _); obtain ⟨o15a, o15b⟩ := (hv53_169 : In _ _ _); obtain ⟨o16a, o16b⟩ := (hv55_169 : In _ _ _); omega), hzg220.1.2⟩) Or.inl), TI.cast hT (by funext q; simp only [gset]; (repeat' split); all_goals first | rfl | omega | (subst_vars; rfl) | (exfalso; omega))⟩, hfr, hv4_169⟩) dX11_readsCouncil_224
                            refine lv_if_ne (tgt := 220) hx hb dX11_readsCouncil_203 (by decide) (fun c171 => ?_) (fun c171 => ?_)
                            ·
                              have oc0 : (0 : Int32).toInt = 0 := by decide
                              have cc172 : r163.toInt ≠ (0 : Int32).toInt := i32_ne c171
                              have hb173 : In r163 1 1 := In.ne1 eL167R (⟨by decide, by decide⟩ : In 0 0 0) cc172 (by omega) (by omega)
                              exact hJ220 zg195_za zg195_zr zg195_zl zg195_ze zg195_zt zg195_zs zg195_zf _ _ _ _ (⟨⟨(show 0 ≤ zg195_za ∧ zg195_za ≤ 500 from (by obtain ⟨o0a, o0b⟩ := (hv2_161 : In _ _ _); obtain ⟨o1a, o1b⟩ := (hv3_161 : In _ _ _); obtain ⟨o2a, o2b⟩ := (hv4_161 : In _ _ _); obtain ⟨o3a, o3b⟩ := (hv5_161 : In _ _ _); obtain ⟨o4a, o4b⟩ := (hv6_161 : In _ _ _); obtain ⟨o5a, o5b⟩ := (hv9_161 : In _ _ _); obtain ⟨o6a, o6b⟩ := (hv13_161 : In _ _ _); obtain ⟨o7a, o7b⟩ := (hv14_161 : In _ _ _); obtain ⟨o8a, o8b⟩ := (hv15_161 : In _ _ _); obtain ⟨o9a, o9b⟩ := (hv17_161 : In _ _ _); obtain ⟨o10a, o10b⟩ := (hv20_161 : In _ _ _); obtain ⟨o11a, o11b⟩ := (hv23_161 : In _ _ _); obtain ⟨o12a, o12b⟩ := (hv36_161 : In _ _ _); obtain ⟨o13a, o13b⟩ := (hv47_161 : In _ _ _); obtain ⟨o14a, o14b⟩ := (hv48_161 : In _ _ _); obtain ⟨o15a, o15b⟩ := (hv53_161 : In _ _ _); obtain ⟨o16a, o16b⟩ := (hv55_161 : In _ _ _); omega)), hzg195.1.2⟩, (show 0 ≤ zg195_ze ∨ zg195_zt % 2 = 1 from (by obtain ⟨o0a, o0b⟩ := (hv2_161 : In _ _ _); obtain ⟨o1a, o1b⟩ := (hv3_161 : In _ _ _); obtain ⟨o2a, o2b⟩ := (hv4_161 : In _ _ _); obtain ⟨o3a, o3b⟩ := (hv5_161 : In _ _ _); obtain ⟨o4a, o4b⟩ := (hv6_161 : In _ _ _); obtain ⟨o5a, o5b⟩ := (hv9_161 : In _ _ _); obtain ⟨o6a, o6b⟩ := (hv13_161 : In _ _ _); obtain ⟨o7a, o7b⟩ := (hv14_161 : In _ _ _); obtain ⟨o8a, o8b⟩ := (hv15_161 : In _ _ _); obtain ⟨o9a, o9b⟩ := (hv17_161 : In _ _ _); obtain ⟨o10a, o10b⟩ := (hv20_161 : In _ _ _); obtain ⟨o11a, o11b⟩ := (hv23_161 : In _ _ _); obtain ⟨o12a, o12b⟩ := (hv36_161 : In _ _ _); obtain ⟨o13a, o13b⟩ := (hv47_161 : In _ _ _); obtain ⟨o14a, o14b⟩ := (hv48_161 : In _ _ _); obtain ⟨o15a, o15b⟩ := (hv53_161 : In _ _ _); obtain ⟨o16a, o16b⟩ := (hv55_161 : In _ _ _); omega))⟩) hP hD hS (TI.cast hT (by funext q; simp only [gset]; (repeat' split); all_goals first | rfl | omega | (subst_vars; rfl) | (exfalso; omega))) hfr (lv_sub hl [0, 1] rfl)
                            ·
                              have oc0 : (0 : Int32).toInt = 0 := by decide
                              have cc174 : r163.toInt = (0 : Int32).toInt := congrArg Int32.toInt c171
                              have hb175 : In r163 0 0 := In.eq1 eL167R (⟨by decide, by decide⟩ : In 0 0 0) cc174 (by omega) (by omega)
                              refine lv_aload_n hx hb dX11_readsCouncil_206 rfl (lv_at hl 0 rfl) ?_
                              refine pl_get (v := .ref (ad 257)) hx hb hts (fun w h => mT (inX11 w h)) hown hG.1 hP (hst.1 255 (by decide)) hf162 rfl 7 (by decide) (hts _ (mT wg_1343)) (fun _ h => h) rfl dX11_readsCouncil_207 ?_
                              refine lv_iconst (v := 2) hx hb dX11_readsCouncil_210 (by decide) ?_
                              refine lv_aload_n hx hb dX11_readsCouncil_211 rfl (lv_at hl 0 rfl) ?_
                              refine pl_get (v := .ref (ad 257)) hx hb hts (fun w h => mT (inX11 w h)) hown hG.1 hP (hst.1 255 (by decide)) hf162 rfl 7 (by decide) (hts _ (mT wg_1343)) (fun _ h => h) rfl dX11_readsCouncil_212 ?_
                              refine lv_iconst (v := 1) hx hb dX11_readsCouncil_215 (by decide) ?_
                              obtain ⟨rw176, hf177, hpn178, hpg179, hpn180, hpn181, hpn182, hpg183⟩ := hT.2.2 2 (by decide)
                              have hin184 : vp_in 1 6 := In.inb (⟨by decide, by decide⟩ : In 1 1 1) (by decide) (by decide)
                              refine pl_iald hx hb hG.1 hP (hst.1 257 (by decide)) 0 hf177 rfl hin184 dX11_readsCouncil_216 ?_
                              refine lv_topi (fun x185 ex185 => ?_)
                              have hb186 : In x185 0 4 := by rw [ex185]; exact pinI (k := 1) (by decide) hpn180
                              refine lv_iconst (v := 1) hx hb dX11_readsCouncil_217 (by decide) ?_
                              refine lv_iadd hx hb dX11_readsCouncil_218 ?_
                              refine lv_topi (fun x187 ex187 => ?_)
                              have hb188 : In x187 1 5 := ex187 ▸ In.add hb186 (⟨by decide, by decide⟩ : In 1 1 1) (by decide) (by decide) (by decide) (by decide)
                              have et189 : x187.toInt = x185.toInt + 1 := In.adde ex187 hb186 (k := 1) (by decide) (by decide) (by decide)
                              refine pl_iastE hx hb hG.1 hP hD hS (hst.1 257 (by decide)) 0 hf177 rfl (In.inb (⟨by decide, by decide⟩ : In 2 2 2) (by decide) (by decide)) dX11_readsCouncil_219 (fun H locs f190 r193 er193 hf191 ho192 hP hD hS => ?_)
                              have hpn194 : In (r193 0) 0 9 := (upd_neI (k := 0) er193 (by decide)) ▸ hpn178
                              have hpg195 := (congrArg Int32.toInt (upd_neI (k := 0) er193 (by decide))).trans hpg179
                              have hpn196 : In (r193 1) 0 4 := (upd_neI (k := 1) er193 (by decide)) ▸ hpn180
                              have hpn197 : In (r193 2) 0 6 := (upd_eqI (k := 2) er193 (by decide)) ▸ (In.mono hb188 (by decide) (by decide))
                              have hpn198 : In (r193 4) 0 511 := (upd_neI (k := 4) er193 (by decide)) ▸ hpn182
                              have hpg199 := (congrArg Int32.toInt (upd_neI (k := 4) er193 (by decide))).trans hpg183
                              have hf200 := (ho192 (ad 255) (hst.ne (by decide) (by decide) (by decide))).trans hf162
                              have hfr : (∀ b, b ≠ (ad 255) → b ≠ (ad 257) → f190 b = f b) := fun b z0_ z1_ => (ho192 b z1_).trans (hfr b z0_ z1_)
                              have hT := TI.updM hT hst (k := 2) (by decide) hf191 ho192 ⟨r193, rfl, hpn194, (hpg195.trans rfl), hpn196, hpn197, hpn198, (hpg199.trans rfl)⟩
                              exact hJ220 zg195_za zg195_zr zg195_zl zg195_ze zg195_zt zg195_zs zg195_zf _ _ _ _ (⟨⟨(show 0 ≤ zg195_za ∧ zg195_za ≤ 500 from (by obtain ⟨o0a, o0b⟩ := (hv2_161 : In _ _ _); obtain ⟨o1a, o1b⟩ := (hv3_161 : In _ _ _); obtain ⟨o2a, o2b⟩ := (hv4_161 : In _ _ _); obtain ⟨o3a, o3b⟩ := (hv5_161 : In _ _ _); obtain ⟨o4a, o4b⟩ := (hv6_161 : In _ _ _); obtain ⟨o5a, o5b⟩ := (hv9_161 : In _ _ _); obtain ⟨o6a, o6b⟩ := (hv13_161 : In _ _ _); obtain ⟨o7a, o7b⟩ := (hv14_161 : In _ _ _); obtain ⟨o8a, o8b⟩ := (hv15_161 : In _ _ _); obtain ⟨o9a, o9b⟩ := (hv17_161 : In _ _ _); obtain ⟨o10a, o10b⟩ := (hv20_161 : In _ _ _); obtain ⟨o11a, o11b⟩ := (hv23_161 : In _ _ _); obtain ⟨o12a, o12b⟩ := (hv36_161 : In _ _ _); obtain ⟨o13a, o13b⟩ := (hv47_161 : In _ _ _); obtain ⟨o14a, o14b⟩ := (hv48_161 : In _ _ _); obtain ⟨o15a, o15b⟩ := (hv53_161 : In _ _ _); obtain ⟨o16a, o16b⟩ := (hv55_161 : In _ _ _); omega)), hzg195.1.2⟩, (show 0 ≤ zg195_ze ∨ zg195_zt % 2 = 1 from (by obtain ⟨o0a, o0b⟩ := (hv2_161 : In _ _ _); obtain ⟨o1a, o1b⟩ := (hv3_161 : In _ _ _); obtain ⟨o2a, o2b⟩ := (hv4_161 : In _ _ _); obtain ⟨o3a, o3b⟩ := (hv5_161 : In _ _ _); obtain ⟨o4a, o4b⟩ := (hv6_161 : In _ _ _); obtain ⟨o5a, o5b⟩ := (hv9_161 : In _ _ _); obtain ⟨o6a, o6b⟩ := (hv13_161 : In _ _ _); obtain ⟨o7a, o7b⟩ := (hv14_161 : In _ _ _); obtain ⟨o8a, o8b⟩ := (hv15_161 : In _ _ _); obtain ⟨o9a, o9b⟩ := (hv17_161 : In _ _ _); obtain ⟨o10a, o10b⟩ := (hv20_161 : In _ _ _); obtain ⟨o11a, o11b⟩ := (hv23_161 : In _ _ _); obtain ⟨o12a, o12b⟩ := (hv36_161 : In _ _ _); obtain ⟨o13a, o13b⟩ := (hv47_161 : In _ _ _); obtain ⟨o14a, o14b⟩ := (hv48_161 : In _ _ _); obtain ⟨o15a, o15b⟩ := (hv53_161 : In _ _ _); obtain ⟨o16a, o16b⟩ := (hv55_161 : In _ _ _); omega))⟩) hP hD hS (TI.cast hT (by funext q; simp only [gset]; (repeat' split); all_goals first | rfl | omega | (subst_vars; rfl) | (exfalso; omega))) hfr (lv_sub hl [0, 1] rfl)
                          refine lv_if_ne (tgt := 195) hx hb dX11_readsCouncil_165 (by decide) (fun c201 => ?_) (fun c201 => ?_)
                          ·
                            have oc0 : (0 : Int32).toInt = 0 := by decide
                            have cc202 : r155.toInt ≠ (0 : Int32).toInt := i32_ne c201
                            have hb203 : In r155 1 1 := In.ne1 eL159R (⟨by decide, by decide⟩ : In 0 0 0) cc202 (by omega) (by omega)
                            exact hJ195 zg157_za zg157_zr zg157_zl zg157_ze zg157_zt zg157_zs zg157_zf _ _ _ _ (⟨⟨(show 0 ≤ zg157_za ∧ zg157_za ≤ 500 from (by obtain ⟨o0a, o0b⟩ := (hv2_153 : In _ _ _); obtain ⟨o1a, o1b⟩ := (hv3_153 : In _ _ _); obtain ⟨o2a, o2b⟩ := (hv4_153 : In _ _ _); obtain ⟨o3a, o3b⟩ := (hv5_153 : In _ _ _); obtain ⟨o4a, o4b⟩ := (hv6_153 : In _ _ _); obtain ⟨o5a, o5b⟩ := (hv9_153 : In _ _ _); obtain ⟨o6a, o6b⟩ := (hv13_153 : In _ _ _); obtain ⟨o7a, o7b⟩ := (hv14_153 : In _ _ _); obtain ⟨o8a, o8b⟩ := (hv15_153 : In _ _ _); obtain ⟨o9a, o9b⟩ := (hv17_153 : In _ _ _); obtain ⟨o10a, o10b⟩ := (hv20_153 : In _ _ _); obtain ⟨o11a, o11b⟩ := (hv23_153 : In _ _ _); obtain ⟨o12a, o12b⟩ := (hv36_153 : In _ _ _); obtain ⟨o13a, o13b⟩ := (hv47_153 : In _ _ _); obtain ⟨o14a, o14b⟩ := (hv48_153 : In _ _ _); obtain ⟨o15a, o15b⟩ := (hv53_153 : In _ _ _); obtain ⟨o16a, o16b⟩ := (hv55_153 : In _ _ _); omega)), hzg157.1.2⟩, (show 0 ≤ zg157_ze ∨ zg157_zt % 2 = 1 from (by obtain ⟨o0a, o0b⟩ := (hv2_153 : In _ _ _); obtain ⟨o1a, o1b⟩ := (hv3_153 : In _ _ _); obtain ⟨o2a, o2b⟩ := (hv4_153 : In _ _ _); obtain ⟨o3a, o3b⟩ := (hv5_153 : In _ _ _); obtain ⟨o4a, o4b⟩ := (hv6_153 : In _ _ _); obtain ⟨o5a, o5b⟩ := (hv9_153 : In _ _ _); obtain ⟨o6a, o6b⟩ := (hv13_153 : In _ _ _); obtain ⟨o7a, o7b⟩ := (hv14_153 : In _ _ _); obtain ⟨o8a, o8b⟩ := (hv15_153 : In _ _ _); obtain ⟨o9a, o9b⟩ := (hv17_153 : In _ _ _); obtain ⟨o10a, o10b⟩ := (hv20_153 : In _ _ _); obtain ⟨o11a, o11b⟩ := (hv23_153 : In _ _ _); obtain ⟨o12a, o12b⟩ := (hv36_153 : In _ _ _); obtain ⟨o13a, o13b⟩ := (hv47_153 : In _ _ _); obtain ⟨o14a, o14b⟩ := (hv48_153 : In _ _ _); obtain ⟨o15a, o15b⟩ := (hv53_153 : In _ _ _); obtain ⟨o16a, o16b⟩ := (hv55_153 : In _ _ _); omega))⟩) hP hD hS (TI.cast hT (by funext q; simp only [gset]; (repeat' split); all_goals first | rfl | omega | (subst_vars; rfl) | (exfalso; omega))) hfr (lv_sub hl [0, 1] rfl)
                          ·
                            have oc0 : (0 : Int32).toInt = 0 := by decide
                            have cc204 : r155.toInt = (0 : Int32).toInt := congrArg Int32.toInt c201
                            have hb205 : In r155 0 0 := In.eq1 eL159R (⟨by decide, by decide⟩ : In 0 0 0) cc204 (by omega) (by omega)
                            refine lv_aload_n hx hb dX11_readsCouncil_168 rfl (lv_at hl 0 rfl) ?_
                            refine pl_get (v := .ref (ad 257)) hx hb hts (fun w h => mT (inX11 w h)) hown hG.1 hP (hst.1 255 (by decide)) hf154 rfl 7 (by decide) (hts _ (mT wg_1343)) (fun _ h => h) rfl dX11_readsCouncil_169 ?_
                            refine lv_iconst (v := 1) hx hb dX11_readsCouncil_172 (by decide) ?_
                            refine lv_aload_n hx hb dX11_readsCouncil_173 rfl (lv_at hl 0 rfl) ?_
                            refine pl_get (v := .ref (ad 257)) hx hb hts (fun w h => mT (inX11 w h)) hown hG.1 hP (hst.1 255 (by decide)) hf154 rfl 7 (by decide) (hts _ (mT wg_1343)) (fun _ h => h) rfl dX11_readsCouncil_174 ?_
                            refine lv_iconst (v := 0) hx hb dX11_readsCouncil_177 (by decide) ?_
                            obtain ⟨rw206, hf207, hpn208, hpg209, hpn210, hpn211, hpn212, hpg213⟩ := hT.2.2 2 (by decide)
                            have hin214 : vp_in 0 6 := In.inb (⟨by decide, by decide⟩ : In 0 0 0) (by decide) (by decide)
                            refine pl_iald hx hb hG.1 hP (hst.1 257 (by decide)) 0 hf207 rfl hin214 dX11_readsCouncil_178 ?_
                            refine lv_topi (fun x215 ex215 => ?_)
                            have hb216 : In x215 0 9 := by rw [ex215]; exact pinI (k := 0) (by decide) hpn208
                            have hgl217 : x215.toInt = zg157_zs := by rw [ex215]; exact pinE (k := 0) (by decide) hpg209
                            refine lv_iconst (v := 1) hx hb dX11_readsCouncil_179 (by decide) ?_
                            refine lv_isub hx hb dX11_readsCouncil_180 ?_
                            refine lv_topi (fun x218 ex218 => ?_)
                            have hb219 : In x218 (-1) 8 := ex218 ▸ In.sub hb216 (⟨by decide, by decide⟩ : In 1 1 1) (by decide) (by decide) (by decide) (by decide)
                            have et220 : x218.toInt = x215.toInt + (-1) := In.sube ex218 hb216 (k := 1) (by decide) (by decide) (by decide)
                            refine lv_aload_n hx hb dX11_readsCouncil_181 rfl (lv_at hl 0 rfl) ?_
                            refine pl_get (v := .int v8_153) hx hb hts (fun w h => mT (inX11 w h)) hown hG.1 hP (hst.1 255 (by decide)) hf154 rfl 8 (by decide) (hts _ (mT wg_1344)) (fun _ h => h) rfl dX11_readsCouncil_182 ?_
                            have hJ193 : ∀ (y193_s0 : Int32) (H : Heap) (locs : List Loc) (ls : Array Slot), In y193_s0 3 4 → va_P g.1 vwCl (va_pl L f_157) H → va_D A (va_pl L f_157) → va_S A s.heap H locs → lv_has ls 2 [(0, .ref (ad 255)), (1, .int r130)] → W p l e rm_X11_readsCouncil s m [.ref (ad 255)].toArray below meth c H locs 0 0 (MQ below (va_Qi (po_X11_readsCouncil g ad th L f ) (PstB g A) A) [.ref (ad 255)].toArray s rm_X11_readsCouncil.cells rm_X11_readsCouncil.slots A) (F0 m 193 ls [.int y193_s0, .int x218, .int 1, .ref (ad 257)]) := by
                              intro y193_s0 H locs ls hy193_s0 hP hD hS hl
                              refine lv_idiv hx hb dX11_readsCouncil_193 (In.ne0 hy193_s0 (by decide)) ?_
                              refine lv_topi (fun x221 ex221 => ?_)
                              have hb222 : In x221 0 2 := ex221 ▸ In.divs2 hb219 hy193_s0 (by decide) (by decide) (by decide)
                              refine pl_iastE hx hb hG.1 hP hD hS (hst.1 257 (by decide)) 0 hf207 rfl (In.inb (⟨by decide, by decide⟩ : In 1 1 1) (by decide) (by decide)) dX11_readsCouncil_194 (fun H locs f223 r226 er226 hf224 ho225 hP hD hS => ?_)
                              have hpn227 : In (r226 0) 0 9 := (upd_neI (k := 0) er226 (by decide)) ▸ hpn208
                              have hpg228 := (congrArg Int32.toInt (upd_neI (k := 0) er226 (by decide))).trans hpg209
                              have hpn229 : In (r226 1) 0 4 := (upd_eqI (k := 1) er226 (by decide)) ▸ (In.mono hb222 (by decide) (by decide))
                              have hpn230 : In (r226 2) 0 6 := (upd_neI (k := 2) er226 (by decide)) ▸ hpn211
                              have hpn231 : In (r226 4) 0 511 := (upd_neI (k := 4) er226 (by decide)) ▸ hpn212
                              have hpg232 := (congrArg Int32.toInt (upd_neI (k := 4) er226 (by decide))).trans hpg213
                              have hf233 := (ho225 (ad 255) (hst.ne (by decide) (by decide) (by decide))).trans hf154
                              have hfr : (∀ b, b ≠ (ad 255) → b ≠ (ad 257) → f223 b = f b) := fun b z0_ z1_ => (ho225 b z1_).trans (hfr b z0_ z1_)
                              have hT := TI.updM hT hst (k := 2) (by decide) hf224 ho225 ⟨r226, rfl, hpn227, (hpg228.trans rfl), hpn229, hpn230, hpn231, (hpg232.trans rfl)⟩
                              exact hJ195 zg157_za zg157_zr zg157_zl zg157_ze zg157_zt zg157_zs zg157_zf _ _ _ _ (⟨⟨(show 0 ≤ zg157_za ∧ zg157_za ≤ 500 from (by obtain ⟨o0a, o0b⟩ := (hv2_153 : In _ _ _); obtain ⟨o1a, o1b⟩ := (hv3_153 : In _ _ _); obtain ⟨o2a, o2b⟩ := (hv4_153 : In _ _ _); obtain ⟨o3a, o3b⟩ := (hv5_153 : In _ _ _); obtain ⟨o4a, o4b⟩ := (hv6_153 : In _ _ _); obtain ⟨o5a, o5b⟩ := (hv9_153 : In _ _ _); obtain ⟨o6a, o6b⟩ := (hv13_153 : In _ _ _); obtain ⟨o7a, o7b⟩ := (hv14_153 : In _ _ _); obtain ⟨o8a, o8b⟩ := (hv15_153 : In _ _ _); obtain ⟨o9a, o9b⟩ := (hv17_153 : In _ _ _); obtain ⟨o10a, o10b⟩ := (hv20_153 : In _ _ _); obtain ⟨o11a, o11b⟩ := (hv23_153 : In _ _ _); obtain ⟨o12a, o12b⟩ := (hv36_153 : In _ _ _); obtain ⟨o13a, o13b⟩ := (hv47_153 : In _ _ _); obtain ⟨o14a, o14b⟩ := (hv48_153 : In _ _ _); obtain ⟨o15a, o15b⟩ := (hv53_153 : In _ _ _); obtain ⟨o16a, o16b⟩ := (hv55_153 : In _ _ _); omega)), hzg157.1.2⟩, (show 0 ≤ zg157_ze ∨ zg157_zt % 2 = 1 from (by obtain ⟨o0a, o0b⟩ := (hv2_153 : In _ _ _); obtain ⟨o1a, o1b⟩ := (hv3_153 : In _ _ _); obtain ⟨o2a, o2b⟩ := (hv4_153 : In _ _ _); obtain ⟨o3a, o3b⟩ := (hv5_153 : In _ _ _); obtain ⟨o4a, o4b⟩ := (hv6_153 : In _ _ _); obtain ⟨o5a, o5b⟩ := (hv9_153 : In _ _ _); obtain ⟨o6a, o6b⟩ := (hv13_153 : In _ _ _); obtain ⟨o7a, o7b⟩ := (hv14_153 : In _ _ _); obtain ⟨o8a, o8b⟩ := (hv15_153 : In _ _ _); obtain ⟨o9a, o9b⟩ := (hv17_153 : In _ _ _); obtain ⟨o10a, o10b⟩ := (hv20_153 : In _ _ _); obtain ⟨o11a, o11b⟩ := (hv23_153 : In _ _ _); obtain ⟨o12a, o12b⟩ := (hv36_153 : In _ _ _); obtain ⟨o13a, o13b⟩ := (hv47_153 : In _ _ _); obtain ⟨o14a, o14b⟩ := (hv48_153 : In _ _ _); obtain ⟨o15a, o15b⟩ := (hv53_153 : In _ _ _); obtain ⟨o16a, o16b⟩ := (hv55_153 : In _ _ _); omega))⟩) hP hD hS (TI.cast hT (by funext q; simp only [gset]; (repeat' split); all_goals first | rfl | omega | (subst_vars; rfl) | (exfalso; omega))) hfr (lv_sub hl [0, 1] rfl)
                            refine lv_if_ne (tgt := 192) hx hb dX11_readsCouncil_185 (by decide) (fun c234 => ?_) (fun c234 => ?_)
                            ·
                              have oc0 : (0 : Int32).toInt = 0 := by decide
                              have cc235 : v8_153.toInt ≠ (0 : Int32).toInt := i32_ne c234
                              refine lv_iconst (v := 4) hx hb dX11_readsCouncil_192 (by decide) ?_
                              exact hJ193 4 _ _ _ (⟨by decide, by decide⟩ : In 4 3 4) hP hD hS (lv_sub hl [0, 1] rfl)
                            ·
                              have oc0 : (0 : Int32).toInt = 0 := by decide
                              have cc236 : v8_153.toInt = (0 : Int32).toInt := congrArg Int32.toInt c234
                              have hb237 : In v8_153 0 0 := In.eq1 hv8_153 (⟨by decide, by decide⟩ : In 0 0 0) cc236 (by omega) (by omega)
                              refine lv_iconst (v := 3) hx hb dX11_readsCouncil_188 (by decide) ?_
                              refine lv_goto (tgt := 193) hx hb dX11_readsCouncil_189 (by decide) ?_
                              exact hJ193 3 _ _ _ (⟨by decide, by decide⟩ : In 3 3 4) hP hD hS (lv_sub hl [0, 1] rfl)
                        refine lv_icmp_ne (tgt := 157) hx hb dX11_readsCouncil_127 (by decide) (fun c238 => ?_) (fun c238 => ?_)
                        ·
                          have ocm1 : ((-1) : Int32).toInt = (-1) := by decide
                          have cc239 : v4_151.toInt ≠ ((-1) : Int32).toInt := i32_ne c238
                          have hb240 : In v4_151 0 500 := In.ne1 hv4_151 (⟨by decide, by decide⟩ : In (-1) (-1) (-1)) cc239 (by omega) (by omega)
                          exact hJ157 zg122_za zg122_zr zg122_zl zg122_ze zg122_zt zg122_zs zg122_zf _ _ _ _ (⟨⟨(show 0 ≤ zg122_za ∧ zg122_za ≤ 500 from (by obtain ⟨o0a, o0b⟩ := (hv2_151 : In _ _ _); obtain ⟨o1a, o1b⟩ := (hv3_151 : In _ _ _); obtain ⟨o2a, o2b⟩ := (hb240 : In _ _ _); obtain ⟨o3a, o3b⟩ := (hv5_151 : In _ _ _); obtain ⟨o4a, o4b⟩ := (hv6_151 : In _ _ _); obtain ⟨o5a, o5b⟩ := (hv9_151 : In _ _ _); obtain ⟨o6a, o6b⟩ := (hv13_151 : In _ _ _); obtain ⟨o7a, o7b⟩ := (hv14_151 : In _ _ _); obtain ⟨o8a, o8b⟩ := (hv15_151 : In _ _ _); obtain ⟨o9a, o9b⟩ := (hv17_151 : In _ _ _); obtain ⟨o10a, o10b⟩ := (hv20_151 : In _ _ _); obtain ⟨o11a, o11b⟩ := (hv23_151 : In _ _ _); obtain ⟨o12a, o12b⟩ := (hv36_151 : In _ _ _); obtain ⟨o13a, o13b⟩ := (hv47_151 : In _ _ _); obtain ⟨o14a, o14b⟩ := (hv48_151 : In _ _ _); obtain ⟨o15a, o15b⟩ := (hv53_151 : In _ _ _); obtain ⟨o16a, o16b⟩ := (hv55_151 : In _ _ _); omega)), hzg122.2⟩, (show 0 ≤ zg122_ze ∨ zg122_zt % 2 = 1 from (by obtain ⟨o0a, o0b⟩ := (hv2_151 : In _ _ _); obtain ⟨o1a, o1b⟩ := (hv3_151 : In _ _ _); obtain ⟨o2a, o2b⟩ := (hb240 : In _ _ _); obtain ⟨o3a, o3b⟩ := (hv5_151 : In _ _ _); obtain ⟨o4a, o4b⟩ := (hv6_151 : In _ _ _); obtain ⟨o5a, o5b⟩ := (hv9_151 : In _ _ _); obtain ⟨o6a, o6b⟩ := (hv13_151 : In _ _ _); obtain ⟨o7a, o7b⟩ := (hv14_151 : In _ _ _); obtain ⟨o8a, o8b⟩ := (hv15_151 : In _ _ _); obtain ⟨o9a, o9b⟩ := (hv17_151 : In _ _ _); obtain ⟨o10a, o10b⟩ := (hv20_151 : In _ _ _); obtain ⟨o11a, o11b⟩ := (hv23_151 : In _ _ _); obtain ⟨o12a, o12b⟩ := (hv36_151 : In _ _ _); obtain ⟨o13a, o13b⟩ := (hv47_151 : In _ _ _); obtain ⟨o14a, o14b⟩ := (hv48_151 : In _ _ _); obtain ⟨o15a, o15b⟩ := (hv53_151 : In _ _ _); obtain ⟨o16a, o16b⟩ := (hv55_151 : In _ _ _); omega))⟩) hP hD hS (TI.cast hT (by funext q; simp only [gset]; (repeat' split); all_goals first | rfl | omega | (subst_vars; rfl) | (exfalso; omega))) hfr (lv_sub hl [0, 1] rfl)
                        ·
                          have ocm1 : ((-1) : Int32).toInt = (-1) := by decide
                          have cc241 : v4_151.toInt = ((-1) : Int32).toInt := congrArg Int32.toInt c238
                          have hb242 : In v4_151 (-1) (-1) := In.eq1 hv4_151 (⟨by decide, by decide⟩ : In (-1) (-1) (-1)) cc241 (by omega) (by omega)
                          refine lv_aload_n hx hb dX11_readsCouncil_130 rfl (lv_at hl 0 rfl) ?_
                          refine call_i (run_V (rm := rm_X11_look) hx hb hml hown hts (s_X11_look l g ad (gset (gset (gset (gset (gset (gset (gset th 37 zg122_za) 40 zg122_zr) 41 zg122_zl) 42 zg122_ze) 35 zg122_zt) 30 zg122_zs) 34 zg122_zf) _ _ _  hst hT ) cV_X11_look wg_1529 ⟨Nat.le_of_ble_eq_true rfl, Nat.le_of_ble_eq_true rfl⟩ hG hE hA hP hD hS (hst.1 255 (by decide)) hf152 rfl rfl hl.1 (As := []) (rest := []) rfl (Nat.le_of_ble_eq_true rfl) dX11_readsCouncil_131 ⟨Nat.le_of_ble_eq_true rfl, Nat.le_of_ble_eq_true rfl⟩) hA hD hS (fun r243 L244 f245 H locs hp246 hP hD hS => ?_)
                          obtain ⟨eL247L, eL247T, eL247F, eL247R⟩ := hp246
                          have eL247L : L244 = L := eL247L
                          rw [eL247L] at hP hD
                          obtain ⟨zz248, hzz248, eL247T⟩ := eL247T
                          have hT : TI g ad (gset (gset (gset (gset (gset (gset (gset (gset th 37 zg122_za) 40 zg122_zr) 41 zg122_zl) 42 zg122_ze) 35 zg122_zt) 30 zg122_zs) 34 zg122_zf) 37 zz248) f245 := eL247T
                          have hT : TI g ad (gset (gset (gset (gset (gset (gset (gset th 40 zg122_zr) 41 zg122_zl) 42 zg122_ze) 35 zg122_zt) 30 zg122_zs) 34 zg122_zf) 37 zz248) f245 := TI.cast hT (by funext q; simp only [gset]; (repeat' split); all_goals first | rfl | omega | (subst_vars; rfl) | (exfalso; omega))
                          have eL247F : ∀ b, b ≠ (ad 255) → f245 b = f_122 b := eL247F
                          have hfr : (∀ b, b ≠ (ad 255) → b ≠ (ad 257) → f245 b = f b) := fun b z0_ z1_ => (eL247F b z0_).trans (hfr b z0_ z1_)
                          have eL247R : In r243 (-1) 255 := eL247R
                          refine lv_iconst (v := (-1)) hx hb dX11_readsCouncil_134 (by decide) ?_
                          have hJ149 : ∀ (H : Heap) (locs : List Loc) (ls : Array Slot), va_P g.1 vwCl (va_pl L f245) H → va_D A (va_pl L f245) → va_S A s.heap H locs → lv_has ls 2 [(0, .ref (ad 255)), (1, .int r130)] → W p l e rm_X11_readsCouncil s m [.ref (ad 255)].toArray below meth c H locs 0 0 (MQ below (va_Qi (po_X11_readsCouncil g ad th L f ) (PstB g A) A) [.ref (ad 255)].toArray s rm_X11_readsCouncil.cells rm_X11_readsCouncil.slots A) (F0 m 149 ls []) := by
                            intro H locs ls hP hD hS hl
                            refine lv_aload_n hx hb dX11_readsCouncil_149 rfl (lv_at hl 0 rfl) ?_
                            refine lv_aload_n hx hb dX11_readsCouncil_150 rfl (lv_at hl 0 rfl) ?_
                            obtain ⟨v0_249, v2_249, v3_249, v4_249, v5_249, v6_249, v8_249, v9_249, v12_249, v13_249, v14_249, v15_249, v16_249, v17_249, v18_249, v19_249, v20_249, v21_249, v22_249, v23_249, v25_249, v36_249, v37_249, v38_249, v39_249, v40_249, v45_249, v46_249, v47_249, v48_249, v50_249, v51_249, v53_249, v55_249, hf250, hv0_249, hv2_249, hg2_249, hv3_249, hg3_249, hv4_249, hg4_249, hv5_249, hg5_249, hv6_249, hg6_249, hv8_249, hv9_249, hg9_249, hv12_249, hv13_249, hg13_249, hv14_249, hg14_249, hv15_249, hg15_249, hv17_249, hg17_249, hv20_249, hg20_249, hv23_249, hg23_249, hv25_249, hv36_249, hg36_249, hv47_249, hg47_249, hv48_249, hg48_249, hv53_249, hg53_249, hv55_249, hg55_249, hrel0_249⟩ := hT.2.2 0 (by decide)
                            have hg2_249 : v2_249.toInt = th 13 := hg2_249
                            have hg3_249 : v3_249.toInt = zz248 := hg3_249
                            have hg4_249 : v4_249.toInt = zg122_ze := hg4_249
                            have hg5_249 : v5_249.toInt = zg122_zr := hg5_249
                            have hg6_249 : v6_249.toInt = zg122_zl := hg6_249
                            have hg9_249 : v9_249.toInt = zg122_zt := hg9_249
                            have hg13_249 : v13_249.toInt = th 36 := hg13_249
                            have hg14_249 : v14_249.toInt = th 10 := hg14_249
                            have hg15_249 : v15_249.toInt = th 11 := hg15_249
                            have hg17_249 : v17_249.toInt = th 12 := hg17_249
                            have hg20_249 : v20_249.toInt = th 14 := hg20_249
                            have hg23_249 : v23_249.toInt = th 15 := hg23_249
                            have hg36_249 : v36_249.toInt = th 18 := hg36_249
                            have hg47_249 : v47_249.toInt = th 16 := hg47_249
                            have hg48_249 : v48_249.toInt = th 17 := hg48_249
                            have hg53_249 : v53_249.toInt = th 38 := hg53_249
                            have hg55_249 : v55_249.toInt = th 39 := hg55_249
                            refine pl_get (v := .int v3_249) hx hb hts (fun w h => mT (inX11 w h)) hown hG.1 hP (hst.1 255 (by decide)) hf250 rfl 3 (by decide) (hts _ (mT wg_1339)) (fun _ h => h) rfl dX11_readsCouncil_151 ?_
                            refine call_v (run_V (rm := rm_X11_fails) hx hb hml hown hts (s_X11_fails l g ad (gset (gset (gset (gset (gset (gset (gset th 40 zg122_zr) 41 zg122_zl) 42 zg122_ze) 35 zg122_zt) 30 zg122_zs) 34 zg122_zf) 37 zz248) _ _ _ v3_249 hst hT hv3_249) cV_X11_fails wg_1545 ⟨Nat.le_of_ble_eq_true rfl, Nat.le_of_ble_eq_true rfl⟩ hG hE hA hP hD hS (hst.1 255 (by decide)) hf250 rfl rfl hl.1 (As := [.int v3_249]) (rest := []) rfl (Nat.le_of_ble_eq_true rfl) dX11_readsCouncil_154 ⟨Nat.le_of_ble_eq_true rfl, Nat.le_of_ble_eq_true rfl⟩) hA hD hS (fun L252 f253 H locs hp254 hP hD hS => ?_)
                            obtain ⟨eL255L, eL255T, eL255F⟩ := hp254
                            have eL255L : L252 = L := eL255L
                            rw [eL255L] at hP hD
                            obtain ⟨zz256, hzz256, eL255T⟩ := eL255T
                            have hT : TI g ad (gset (gset (gset (gset (gset (gset (gset (gset th 40 zg122_zr) 41 zg122_zl) 42 zg122_ze) 35 zg122_zt) 30 zg122_zs) 34 zg122_zf) 37 zz248) 42 zz256) f253 := eL255T
                            have hT : TI g ad (gset (gset (gset (gset (gset (gset (gset th 40 zg122_zr) 41 zg122_zl) 35 zg122_zt) 30 zg122_zs) 34 zg122_zf) 37 zz248) 42 zz256) f253 := TI.cast hT (by funext q; simp only [gset]; (repeat' split); all_goals first | rfl | omega | (subst_vars; rfl) | (exfalso; omega))
                            have eL255F : ∀ b, b ≠ (ad 255) → f253 b = f245 b := eL255F
                            have hfr : (∀ b, b ≠ (ad 255) → b ≠ (ad 257) → f253 b = f b) := fun b z0_ z1_ => (eL255F b z0_).trans (hfr b z0_ z1_)
                            exact hJ157 zz248 zg122_zr zg122_zl zz256 zg122_zt zg122_zs zg122_zf _ _ _ _ (⟨⟨(show 0 ≤ zz248 ∧ zz248 ≤ 500 from (by omega)), hzg122.2⟩, (show 0 ≤ zz256 ∨ zg122_zt % 2 = 1 from (by omega))⟩) hP hD hS (TI.cast hT (by funext q; simp only [gset]; (repeat' split); all_goals first | rfl | omega | (subst_vars; rfl) | (exfalso; omega))) hfr (lv_sub hl [0, 1] rfl)
                          refine lv_icmp_ne (tgt := 149) hx hb dX11_readsCouncil_135 (by decide) (fun c257 => ?_) (fun c257 => ?_)
                          ·
                            have ocm1 : ((-1) : Int32).toInt = (-1) := by decide
                            have cc258 : r243.toInt ≠ ((-1) : Int32).toInt := i32_ne c257
                            have hb259 : In r243 0 255 := In.ne1 eL247R (⟨by decide, by decide⟩ : In (-1) (-1) (-1)) cc258 (by omega) (by omega)
                            exact hJ149 _ _ _ hP hD hS (lv_sub hl [0, 1] rfl)
                          ·
                            have ocm1 : ((-1) : Int32).toInt = (-1) := by decide
                            have cc260 : r243.toInt = ((-1) : Int32).toInt := congrArg Int32.toInt c257
                            have hb261 : In r243 (-1) (-1) := In.eq1 eL247R (⟨by decide, by decide⟩ : In (-1) (-1) (-1)) cc260 (by omega) (by omega)
                            refine lv_aload_n hx hb dX11_readsCouncil_138 rfl (lv_at hl 0 rfl) ?_
                            obtain ⟨v0_262, v2_262, v3_262, v4_262, v5_262, v6_262, v8_262, v9_262, v12_262, v13_262, v14_262, v15_262, v16_262, v17_262, v18_262, v19_262, v20_262, v21_262, v22_262, v23_262, v25_262, v36_262, v37_262, v38_262, v39_262, v40_262, v45_262, v46_262, v47_262, v48_262, v50_262, v51_262, v53_262, v55_262, hf263, hv0_262, hv2_262, hg2_262, hv3_262, hg3_262, hv4_262, hg4_262, hv5_262, hg5_262, hv6_262, hg6_262, hv8_262, hv9_262, hg9_262, hv12_262, hv13_262, hg13_262, hv14_262, hg14_262, hv15_262, hg15_262, hv17_262, hg17_262, hv20_262, hg20_262, hv23_262, hg23_262, hv25_262, hv36_262, hg36_262, hv47_262, hg47_262, hv48_262, hg48_262, hv53_262, hg53_262, hv55_262, hg55_262, hrel0_262⟩ := hT.2.2 0 (by decide)
                            have hg2_262 : v2_262.toInt = th 13 := hg2_262
                            have hg3_262 : v3_262.toInt = zz248 := hg3_262
                            have hg4_262 : v4_262.toInt = zg122_ze := hg4_262
                            have hg5_262 : v5_262.toInt = zg122_zr := hg5_262
                            have hg6_262 : v6_262.toInt = zg122_zl := hg6_262
                            have hg9_262 : v9_262.toInt = zg122_zt := hg9_262
                            have hg13_262 : v13_262.toInt = th 36 := hg13_262
                            have hg14_262 : v14_262.toInt = th 10 := hg14_262
                            have hg15_262 : v15_262.toInt = th 11 := hg15_262
                            have hg17_262 : v17_262.toInt = th 12 := hg17_262
                            have hg20_262 : v20_262.toInt = th 14 := hg20_262
                            have hg23_262 : v23_262.toInt = th 15 := hg23_262
                            have hg36_262 : v36_262.toInt = th 18 := hg36_262
                            have hg47_262 : v47_262.toInt = th 16 := hg47_262
                            have hg48_262 : v48_262.toInt = th 17 := hg48_262
                            have hg53_262 : v53_262.toInt = th 38 := hg53_262
                            have hg55_262 : v55_262.toInt = th 39 := hg55_262
                            refine pl_get (v := .int v9_262) hx hb hts (fun w h => mT (inX11 w h)) hown hG.1 hP (hst.1 255 (by decide)) hf263 rfl 9 (by decide) (hts _ (mT wg_1345)) (fun _ h => h) rfl dX11_readsCouncil_139 ?_
                            refine lv_iconst (v := 0) hx hb dX11_readsCouncil_142 (by decide) ?_
                            refine call_i (run_S (rm := rm_X11_has) hx hb hml hown hts (s_X11_has l g ad (gset (gset (gset (gset (gset (gset (gset th 40 zg122_zr) 41 zg122_zl) 42 zg122_ze) 35 zg122_zt) 30 zg122_zs) 34 zg122_zf) 37 zz248) _ _ _ v9_262 0 hst hT ) cS_X11_has wg_1563 ⟨Nat.le_of_ble_eq_true rfl, Nat.le_of_ble_eq_true rfl⟩ hG hE hA hP hD hS rfl hl.1 (As := [.int v9_262, .int 0]) (rest := []) rfl (Nat.le_of_ble_eq_true rfl) dX11_readsCouncil_143 ⟨Nat.le_of_ble_eq_true rfl, Nat.le_of_ble_eq_true rfl⟩) hA hD hS (fun r264 L265 f266 H locs hp267 hP hD hS => ?_)
                            obtain ⟨eL268L, eL268T, eL268R, eL268X0⟩ := hp267
                            have eL268L : L265 = L := eL268L
                            have eL268T : f266 = f245 := eL268T
                            rw [eL268L, eL268T] at hP hD
                            have eL268R : In r264 0 1 := eL268R
                            have hbt269 : r264.toInt = bitI zg122_zt 0 := (eL268X0 (Int.le_trans (by decide) hv9_262.1) (⟨by decide, by decide⟩ : In 0 0 30)).trans (by rw [hg9_262])
                            have hb0c := bitI_0 (zg122_zt)
                            refine lv_if_ne (tgt := 157) hx hb dX11_readsCouncil_146 (by decide) (fun c270 => ?_) (fun c270 => ?_)
                            ·
                              have oc0 : (0 : Int32).toInt = 0 := by decide
                              have cc271 : r264.toInt ≠ (0 : Int32).toInt := i32_ne c270
                              have hb272 : In r264 1 1 := In.ne1 eL268R (⟨by decide, by decide⟩ : In 0 0 0) cc271 (by omega) (by omega)
                              exact hJ157 zz248 zg122_zr zg122_zl zg122_ze zg122_zt zg122_zs zg122_zf _ _ _ _ (⟨⟨(show 0 ≤ zz248 ∧ zz248 ≤ 500 from (by obtain ⟨o0a, o0b⟩ := (hv2_262 : In _ _ _); obtain ⟨o1a, o1b⟩ := (hv3_262 : In _ _ _); obtain ⟨o2a, o2b⟩ := (hv4_262 : In _ _ _); obtain ⟨o3a, o3b⟩ := (hv5_262 : In _ _ _); obtain ⟨o4a, o4b⟩ := (hv6_262 : In _ _ _); obtain ⟨o5a, o5b⟩ := (hv9_262 : In _ _ _); obtain ⟨o6a, o6b⟩ := (hv13_262 : In _ _ _); obtain ⟨o7a, o7b⟩ := (hv14_262 : In _ _ _); obtain ⟨o8a, o8b⟩ := (hv15_262 : In _ _ _); obtain ⟨o9a, o9b⟩ := (hv17_262 : In _ _ _); obtain ⟨o10a, o10b⟩ := (hv20_262 : In _ _ _); obtain ⟨o11a, o11b⟩ := (hv23_262 : In _ _ _); obtain ⟨o12a, o12b⟩ := (hv36_262 : In _ _ _); obtain ⟨o13a, o13b⟩ := (hv47_262 : In _ _ _); obtain ⟨o14a, o14b⟩ := (hv48_262 : In _ _ _); obtain ⟨o15a, o15b⟩ := (hv53_262 : In _ _ _); obtain ⟨o16a, o16b⟩ := (hv55_262 : In _ _ _); omega)), hzg122.2⟩, (show 0 ≤ zg122_ze ∨ zg122_zt % 2 = 1 from (by obtain ⟨o0a, o0b⟩ := (hv2_262 : In _ _ _); obtain ⟨o1a, o1b⟩ := (hv3_262 : In _ _ _); obtain ⟨o2a, o2b⟩ := (hv4_262 : In _ _ _); obtain ⟨o3a, o3b⟩ := (hv5_262 : In _ _ _); obtain ⟨o4a, o4b⟩ := (hv6_262 : In _ _ _); obtain ⟨o5a, o5b⟩ := (hv9_262 : In _ _ _); obtain ⟨o6a, o6b⟩ := (hv13_262 : In _ _ _); obtain ⟨o7a, o7b⟩ := (hv14_262 : In _ _ _); obtain ⟨o8a, o8b⟩ := (hv15_262 : In _ _ _); obtain ⟨o9a, o9b⟩ := (hv17_262 : In _ _ _); obtain ⟨o10a, o10b⟩ := (hv20_262 : In _ _ _); obtain ⟨o11a, o11b⟩ := (hv23_262 : In _ _ _); obtain ⟨o12a, o12b⟩ := (hv36_262 : In _ _ _); obtain ⟨o13a, o13b⟩ := (hv47_262 : In _ _ _); obtain ⟨o14a, o14b⟩ := (hv48_262 : In _ _ _); obtain ⟨o15a, o15b⟩ := (hv53_262 : In _ _ _); obtain ⟨o16a, o16b⟩ := (hv55_262 : In _ _ _); omega))⟩) hP hD hS (TI.cast hT (by funext q; simp only [gset]; (repeat' split); all_goals first | rfl | omega | (subst_vars; rfl) | (exfalso; omega))) hfr (lv_sub hl [0, 1] rfl)
                            ·
                              have oc0 : (0 : Int32).toInt = 0 := by decide
                              have cc273 : r264.toInt = (0 : Int32).toInt := congrArg Int32.toInt c270
                              have hb274 : In r264 0 0 := In.eq1 eL268R (⟨by decide, by decide⟩ : In 0 0 0) cc273 (by omega) (by omega)
                              exact hJ149 _ _ _ hP hD hS (lv_sub hl [0, 1] rfl)
                      refine lv_icmp_ne (tgt := 122) hx hb dX11_readsCouncil_93 (by decide) (fun c275 => ?_) (fun c275 => ?_)
                      ·
                        have ocm1 : ((-1) : Int32).toInt = (-1) := by decide
                        have cc276 : v4_149.toInt ≠ ((-1) : Int32).toInt := i32_ne c275
                        have hb277 : In v4_149 0 500 := In.ne1 hv4_149 (⟨by decide, by decide⟩ : In (-1) (-1) (-1)) cc276 (by omega) (by omega)
                        exact hJ122 zg88_za zg88_zr zg88_zl zg88_ze zg88_zt zg88_zs zg88_zf _ _ _ _ (⟨(show 0 ≤ zg88_za ∧ zg88_za ≤ 500 from (by obtain ⟨o0a, o0b⟩ := (hv2_149 : In _ _ _); obtain ⟨o1a, o1b⟩ := (hv3_149 : In _ _ _); obtain ⟨o2a, o2b⟩ := (hb277 : In _ _ _); obtain ⟨o3a, o3b⟩ := (hv5_149 : In _ _ _); obtain ⟨o4a, o4b⟩ := (hv6_149 : In _ _ _); obtain ⟨o5a, o5b⟩ := (hv9_149 : In _ _ _); obtain ⟨o6a, o6b⟩ := (hv13_149 : In _ _ _); obtain ⟨o7a, o7b⟩ := (hv14_149 : In _ _ _); obtain ⟨o8a, o8b⟩ := (hv15_149 : In _ _ _); obtain ⟨o9a, o9b⟩ := (hv17_149 : In _ _ _); obtain ⟨o10a, o10b⟩ := (hv20_149 : In _ _ _); obtain ⟨o11a, o11b⟩ := (hv23_149 : In _ _ _); obtain ⟨o12a, o12b⟩ := (hv36_149 : In _ _ _); obtain ⟨o13a, o13b⟩ := (hv47_149 : In _ _ _); obtain ⟨o14a, o14b⟩ := (hv48_149 : In _ _ _); obtain ⟨o15a, o15b⟩ := (hv53_149 : In _ _ _); obtain ⟨o16a, o16b⟩ := (hv55_149 : In _ _ _); omega)), hzg88.2⟩) hP hD hS (TI.cast hT (by funext q; simp only [gset]; (repeat' split); all_goals first | rfl | omega | (subst_vars; rfl) | (exfalso; omega))) hfr (lv_sub hl [0, 1] rfl)
                      ·
                        have ocm1 : ((-1) : Int32).toInt = (-1) := by decide
                        have cc278 : v4_149.toInt = ((-1) : Int32).toInt := congrArg Int32.toInt c275
                        have hb279 : In v4_149 (-1) (-1) := In.eq1 hv4_149 (⟨by decide, by decide⟩ : In (-1) (-1) (-1)) cc278 (by omega) (by omega)
                        refine lv_aload_n hx hb dX11_readsCouncil_96 rfl (lv_at hl 0 rfl) ?_
                        refine call_i (run_V (rm := rm_X11_look) hx hb hml hown hts (s_X11_look l g ad (gset (gset (gset (gset (gset (gset (gset th 37 zg88_za) 40 zg88_zr) 41 zg88_zl) 42 zg88_ze) 35 zg88_zt) 30 zg88_zs) 34 zg88_zf) _ _ _  hst hT ) cV_X11_look wg_1529 ⟨Nat.le_of_ble_eq_true rfl, Nat.le_of_ble_eq_true rfl⟩ hG hE hA hP hD hS (hst.1 255 (by decide)) hf150 rfl rfl hl.1 (As := []) (rest := []) rfl (Nat.le_of_ble_eq_true rfl) dX11_readsCouncil_97 ⟨Nat.le_of_ble_eq_true rfl, Nat.le_of_ble_eq_true rfl⟩) hA hD hS (fun r280 L281 f282 H locs hp283 hP hD hS => ?_)
                        obtain ⟨eL284L, eL284T, eL284F, eL284R⟩ := hp283
                        have eL284L : L281 = L := eL284L
                        rw [eL284L] at hP hD
                        obtain ⟨zz285, hzz285, eL284T⟩ := eL284T
                        have hT : TI g ad (gset (gset (gset (gset (gset (gset (gset (gset th 37 zg88_za) 40 zg88_zr) 41 zg88_zl) 42 zg88_ze) 35 zg88_zt) 30 zg88_zs) 34 zg88_zf) 37 zz285) f282 := eL284T
                        have hT : TI g ad (gset (gset (gset (gset (gset (gset (gset th 40 zg88_zr) 41 zg88_zl) 42 zg88_ze) 35 zg88_zt) 30 zg88_zs) 34 zg88_zf) 37 zz285) f282 := TI.cast hT (by funext q; simp only [gset]; (repeat' split); all_goals first | rfl | omega | (subst_vars; rfl) | (exfalso; omega))
                        have eL284F : ∀ b, b ≠ (ad 255) → f282 b = f_88 b := eL284F
                        have hfr : (∀ b, b ≠ (ad 255) → b ≠ (ad 257) → f282 b = f b) := fun b z0_ z1_ => (eL284F b z0_).trans (hfr b z0_ z1_)
                        have eL284R : In r280 (-1) 255 := eL284R
                        refine lv_bipush (v := 59) hx hb dX11_readsCouncil_100 (by decide) ?_
                        refine lv_icmp_ne (tgt := 122) hx hb dX11_readsCouncil_102 (by decide) (fun c286 => ?_) (fun c286 => ?_)
                        ·
                          have oc59 : (59 : Int32).toInt = 59 := by decide
                          have cc287 : r280.toInt ≠ (59 : Int32).toInt := i32_ne c286
                          exact hJ122 zz285 zg88_zr zg88_zl zg88_ze zg88_zt zg88_zs zg88_zf _ _ _ _ (⟨(show 0 ≤ zz285 ∧ zz285 ≤ 500 from (by omega)), hzg88.2⟩) hP hD hS (TI.cast hT (by funext q; simp only [gset]; (repeat' split); all_goals first | rfl | omega | (subst_vars; rfl) | (exfalso; omega))) hfr (lv_sub hl [0, 1] rfl)
                        ·
                          have oc59 : (59 : Int32).toInt = 59 := by decide
                          have cc288 : r280.toInt = (59 : Int32).toInt := congrArg Int32.toInt c286
                          have hb289 : In r280 59 59 := In.eq1 eL284R (⟨by decide, by decide⟩ : In 59 59 59) cc288 (by omega) (by omega)
                          refine lv_aload_n hx hb dX11_readsCouncil_105 rfl (lv_at hl 0 rfl) ?_
                          refine lv_dup hx hb dX11_readsCouncil_106 rfl ?_
                          obtain ⟨v0_290, v2_290, v3_290, v4_290, v5_290, v6_290, v8_290, v9_290, v12_290, v13_290, v14_290, v15_290, v16_290, v17_290, v18_290, v19_290, v20_290, v21_290, v22_290, v23_290, v25_290, v36_290, v37_290, v38_290, v39_290, v40_290, v45_290, v46_290, v47_290, v48_290, v50_290, v51_290, v53_290, v55_290, hf291, hv0_290, hv2_290, hg2_290, hv3_290, hg3_290, hv4_290, hg4_290, hv5_290, hg5_290, hv6_290, hg6_290, hv8_290, hv9_290, hg9_290, hv12_290, hv13_290, hg13_290, hv14_290, hg14_290, hv15_290, hg15_290, hv17_290, hg17_290, hv20_290, hg20_290, hv23_290, hg23_290, hv25_290, hv36_290, hg36_290, hv47_290, hg47_290, hv48_290, hg48_290, hv53_290, hg53_290, hv55_290, hg55_290, hrel0_290⟩ := hT.2.2 0 (by decide)
                          have hg2_290 : v2_290.toInt = th 13 := hg2_290
                          have hg3_290 : v3_290.toInt = zz285 := hg3_290
                          have hg4_290 : v4_290.toInt = zg88_ze := hg4_290
                          have hg5_290 : v5_290.toInt = zg88_zr := hg5_290
                          have hg6_290 : v6_290.toInt = zg88_zl := hg6_290
                          have hg9_290 : v9_290.toInt = zg88_zt := hg9_290
                          have hg13_290 : v13_290.toInt = th 36 := hg13_290
                          have hg14_290 : v14_290.toInt = th 10 := hg14_290
                          have hg15_290 : v15_290.toInt = th 11 := hg15_290
                          have hg17_290 : v17_290.toInt = th 12 := hg17_290
                          have hg20_290 : v20_290.toInt = th 14 := hg20_290
                          have hg23_290 : v23_290.toInt = th 15 := hg23_290
                          have hg36_290 : v36_290.toInt = th 18 := hg36_290
                          have hg47_290 : v47_290.toInt = th 16 := hg47_290
                          have hg48_290 : v48_290.toInt = th 17 := hg48_290
                          have hg53_290 : v53_290.toInt = th 38 := hg53_290
                          have hg55_290 : v55_290.toInt = th 39 := hg55_290
                          refine pl_get (v := .int v3_290) hx hb hts (fun w h => mT (inX11 w h)) hown hG.1 hP (hst.1 255 (by decide)) hf291 rfl 3 (by decide) (hts _ (mT wg_1339)) (fun _ h => h) rfl dX11_readsCouncil_107 ?_
                          refine lv_iconst (v := 1) hx hb dX11_readsCouncil_110 (by decide) ?_
                          refine lv_iadd hx hb dX11_readsCouncil_111 ?_
                          refine lv_topi (fun x292 ex292 => ?_)
                          have hb293 : In x292 1 501 := ex292 ▸ In.add hv3_290 (⟨by decide, by decide⟩ : In 1 1 1) (by decide) (by decide) (by decide) (by decide)
                          have et294 : x292.toInt = v3_290.toInt + 1 := In.adde ex292 hv3_290 (k := 1) (by decide) (by decide) (by decide)
                          refine pl_put (ty := .int) (v := .int x292) (fs' := [.int v0_290, .ref (ad 256), .int v2_290, .int x292, .int v4_290, .int v5_290, .int v6_290, .ref (ad 257), .int v8_290, .int v9_290, .ref (ad 258), .ref (ad 259), .int v12_290, .int v13_290, .int v14_290, .int v15_290, .int v16_290, .int v17_290, .int v18_290, .int v19_290, .int v20_290, .long v21_290, .long v22_290, .int v23_290, .ref (ad 260), .int v25_290, .ref (ad 261), .ref (ad 262), .ref (ad 263), .ref (ad 264), .ref (ad 265), .ref (ad 266), .ref (ad 267), .ref (ad 268), .ref (ad 269), .ref (ad 270), .int v36_290, .int v37_290, .int v38_290, .int v39_290, .int v40_290, .ref (ad 271), .ref (ad 272), .ref (ad 273), .ref (ad 274), .long v45_290, .long v46_290, .int v47_290, .int v48_290, .ref (ad 275), .int v50_290, .int v51_290, .ref (ad 276), .int v53_290, .ref (ad 277), .int v55_290]) hx hb hts (fun w h => mT (inX11 w h)) tyX11 tyX11_ok nmX11 hown hG.1 hP hD hS (hst.1 255 (by decide)) hf291 rfl 3 (by decide) (hts _ (mT wg_1339)) (fun _ h => h) rfl (by decide +kernel) (rfl) (rfl) (Nat.le_of_ble_eq_true rfl) rfl dX11_readsCouncil_112 (fun H locs f295 hf296 ho297 hP hD hS => ?_)
                          have hfr : (∀ b, b ≠ (ad 255) → b ≠ (ad 257) → f295 b = f b) := fun b z0_ z1_ => (ho297 b z0_).trans (hfr b z0_ z1_)
                          refine lv_aload_n hx hb dX11_readsCouncil_115 rfl (lv_at hl 0 rfl) ?_
                          have hT := TI.updMG (th' := (gset (gset (gset (gset (gset (gset (gset (gset th 40 zg88_zr) 41 zg88_zl) 42 zg88_ze) 35 zg88_zt) 30 zg88_zs) 34 zg88_zf) 37 zz285) 37 (x292.toInt))) hT hst (k := 0) (by decide) hf296 ho297 ⟨v0_290, v2_290, x292, v4_290, v5_290, v6_290, v8_290, v9_290, v12_290, v13_290, v14_290, v15_290, v16_290, v17_290, v18_290, v19_290, v20_290, v21_290, v22_290, v23_290, v25_290, v36_290, v37_290, v38_290, v39_290, v40_290, v45_290, v46_290, v47_290, v48_290, v50_290, v51_290, v53_290, v55_290, rfl, hv0_290, hv2_290, (by rw [hg2_290]; simp [gset]), (In.mk (by obtain ⟨o0a, o0b⟩ := (hb293 : In _ _ _); obtain ⟨o1a, o1b⟩ := (hv2_290 : In _ _ _); obtain ⟨o2a, o2b⟩ := (hv4_290 : In _ _ _); obtain ⟨o3a, o3b⟩ := (hv5_290 : In _ _ _); obtain ⟨o4a, o4b⟩ := (hv6_290 : In _ _ _); obtain ⟨o5a, o5b⟩ := (hv9_290 : In _ _ _); obtain ⟨o6a, o6b⟩ := (hv13_290 : In _ _ _); obtain ⟨o7a, o7b⟩ := (hv14_290 : In _ _ _); obtain ⟨o8a, o8b⟩ := (hv15_290 : In _ _ _); obtain ⟨o9a, o9b⟩ := (hv17_290 : In _ _ _); obtain ⟨o10a, o10b⟩ := (hv20_290 : In _ _ _); obtain ⟨o11a, o11b⟩ := (hv23_290 : In _ _ _); obtain ⟨o12a, o12b⟩ := (hv36_290 : In _ _ _); obtain ⟨o13a, o13b⟩ := (hv47_290 : In _ _ _); obtain ⟨o14a, o14b⟩ := (hv48_290 : In _ _ _); obtain ⟨o15a, o15b⟩ := (hv53_290 : In _ _ _); obtain ⟨o16a, o16b⟩ := (hv55_290 : In _ _ _); obtain ⟨o17a, o17b⟩ := (hv3_290 : In _ _ _); omega) (by obtain ⟨o0a, o0b⟩ := (hb293 : In _ _ _); obtain ⟨o1a, o1b⟩ := (hv2_290 : In _ _ _); obtain ⟨o2a, o2b⟩ := (hv4_290 : In _ _ _); obtain ⟨o3a, o3b⟩ := (hv5_290 : In _ _ _); obtain ⟨o4a, o4b⟩ := (hv6_290 : In _ _ _); obtain ⟨o5a, o5b⟩ := (hv9_290 : In _ _ _); obtain ⟨o6a, o6b⟩ := (hv13_290 : In _ _ _); obtain ⟨o7a, o7b⟩ := (hv14_290 : In _ _ _); obtain ⟨o8a, o8b⟩ := (hv15_290 : In _ _ _); obtain ⟨o9a, o9b⟩ := (hv17_290 : In _ _ _); obtain ⟨o10a, o10b⟩ := (hv20_290 : In _ _ _); obtain ⟨o11a, o11b⟩ := (hv23_290 : In _ _ _); obtain ⟨o12a, o12b⟩ := (hv36_290 : In _ _ _); obtain ⟨o13a, o13b⟩ := (hv47_290 : In _ _ _); obtain ⟨o14a, o14b⟩ := (hv48_290 : In _ _ _); obtain ⟨o15a, o15b⟩ := (hv53_290 : In _ _ _); obtain ⟨o16a, o16b⟩ := (hv55_290 : In _ _ _); obtain ⟨o17a, o17b⟩ := (hv3_290 : In _ _ _); omega)), (by simp [gset]), hv4_290, (by rw [hg4_290]; simp [gset]), hv5_290, (by rw [hg5_290]; simp [gset]), hv6_290, (by rw [hg6_290]; simp [gset]), hv8_290, hv9_290, (by rw [hg9_290]; simp [gset]), hv12_290, hv13_290, (by rw [hg13_290]; simp [gset]), hv14_290, (by rw [hg14_290]; simp [gset]), hv15_290, (by rw [hg15_290]; simp [gset]), hv17_290, (by rw [hg17_290]; simp [gset]), hv20_290, (by rw [hg20_290]; simp [gset]), hv23_290, (by rw [hg23_290]; simp [gset]), hv25_290, hv36_290, (by rw [hg36_290]; simp [gset]), hv47_290, (by rw [hg47_290]; simp [gset]), hv48_290, (by rw [hg48_290]; simp [gset]), hv53_290, (by rw [hg53_290]; simp [gset]), hv55_290, (by rw [hg55_290]; simp [gset]), hrel0_290⟩ (fun q hq => ((gset_ne (fun e => hq (by subst e; decide))).trans rfl))
                          have hT : TI g ad (gset (gset (gset (gset (gset (gset (gset th 40 zg88_zr) 41 zg88_zl) 42 zg88_ze) 35 zg88_zt) 30 zg88_zs) 34 zg88_zf) 37 x292.toInt) f295 := TI.cast hT (by funext q; simp only [gset]; (repeat' split); all_goals first | rfl | omega | (subst_vars; rfl) | (exfalso; omega))
                          obtain ⟨v0_298, v2_298, v3_298, v4_298, v5_298, v6_298, v8_298, v9_298, v12_298, v13_298, v14_298, v15_298, v16_298, v17_298, v18_298, v19_298, v20_298, v21_298, v22_298, v23_298, v25_298, v36_298, v37_298, v38_298, v39_298, v40_298, v45_298, v46_298, v47_298, v48_298, v50_298, v51_298, v53_298, v55_298, hf299, hv0_298, hv2_298, hg2_298, hv3_298, hg3_298, hv4_298, hg4_298, hv5_298, hg5_298, hv6_298, hg6_298, hv8_298, hv9_298, hg9_298, hv12_298, hv13_298, hg13_298, hv14_298, hg14_298, hv15_298, hg15_298, hv17_298, hg17_298, hv20_298, hg20_298, hv23_298, hg23_298, hv25_298, hv36_298, hg36_298, hv47_298, hg47_298, hv48_298, hg48_298, hv53_298, hg53_298, hv55_298, hg55_298, hrel0_298⟩ := hT.2.2 0 (by decide)
                          have hg2_298 : v2_298.toInt = th 13 := hg2_298
                          have hg3_298 : v3_298.toInt = x292.toInt := hg3_298
                          have hg4_298 : v4_298.toInt = zg88_ze := hg4_298
                          have hg5_298 : v5_298.toInt = zg88_zr := hg5_298
                          have hg6_298 : v6_298.toInt = zg88_zl := hg6_298
                          have hg9_298 : v9_298.toInt = zg88_zt := hg9_298
                          have hg13_298 : v13_298.toInt = th 36 := hg13_298
                          have hg14_298 : v14_298.toInt = th 10 := hg14_298
                          have hg15_298 : v15_298.toInt = th 11 := hg15_298
                          have hg17_298 : v17_298.toInt = th 12 := hg17_298
                          have hg20_298 : v20_298.toInt = th 14 := hg20_298
                          have hg23_298 : v23_298.toInt = th 15 := hg23_298
                          have hg36_298 : v36_298.toInt = th 18 := hg36_298
                          have hg47_298 : v47_298.toInt = th 16 := hg47_298
                          have hg48_298 : v48_298.toInt = th 17 := hg48_298
                          have hg53_298 : v53_298.toInt = th 38 := hg53_298
                          have hg55_298 : v55_298.toInt = th 39 := hg55_298
                          refine call_v (run_V (rm := rm_X11_piece) hx hb hml hown hts (s_X11_piece l g ad (gset (gset (gset (gset (gset (gset (gset th 40 zg88_zr) 41 zg88_zl) 42 zg88_ze) 35 zg88_zt) 30 zg88_zs) 34 zg88_zf) 37 x292.toInt) _ _ _  hst hT (show DIp (zg88_zt) (zg88_zs) (zg88_zf) from hzg88.2)) cV_X11_piece wg_1549 ⟨Nat.le_of_ble_eq_true rfl, Nat.le_of_ble_eq_true rfl⟩ hG hE hA hP hD hS (hst.1 255 (by decide)) hf299 rfl rfl hl.1 (As := []) (rest := []) rfl (Nat.le_of_ble_eq_true rfl) dX11_readsCouncil_116 ⟨Nat.le_of_ble_eq_true rfl, Nat.le_of_ble_eq_true rfl⟩) hA hD hS (fun L301 f302 H locs hp303 hP hD hS => ?_)
                          obtain ⟨eL304L, eL304T, eL304F⟩ := hp303
                          have eL304L : L301 = L := eL304L
                          rw [eL304L] at hP hD
                          obtain ⟨zz305, zz306, zz307, zz308, zz309, zz310, zz311, hzz305, eL304T⟩ := eL304T
                          have hT : TI g ad (gset (gset (gset (gset (gset (gset (gset (gset (gset (gset (gset (gset (gset (gset th 40 zg88_zr) 41 zg88_zl) 42 zg88_ze) 35 zg88_zt) 30 zg88_zs) 34 zg88_zf) 37 x292.toInt) 37 zz305) 40 zz306) 41 zz307) 42 zz308) 35 zz309) 30 zz310) 34 zz311) f302 := eL304T
                          have hT : TI g ad (gset (gset (gset (gset (gset (gset (gset th 37 zz305) 40 zz306) 41 zz307) 42 zz308) 35 zz309) 30 zz310) 34 zz311) f302 := TI.cast hT (by funext q; simp only [gset]; (repeat' split); all_goals first | rfl | omega | (subst_vars; rfl) | (exfalso; omega))
                          have eL304F : ∀ b, b ≠ (ad 255) → b ≠ (ad 257) → f302 b = f295 b := eL304F
                          have hfr : (∀ b, b ≠ (ad 255) → b ≠ (ad 257) → f302 b = f b) := fun b z0_ z1_ => (eL304F b z0_ z1_).trans (hfr b z0_ z1_)
                          refine lv_goto (tgt := 88) hx hb dX11_readsCouncil_119 (by decide) ?_
                          exact ih88 zz305 zz306 zz307 zz308 zz309 zz310 zz311 _ _ _ _ (⟨(show 0 ≤ zz305 ∧ zz305 ≤ 500 from (by omega)), hzz305.2⟩) hP hD hS (TI.cast hT (by funext q; simp only [gset]; (repeat' split); all_goals first | rfl | omega | (subst_vars; rfl) | (exfalso; omega))) hfr (lv_sub hl [0, 1] rfl) (show 500 - (zz305) < ((k88 : Nat) : Int) from (by omega))
                  refine lv_icmp_ne (tgt := 88) hx hb dX11_readsCouncil_77 (by decide) (fun c312 => ?_) (fun c312 => ?_)
                  ·
                    have ocm1 : ((-1) : Int32).toInt = (-1) := by decide
                    have cc313 : y69_s0.toInt ≠ ((-1) : Int32).toInt := i32_ne c312
                    have hb314 : In y69_s0 0 1 := In.ne1 hy69_s0 (⟨by decide, by decide⟩ : In (-1) (-1) (-1)) cc313 (by omega) (by omega)
                    exact hJ88 ((500 - zg69_za).toNat + 1) zg69_za zg69_zr zg69_zl zg69_ze zg69_zt zg69_zs zg69_zf _ _ _ _ (⟨(show 0 ≤ zg69_za ∧ zg69_za ≤ 500 from (by obtain ⟨o0a, o0b⟩ := (hv2_144 : In _ _ _); obtain ⟨o1a, o1b⟩ := (hv3_144 : In _ _ _); obtain ⟨o2a, o2b⟩ := (hv4_144 : In _ _ _); obtain ⟨o3a, o3b⟩ := (hv5_144 : In _ _ _); obtain ⟨o4a, o4b⟩ := (hv6_144 : In _ _ _); obtain ⟨o5a, o5b⟩ := (hv9_144 : In _ _ _); obtain ⟨o6a, o6b⟩ := (hv13_144 : In _ _ _); obtain ⟨o7a, o7b⟩ := (hv14_144 : In _ _ _); obtain ⟨o8a, o8b⟩ := (hv15_144 : In _ _ _); obtain ⟨o9a, o9b⟩ := (hv17_144 : In _ _ _); obtain ⟨o10a, o10b⟩ := (hv20_144 : In _ _ _); obtain ⟨o11a, o11b⟩ := (hv23_144 : In _ _ _); obtain ⟨o12a, o12b⟩ := (hv36_144 : In _ _ _); obtain ⟨o13a, o13b⟩ := (hv47_144 : In _ _ _); obtain ⟨o14a, o14b⟩ := (hv48_144 : In _ _ _); obtain ⟨o15a, o15b⟩ := (hv53_144 : In _ _ _); obtain ⟨o16a, o16b⟩ := (hv55_144 : In _ _ _); omega)), hzg69.2⟩) hP hD hS (TI.cast hT (by funext q; simp only [gset]; (repeat' split); all_goals first | rfl | omega | (subst_vars; rfl) | (exfalso; omega))) hfr (lv_sub hl [0, 1] rfl) (msI _)
                  ·
                    have ocm1 : ((-1) : Int32).toInt = (-1) := by decide
                    have cc315 : y69_s0.toInt = ((-1) : Int32).toInt := congrArg Int32.toInt c312
                    have hb316 : In y69_s0 (-1) (-1) := In.eq1 hy69_s0 (⟨by decide, by decide⟩ : In (-1) (-1) (-1)) cc315 (by omega) (by omega)
                    refine lv_aload_n hx hb dX11_readsCouncil_80 rfl (lv_at hl 0 rfl) ?_
                    refine lv_aload_n hx hb dX11_readsCouncil_81 rfl (lv_at hl 0 rfl) ?_
                    refine pl_get (v := .int v3_144) hx hb hts (fun w h => mT (inX11 w h)) hown hG.1 hP (hst.1 255 (by decide)) hf147 rfl 3 (by decide) (hts _ (mT wg_1339)) (fun _ h => h) rfl dX11_readsCouncil_82 ?_
                    refine call_v (run_V (rm := rm_X11_fails) hx hb hml hown hts (s_X11_fails l g ad (gset (gset (gset (gset (gset (gset (gset th 37 zg69_za) 40 zg69_zr) 41 zg69_zl) 42 zg69_ze) 35 zg69_zt) 30 zg69_zs) 34 zg69_zf) _ _ _ v3_144 hst hT hv3_144) cV_X11_fails wg_1545 ⟨Nat.le_of_ble_eq_true rfl, Nat.le_of_ble_eq_true rfl⟩ hG hE hA hP hD hS (hst.1 255 (by decide)) hf147 rfl rfl hl.1 (As := [.int v3_144]) (rest := []) rfl (Nat.le_of_ble_eq_true rfl) dX11_readsCouncil_85 ⟨Nat.le_of_ble_eq_true rfl, Nat.le_of_ble_eq_true rfl⟩) hA hD hS (fun L318 f319 H locs hp320 hP hD hS => ?_)
                    obtain ⟨eL321L, eL321T, eL321F⟩ := hp320
                    have eL321L : L318 = L := eL321L
                    rw [eL321L] at hP hD
                    obtain ⟨zz322, hzz322, eL321T⟩ := eL321T
                    have hT : TI g ad (gset (gset (gset (gset (gset (gset (gset (gset th 37 zg69_za) 40 zg69_zr) 41 zg69_zl) 42 zg69_ze) 35 zg69_zt) 30 zg69_zs) 34 zg69_zf) 42 zz322) f319 := eL321T
                    have hT : TI g ad (gset (gset (gset (gset (gset (gset (gset th 37 zg69_za) 40 zg69_zr) 41 zg69_zl) 35 zg69_zt) 30 zg69_zs) 34 zg69_zf) 42 zz322) f319 := TI.cast hT (by funext q; simp only [gset]; (repeat' split); all_goals first | rfl | omega | (subst_vars; rfl) | (exfalso; omega))
                    have eL321F : ∀ b, b ≠ (ad 255) → f319 b = f146 b := eL321F
                    have hfr : (∀ b, b ≠ (ad 255) → b ≠ (ad 257) → f319 b = f b) := fun b z0_ z1_ => (eL321F b z0_).trans (hfr b z0_ z1_)
                    exact hJ88 ((500 - zg69_za).toNat + 1) zg69_za zg69_zr zg69_zl zz322 zg69_zt zg69_zs zg69_zf _ _ _ _ (⟨(show 0 ≤ zg69_za ∧ zg69_za ≤ 500 from (by omega)), hzg69.2⟩) hP hD hS (TI.cast hT (by funext q; simp only [gset]; (repeat' split); all_goals first | rfl | omega | (subst_vars; rfl) | (exfalso; omega))) hfr (lv_sub hl [0, 1] rfl) (msI _)
                refine lv_if_eq (tgt := 55) hx hb dX11_readsCouncil_48 (by decide) (fun c323 => ?_) (fun c323 => ?_)
                ·
                  have oc0 : (0 : Int32).toInt = 0 := by decide
                  have cc324 : r138.toInt = (0 : Int32).toInt := congrArg Int32.toInt c323
                  have hb325 : In r138 0 0 := In.eq1 eL142R (⟨by decide, by decide⟩ : In 0 0 0) cc324 (by omega) (by omega)
                  refine lv_aload_n hx hb dX11_readsCouncil_55 rfl (lv_at hl 1 rfl) ?_
                  refine va_ldcS hx hb hown (hG.2.2.1 ("RulerWordModel", 176, "queen", 1) (by decide +kernel)) dX11_readsCouncil_56 ?_
                  obtain ⟨v0_326, v2_326, v3_326, v4_326, v5_326, v6_326, v8_326, v9_326, v12_326, v13_326, v14_326, v15_326, v16_326, v17_326, v18_326, v19_326, v20_326, v21_326, v22_326, v23_326, v25_326, v36_326, v37_326, v38_326, v39_326, v40_326, v45_326, v46_326, v47_326, v48_326, v50_326, v51_326, v53_326, v55_326, hf327, hv0_326, hv2_326, hg2_326, hv3_326, hg3_326, hv4_326, hg4_326, hv5_326, hg5_326, hv6_326, hg6_326, hv8_326, hv9_326, hg9_326, hv12_326, hv13_326, hg13_326, hv14_326, hg14_326, hv15_326, hg15_326, hv17_326, hg17_326, hv20_326, hg20_326, hv23_326, hg23_326, hv25_326, hv36_326, hg36_326, hv47_326, hg47_326, hv48_326, hg48_326, hv53_326, hg53_326, hv55_326, hg55_326, hrel0_326⟩ := hT.2.2 0 (by decide)
                  have hg2_326 : v2_326.toInt = th 13 := hg2_326
                  have hg3_326 : v3_326.toInt = zz143 := hg3_326
                  have hg4_326 : v4_326.toInt = -1 := hg4_326
                  have hg5_326 : v5_326.toInt = th 40 := hg5_326
                  have hg6_326 : v6_326.toInt = th 41 := hg6_326
                  have hg9_326 : v9_326.toInt = 0 := hg9_326
                  have hg13_326 : v13_326.toInt = th 36 := hg13_326
                  have hg14_326 : v14_326.toInt = th 10 := hg14_326
                  have hg15_326 : v15_326.toInt = th 11 := hg15_326
                  have hg17_326 : v17_326.toInt = th 12 := hg17_326
                  have hg20_326 : v20_326.toInt = th 14 := hg20_326
                  have hg23_326 : v23_326.toInt = th 15 := hg23_326
                  have hg36_326 : v36_326.toInt = th 18 := hg36_326
                  have hg47_326 : v47_326.toInt = th 16 := hg47_326
                  have hg48_326 : v48_326.toInt = th 17 := hg48_326
                  have hg53_326 : v53_326.toInt = th 38 := hg53_326
                  have hg55_326 : v55_326.toInt = th 39 := hg55_326
                  refine call_i (run_V (rm := rm_X11_takes) hx hb hml hown hts (s_X11_takes l g ad (gset (gset (gset (gset (gset th 42 (-1)) 35 0) 30 0) 34 0) 37 zz143) _ _ _ 1 hst hT (by decide)) cV_X11_takes wg_1538 ⟨Nat.le_of_ble_eq_true rfl, Nat.le_of_ble_eq_true rfl⟩ hG hE hA hP hD hS (hst.1 255 (by decide)) hf327 rfl rfl hl.1 (As := [.ref (g.2.2.1 1)]) (rest := [.ref (ad 255)]) rfl (Nat.le_of_ble_eq_true rfl) dX11_readsCouncil_58 ⟨Nat.le_of_ble_eq_true rfl, Nat.le_of_ble_eq_true rfl⟩) hA hD hS (fun r328 L329 f330 H locs hp331 hP hD hS => ?_)
                  obtain ⟨eL332L, eL332T, eL332F, eL332R⟩ := hp331
                  have eL332L : L329 = L := eL332L
                  rw [eL332L] at hP hD
                  obtain ⟨zz333, hzz333, eL332T⟩ := eL332T
                  have hT : TI g ad (gset (gset (gset (gset (gset (gset th 42 (-1)) 35 0) 30 0) 34 0) 37 zz143) 37 zz333) f330 := eL332T
                  have hT : TI g ad (gset (gset (gset (gset (gset th 42 (-1)) 35 0) 30 0) 34 0) 37 zz333) f330 := TI.cast hT (by funext q; simp only [gset]; (repeat' split); all_goals first | rfl | omega | (subst_vars; rfl) | (exfalso; omega))
                  have eL332F : ∀ b, b ≠ (ad 255) → f330 b = f140 b := eL332F
                  have hfr : (∀ b, b ≠ (ad 255) → b ≠ (ad 257) → f330 b = f b) := fun b z0_ z1_ => (eL332F b z0_).trans (hfr b z0_ z1_)
                  have eL332R : In r328 0 1 := eL332R
                  refine lv_if_eq (tgt := 68) hx hb dX11_readsCouncil_61 (by decide) (fun c334 => ?_) (fun c334 => ?_)
                  ·
                    have oc0 : (0 : Int32).toInt = 0 := by decide
                    have cc335 : r328.toInt = (0 : Int32).toInt := congrArg Int32.toInt c334
                    have hb336 : In r328 0 0 := In.eq1 eL332R (⟨by decide, by decide⟩ : In 0 0 0) cc335 (by omega) (by omega)
                    refine lv_iconst (v := (-1)) hx hb dX11_readsCouncil_68 (by decide) ?_
                    exact hJ69 zz333 (th 40) (th 41) (-1) 0 0 0 (-1) _ _ _ _ (⟨(show 0 ≤ zz333 ∧ zz333 ≤ 500 from (by omega)), di_0⟩) (⟨by decide, by decide⟩ : In (-1) (-1) 1) hP hD hS (TI.cast hT (by funext q; simp only [gset]; (repeat' split); all_goals first | rfl | omega | (subst_vars; rfl) | (exfalso; omega))) hfr (lv_sub hl [1, 0] rfl)
                  ·
                    have oc0 : (0 : Int32).toInt = 0 := by decide
                    have cc337 : r328.toInt ≠ (0 : Int32).toInt := i32_ne c334
                    have hb338 : In r328 1 1 := In.ne1 eL332R (⟨by decide, by decide⟩ : In 0 0 0) cc337 (by omega) (by omega)
                    refine lv_iconst (v := 1) hx hb dX11_readsCouncil_64 (by decide) ?_
                    refine lv_goto (tgt := 69) hx hb dX11_readsCouncil_65 (by decide) ?_
                    exact hJ69 zz333 (th 40) (th 41) (-1) 0 0 0 1 _ _ _ _ (⟨(show 0 ≤ zz333 ∧ zz333 ≤ 500 from (by omega)), di_0⟩) (⟨by decide, by decide⟩ : In 1 (-1) 1) hP hD hS (TI.cast hT (by funext q; simp only [gset]; (repeat' split); all_goals first | rfl | omega | (subst_vars; rfl) | (exfalso; omega))) hfr (lv_sub hl [1, 0] rfl)
                ·
                  have oc0 : (0 : Int32).toInt = 0 := by decide
                  have cc339 : r138.toInt ≠ (0 : Int32).toInt := i32_ne c323
                  have hb340 : In r138 1 1 := In.ne1 eL142R (⟨by decide, by decide⟩ : In 0 0 0) cc339 (by omega) (by omega)
                  refine lv_iconst (v := 0) hx hb dX11_readsCouncil_51 (by decide) ?_
                  refine lv_goto (tgt := 69) hx hb dX11_readsCouncil_52 (by decide) ?_
                  exact hJ69 zz143 (th 40) (th 41) (-1) 0 0 0 0 _ _ _ _ (⟨(show 0 ≤ zz143 ∧ zz143 ≤ 500 from (by omega)), di_0⟩) (⟨by decide, by decide⟩ : In 0 (-1) 1) hP hD hS (TI.cast hT (by funext q; simp only [gset]; (repeat' split); all_goals first | rfl | omega | (subst_vars; rfl) | (exfalso; omega))) hfr (lv_sub hl [1, 0] rfl)
              ·
                have oc6 : (6 : Int32).toInt = 6 := by decide
                have oc6 : (6 : Int32).toInt = 6 := by decide
                have cc341 : (6 : Int32).toInt < (6 : Int32).toInt := i32_nle c128
                exact In.empty (lo := 6) (hi := 5) (In.lt1 (⟨by decide, by decide⟩ : In 6 6 6) (⟨by decide, by decide⟩ : In 6 6 6) cc341 (by omega) (by omega)) (by decide)

abbrev rm_X11_planLine : Room := { frames := 5, cells := 0, slots := 0, locals := 108 }
abbrev po_X11_planLine (g : GG) (ad : Nat → Nat) (th : Nat → Int) (L : List Nat) (f : HP)  : (List Nat × HP) → Prop := fun u => u.1 = L ∧ (∃ za zr zl ze zn : Int, (th 37 ≤ za ∧ za ≤ 500) ∧ TI g ad (gset (gset (gset (gset (gset th 37 za) 40 zr) 41 zl) 42 ze) 36 zn) u.2) ∧ (∀ b, b ≠ (ad 255) → b ≠ (ad 259) → u.2 b = f b)
set_option maxHeartbeats 4000000 in
set_option maxRecDepth 100000 in
theorem s_X11_planLine (l : Launch) (g : GG) (ad : Nat → Nat) (th : Nat → Int) (L : List Nat) (f : HP) (sz : Nat)  (hst : ST ad L) (hT : TI g ad th f)  : MtV l g yX11_planLine cX11_planLine 3 rm_X11_planLine [.ref (ad 255)] L f sz (po_X11_planLine g ad th L f ) := by
  refine MtV.of (by decide +kernel) (Nat.le_of_ble_eq_true rfl) ?_
  intro p e s m below meth c A hEn hP hD hS ls hl
  obtain ⟨hx, hb, hr, hml, hown, hlocks, hts, hG, hA, hE, hnm⟩ := hEn
  have hown : s.vm.findClass "RulerWordModel" = some m.cls := hown
  have hl : lv_has ls 3 [(0, .ref (ad 255))] := hl
  have hfr : (∀ b, b ≠ (ad 255) → b ≠ (ad 259) → f b = f b) := fun b z0_ z1_ => rfl
  refine lv_aload_n hx hb dX11_planLine_0 rfl (lv_at hl 0 rfl) ?_
  obtain ⟨v0_1, v2_1, v3_1, v4_1, v5_1, v6_1, v8_1, v9_1, v12_1, v13_1, v14_1, v15_1, v16_1, v17_1, v18_1, v19_1, v20_1, v21_1, v22_1, v23_1, v25_1, v36_1, v37_1, v38_1, v39_1, v40_1, v45_1, v46_1, v47_1, v48_1, v50_1, v51_1, v53_1, v55_1, hf2, hv0_1, hv2_1, hg2_1, hv3_1, hg3_1, hv4_1, hg4_1, hv5_1, hg5_1, hv6_1, hg6_1, hv8_1, hv9_1, hg9_1, hv12_1, hv13_1, hg13_1, hv14_1, hg14_1, hv15_1, hg15_1, hv17_1, hg17_1, hv20_1, hg20_1, hv23_1, hg23_1, hv25_1, hv36_1, hg36_1, hv47_1, hg47_1, hv48_1, hg48_1, hv53_1, hg53_1, hv55_1, hg55_1, hrel0_1⟩ := hT.2.2 0 (by decide)
  refine call_i (run_V (rm := rm_X11_look) hx hb hml hown hts (s_X11_look l g ad th _ _ _  hst hT ) cV_X11_look wg_1529 ⟨Nat.le_of_ble_eq_true rfl, Nat.le_of_ble_eq_true rfl⟩ hG hE hA hP hD hS (hst.1 255 (by decide)) hf2 rfl rfl hl.1 (As := []) (rest := []) rfl (Nat.le_of_ble_eq_true rfl) dX11_planLine_1 ⟨Nat.le_of_ble_eq_true rfl, Nat.le_of_ble_eq_true rfl⟩) hA hD hS (fun r3 L4 f5 H locs hp6 hP hD hS => ?_)
  obtain ⟨eL7L, eL7T, eL7F, eL7R⟩ := hp6
  have eL7L : L4 = L := eL7L
  rw [eL7L] at hP hD
  obtain ⟨zz8, hzz8, eL7T⟩ := eL7T
  have hT : TI g ad (gset th 37 zz8) f5 := eL7T
  have eL7F : ∀ b, b ≠ (ad 255) → f5 b = f b := eL7F
  have hfr : (∀ b, b ≠ (ad 255) → b ≠ (ad 259) → f5 b = f b) := fun b z0_ z1_ => (eL7F b z0_).trans (hfr b z0_ z1_)
  have eL7R : In r3 (-1) 255 := eL7R
  refine lv_istore_n (lv' := [(1, .int r3), (0, .ref (ad 255))]) hx hb dX11_planLine_4 rfl hl (by decide) rfl (fun ls hl => ?_)
  refine lv_aload_n hx hb dX11_planLine_5 rfl (lv_at hl 1 rfl) ?_
  obtain ⟨v0_9, v2_9, v3_9, v4_9, v5_9, v6_9, v8_9, v9_9, v12_9, v13_9, v14_9, v15_9, v16_9, v17_9, v18_9, v19_9, v20_9, v21_9, v22_9, v23_9, v25_9, v36_9, v37_9, v38_9, v39_9, v40_9, v45_9, v46_9, v47_9, v48_9, v50_9, v51_9, v53_9, v55_9, hf10, hv0_9, hv2_9, hg2_9, hv3_9, hg3_9, hv4_9, hg4_9, hv5_9, hg5_9, hv6_9, hg6_9, hv8_9, hv9_9, hg9_9, hv12_9, hv13_9, hg13_9, hv14_9, hg14_9, hv15_9, hg15_9, hv17_9, hg17_9, hv20_9, hg20_9, hv23_9, hg23_9, hv25_9, hv36_9, hg36_9, hv47_9, hg47_9, hv48_9, hg48_9, hv53_9, hg53_9, hv55_9, hg55_9, hrel0_9⟩ := hT.2.2 0 (by decide)
  have hg2_9 : v2_9.toInt = th 13 := hg2_9
  have hg3_9 : v3_9.toInt = zz8 := hg3_9
  have hg4_9 : v4_9.toInt = th 42 := hg4_9
  have hg5_9 : v5_9.toInt = th 40 := hg5_9
  have hg6_9 : v6_9.toInt = th 41 := hg6_9
  have hg9_9 : v9_9.toInt = th 35 := hg9_9
  have hg13_9 : v13_9.toInt = th 36 := hg13_9
  have hg14_9 : v14_9.toInt = th 10 := hg14_9
  have hg15_9 : v15_9.toInt = th 11 := hg15_9
  have hg17_9 : v17_9.toInt = th 12 := hg17_9
  have hg20_9 : v20_9.toInt = th 14 := hg20_9
  have hg23_9 : v23_9.toInt = th 15 := hg23_9
  have hg36_9 : v36_9.toInt = th 18 := hg36_9
  have hg47_9 : v47_9.toInt = th 16 := hg47_9
  have hg48_9 : v48_9.toInt = th 17 := hg48_9
  have hg53_9 : v53_9.toInt = th 38 := hg53_9
  have hg55_9 : v55_9.toInt = th 39 := hg55_9
  refine pl_get (v := .int v13_9) hx hb hts (fun w h => mT (inX11 w h)) hown hG.1 hP (hst.1 255 (by decide)) hf10 rfl 13 (by decide) (hts _ (mT wg_1349)) (fun _ h => h) rfl dX11_planLine_6 ?_
  refine lv_bipush (v := 20) hx hb dX11_planLine_9 (by decide) ?_
  refine lv_icmp_ne (tgt := 23) hx hb dX11_planLine_11 (by decide) (fun c11 => ?_) (fun c11 => ?_)
  ·
    have oc20 : (20 : Int32).toInt = 20 := by decide
    have cc12 : v13_9.toInt ≠ (20 : Int32).toInt := i32_ne c11
    have hb13 : In v13_9 0 19 := In.ne1 hv13_9 (⟨by decide, by decide⟩ : In 20 20 20) cc12 (by omega) (by omega)
    refine lv_iconst (v := 5) hx hb dX11_planLine_23 (by decide) ?_
    refine lv_aload_n hx hb dX11_planLine_24 rfl (lv_at hl 1 rfl) ?_
    refine pl_get (v := .int v13_9) hx hb hts (fun w h => mT (inX11 w h)) hown hG.1 hP (hst.1 255 (by decide)) hf10 rfl 13 (by decide) (hts _ (mT wg_1349)) (fun _ h => h) rfl dX11_planLine_25 ?_
    refine lv_imul hx hb dX11_planLine_28 ?_
    refine lv_topi (fun x14 ex14 => ?_)
    have hb15 : In x14 0 95 := ex14 ▸ In.mul (⟨by decide, by decide⟩ : In 5 5 5) hb13 (by decide) (by decide) (by decide) (by decide) (by decide)
    refine lv_istore_n (lv' := [(2, .int x14), (1, .int r3), (0, .ref (ad 255))]) hx hb dX11_planLine_29 rfl hl (by decide) rfl (fun ls hl => ?_)
    refine lv_aload_n hx hb dX11_planLine_30 rfl (lv_at hl 2 rfl) ?_
    refine pl_get (v := .ref (ad 259)) hx hb hts (fun w h => mT (inX11 w h)) hown hG.1 hP (hst.1 255 (by decide)) hf10 rfl 11 (by decide) (hts _ (mT wg_1347)) (fun _ h => h) rfl dX11_planLine_31 ?_
    refine lv_iload_n hx hb dX11_planLine_34 rfl (lv_at hl 0 rfl) ?_
    refine lv_aload_n hx hb dX11_planLine_35 rfl (lv_at hl 2 rfl) ?_
    refine va_ldcS hx hb hown (hG.2.2.1 ("RulerWordModel", 187, "phase", 8) (by decide +kernel)) dX11_planLine_36 ?_
    refine call_i (run_V (rm := rm_X11_takes) hx hb hml hown hts (s_X11_takes l g ad (gset th 37 zz8) _ _ _ 8 hst hT (by decide)) cV_X11_takes wg_1538 ⟨Nat.le_of_ble_eq_true rfl, Nat.le_of_ble_eq_true rfl⟩ hG hE hA hP hD hS (hst.1 255 (by decide)) hf10 rfl rfl hl.1 (As := [.ref (g.2.2.1 8)]) (rest := [.int x14, .ref (ad 259)]) rfl (Nat.le_of_ble_eq_true rfl) dX11_planLine_38 ⟨Nat.le_of_ble_eq_true rfl, Nat.le_of_ble_eq_true rfl⟩) hA hD hS (fun r16 L17 f18 H locs hp19 hP hD hS => ?_)
    obtain ⟨eL20L, eL20T, eL20F, eL20R⟩ := hp19
    have eL20L : L17 = L := eL20L
    rw [eL20L] at hP hD
    obtain ⟨zz21, hzz21, eL20T⟩ := eL20T
    have hT : TI g ad (gset (gset th 37 zz8) 37 zz21) f18 := eL20T
    have hT : TI g ad (gset th 37 zz21) f18 := TI.cast hT (by funext q; simp only [gset]; (repeat' split); all_goals first | rfl | omega | (subst_vars; rfl) | (exfalso; omega))
    have eL20F : ∀ b, b ≠ (ad 255) → f18 b = f5 b := eL20F
    have hfr : (∀ b, b ≠ (ad 255) → b ≠ (ad 259) → f18 b = f b) := fun b z0_ z1_ => (eL20F b z0_).trans (hfr b z0_ z1_)
    have eL20R : In r16 0 1 := eL20R
    have hJ54 : ∀ (zg54_za : Int) (zg54_zr : Int) (zg54_zl : Int) (zg54_ze : Int) (y54_s0 : Int32) (f_54 : HP) (H : Heap) (locs : List Loc) (ls : Array Slot), th 37 ≤ zg54_za ∧ zg54_za ≤ 500 → In y54_s0 (-1) 5 → va_P g.1 vwCl (va_pl L f_54) H → va_D A (va_pl L f_54) → va_S A s.heap H locs → TI g ad (gset (gset (gset (gset th 37 zg54_za) 40 zg54_zr) 41 zg54_zl) 42 zg54_ze) f_54 → (∀ b, b ≠ (ad 255) → b ≠ (ad 259) → f_54 b = f b) → lv_has ls 3 [(0, .ref (ad 255)), (1, .int r3), (2, .int x14)] → W p l e rm_X11_planLine s m [.ref (ad 255)].toArray below meth c H locs 0 0 (MQ below (va_Qv (po_X11_planLine g ad th L f ) (PstB g A) A) [.ref (ad 255)].toArray s rm_X11_planLine.cells rm_X11_planLine.slots A) (F0 m 54 ls [.int y54_s0, .int x14, .ref (ad 259)]) := by
      intro zg54_za zg54_zr zg54_zl zg54_ze y54_s0 f_54 H locs ls hzg54 hy54_s0 hP hD hS hT hfr hl
      obtain ⟨rw22, hf23⟩ := hT.2.2 4 (by decide)
      refine pl_iastE hx hb hG.1 hP hD hS (hst.1 259 (by decide)) 0 hf23 rfl (In.inb hb15 (by decide) (by decide)) dX11_planLine_54 (fun H locs f24 r27 er27 hf25 ho26 hP hD hS => ?_)
      have hfr : (∀ b, b ≠ (ad 255) → b ≠ (ad 259) → f24 b = f b) := fun b z0_ z1_ => (ho26 b z1_).trans (hfr b z0_ z1_)
      refine lv_aload_n hx hb dX11_planLine_55 rfl (lv_at hl 0 rfl) ?_
      have hT := TI.updM hT hst (k := 4) (by decide) hf25 ho26 ⟨r27, rfl⟩
      obtain ⟨v0_28, v2_28, v3_28, v4_28, v5_28, v6_28, v8_28, v9_28, v12_28, v13_28, v14_28, v15_28, v16_28, v17_28, v18_28, v19_28, v20_28, v21_28, v22_28, v23_28, v25_28, v36_28, v37_28, v38_28, v39_28, v40_28, v45_28, v46_28, v47_28, v48_28, v50_28, v51_28, v53_28, v55_28, hf29, hv0_28, hv2_28, hg2_28, hv3_28, hg3_28, hv4_28, hg4_28, hv5_28, hg5_28, hv6_28, hg6_28, hv8_28, hv9_28, hg9_28, hv12_28, hv13_28, hg13_28, hv14_28, hg14_28, hv15_28, hg15_28, hv17_28, hg17_28, hv20_28, hg20_28, hv23_28, hg23_28, hv25_28, hv36_28, hg36_28, hv47_28, hg47_28, hv48_28, hg48_28, hv53_28, hg53_28, hv55_28, hg55_28, hrel0_28⟩ := hT.2.2 0 (by decide)
      have hg2_28 : v2_28.toInt = th 13 := hg2_28
      have hg3_28 : v3_28.toInt = zg54_za := hg3_28
      have hg4_28 : v4_28.toInt = zg54_ze := hg4_28
      have hg5_28 : v5_28.toInt = zg54_zr := hg5_28
      have hg6_28 : v6_28.toInt = zg54_zl := hg6_28
      have hg9_28 : v9_28.toInt = th 35 := hg9_28
      have hg13_28 : v13_28.toInt = th 36 := hg13_28
      have hg14_28 : v14_28.toInt = th 10 := hg14_28
      have hg15_28 : v15_28.toInt = th 11 := hg15_28
      have hg17_28 : v17_28.toInt = th 12 := hg17_28
      have hg20_28 : v20_28.toInt = th 14 := hg20_28
      have hg23_28 : v23_28.toInt = th 15 := hg23_28
      have hg36_28 : v36_28.toInt = th 18 := hg36_28
      have hg47_28 : v47_28.toInt = th 16 := hg47_28
      have hg48_28 : v48_28.toInt = th 17 := hg48_28
      have hg53_28 : v53_28.toInt = th 38 := hg53_28
      have hg55_28 : v55_28.toInt = th 39 := hg55_28
      refine pl_get (v := .ref (ad 259)) hx hb hts (fun w h => mT (inX11 w h)) hown hG.1 hP (hst.1 255 (by decide)) hf29 rfl 11 (by decide) (hts _ (mT wg_1347)) (fun _ h => h) rfl dX11_planLine_56 ?_
      refine lv_iload_n hx hb dX11_planLine_59 rfl (lv_at hl 2 rfl) ?_
      refine lv_iconst (v := 1) hx hb dX11_planLine_60 (by decide) ?_
      refine lv_iadd hx hb dX11_planLine_61 ?_
      refine lv_topi (fun x30 ex30 => ?_)
      have hb31 : In x30 1 96 := ex30 ▸ In.add hb15 (⟨by decide, by decide⟩ : In 1 1 1) (by decide) (by decide) (by decide) (by decide)
      have et32 : x30.toInt = x14.toInt + 1 := In.adde ex30 hb15 (k := 1) (by decide) (by decide) (by decide)
      refine lv_aload_n hx hb dX11_planLine_62 rfl (lv_at hl 0 rfl) ?_
      refine pl_get (v := .int v4_28) hx hb hts (fun w h => mT (inX11 w h)) hown hG.1 hP (hst.1 255 (by decide)) hf29 rfl 4 (by decide) (hts _ (mT wg_1340)) (fun _ h => h) rfl dX11_planLine_63 ?_
      refine lv_iconst (v := (-1)) hx hb dX11_planLine_66 (by decide) ?_
      have hJ89 : ∀ (zg89_za : Int) (zg89_zr : Int) (zg89_zl : Int) (zg89_ze : Int) (y89_s0 : Int32) (f_89 : HP) (H : Heap) (locs : List Loc) (ls : Array Slot), th 37 ≤ zg89_za ∧ zg89_za ≤ 500 → In y89_s0 (-1) 2 → va_P g.1 vwCl (va_pl L f_89) H → va_D A (va_pl L f_89) → va_S A s.heap H locs → TI g ad (gset (gset (gset (gset th 37 zg89_za) 40 zg89_zr) 41 zg89_zl) 42 zg89_ze) f_89 → (∀ b, b ≠ (ad 255) → b ≠ (ad 259) → f_89 b = f b) → f_89 (ad 259) = .inl (g.2.1 0, 100, .inl (r27)) → lv_has ls 3 [(0, .ref (ad 255)), (1, .int r3), (2, .int x14)] → W p l e rm_X11_planLine s m [.ref (ad 255)].toArray below meth c H locs 0 0 (MQ below (va_Qv (po_X11_planLine g ad th L f ) (PstB g A) A) [.ref (ad 255)].toArray s rm_X11_planLine.cells rm_X11_planLine.slots A) (F0 m 89 ls [.int y89_s0, .int x30, .ref (ad 259)]) := by
        intro zg89_za zg89_zr zg89_zl zg89_ze y89_s0 f_89 H locs ls hzg89 hy89_s0 hP hD hS hT hfr hf33 hl
        refine pl_iastE hx hb hG.1 hP hD hS (hst.1 259 (by decide)) 0 hf33 rfl (In.inb hb31 (by decide) (by decide)) dX11_planLine_89 (fun H locs f34 r37 er37 hf35 ho36 hP hD hS => ?_)
        have hfr : (∀ b, b ≠ (ad 255) → b ≠ (ad 259) → f34 b = f b) := fun b z0_ z1_ => (ho36 b z1_).trans (hfr b z0_ z1_)
        refine lv_aload_n hx hb dX11_planLine_90 rfl (lv_at hl 0 rfl) ?_
        have hT := TI.updM hT hst (k := 4) (by decide) hf35 ho36 ⟨r37, rfl⟩
        obtain ⟨v0_38, v2_38, v3_38, v4_38, v5_38, v6_38, v8_38, v9_38, v12_38, v13_38, v14_38, v15_38, v16_38, v17_38, v18_38, v19_38, v20_38, v21_38, v22_38, v23_38, v25_38, v36_38, v37_38, v38_38, v39_38, v40_38, v45_38, v46_38, v47_38, v48_38, v50_38, v51_38, v53_38, v55_38, hf39, hv0_38, hv2_38, hg2_38, hv3_38, hg3_38, hv4_38, hg4_38, hv5_38, hg5_38, hv6_38, hg6_38, hv8_38, hv9_38, hg9_38, hv12_38, hv13_38, hg13_38, hv14_38, hg14_38, hv15_38, hg15_38, hv17_38, hg17_38, hv20_38, hg20_38, hv23_38, hg23_38, hv25_38, hv36_38, hg36_38, hv47_38, hg47_38, hv48_38, hg48_38, hv53_38, hg53_38, hv55_38, hg55_38, hrel0_38⟩ := hT.2.2 0 (by decide)
        have hg2_38 : v2_38.toInt = th 13 := hg2_38
        have hg3_38 : v3_38.toInt = zg89_za := hg3_38
        have hg4_38 : v4_38.toInt = zg89_ze := hg4_38
        have hg5_38 : v5_38.toInt = zg89_zr := hg5_38
        have hg6_38 : v6_38.toInt = zg89_zl := hg6_38
        have hg9_38 : v9_38.toInt = th 35 := hg9_38
        have hg13_38 : v13_38.toInt = th 36 := hg13_38
        have hg14_38 : v14_38.toInt = th 10 := hg14_38
        have hg15_38 : v15_38.toInt = th 11 := hg15_38
        have hg17_38 : v17_38.toInt = th 12 := hg17_38
        have hg20_38 : v20_38.toInt = th 14 := hg20_38
        have hg23_38 : v23_38.toInt = th 15 := hg23_38
        have hg36_38 : v36_38.toInt = th 18 := hg36_38
        have hg47_38 : v47_38.toInt = th 16 := hg47_38
        have hg48_38 : v48_38.toInt = th 17 := hg48_38
        have hg53_38 : v53_38.toInt = th 38 := hg53_38
        have hg55_38 : v55_38.toInt = th 39 := hg55_38
        refine pl_get (v := .ref (ad 259)) hx hb hts (fun w h => mT (inX11 w h)) hown hG.1 hP (hst.1 255 (by decide)) hf39 rfl 11 (by decide) (hts _ (mT wg_1347)) (fun _ h => h) rfl dX11_planLine_91 ?_
        refine lv_iload_n hx hb dX11_planLine_94 rfl (lv_at hl 2 rfl) ?_
        refine lv_iconst (v := 2) hx hb dX11_planLine_95 (by decide) ?_
        refine lv_iadd hx hb dX11_planLine_96 ?_
        refine lv_topi (fun x40 ex40 => ?_)
        have hb41 : In x40 2 97 := ex40 ▸ In.add hb15 (⟨by decide, by decide⟩ : In 2 2 2) (by decide) (by decide) (by decide) (by decide)
        have et42 : x40.toInt = x14.toInt + 2 := In.adde ex40 hb15 (k := 2) (by decide) (by decide) (by decide)
        refine lv_aload_n hx hb dX11_planLine_97 rfl (lv_at hl 0 rfl) ?_
        refine pl_get (v := .int v4_38) hx hb hts (fun w h => mT (inX11 w h)) hown hG.1 hP (hst.1 255 (by decide)) hf39 rfl 4 (by decide) (hts _ (mT wg_1340)) (fun _ h => h) rfl dX11_planLine_98 ?_
        refine lv_iconst (v := (-1)) hx hb dX11_planLine_101 (by decide) ?_
        have hJ125 : ∀ (zg125_za : Int) (zg125_zr : Int) (zg125_zl : Int) (zg125_ze : Int) (y125_s0 : Int32) (f_125 : HP) (H : Heap) (locs : List Loc) (ls : Array Slot), th 37 ≤ zg125_za ∧ zg125_za ≤ 500 → In y125_s0 (-1) 8 → va_P g.1 vwCl (va_pl L f_125) H → va_D A (va_pl L f_125) → va_S A s.heap H locs → TI g ad (gset (gset (gset (gset th 37 zg125_za) 40 zg125_zr) 41 zg125_zl) 42 zg125_ze) f_125 → (∀ b, b ≠ (ad 255) → b ≠ (ad 259) → f_125 b = f b) → f_125 (ad 259) = .inl (g.2.1 0, 100, .inl (r37)) → lv_has ls 3 [(0, .ref (ad 255)), (1, .int r3), (2, .int x14)] → W p l e rm_X11_planLine s m [.ref (ad 255)].toArray below meth c H locs 0 0 (MQ below (va_Qv (po_X11_planLine g ad th L f ) (PstB g A) A) [.ref (ad 255)].toArray s rm_X11_planLine.cells rm_X11_planLine.slots A) (F0 m 125 ls [.int y125_s0, .int x40, .ref (ad 259)]) := by
          intro zg125_za zg125_zr zg125_zl zg125_ze y125_s0 f_125 H locs ls hzg125 hy125_s0 hP hD hS hT hfr hf43 hl
          refine pl_iastE hx hb hG.1 hP hD hS (hst.1 259 (by decide)) 0 hf43 rfl (In.inb hb41 (by decide) (by decide)) dX11_planLine_125 (fun H locs f44 r47 er47 hf45 ho46 hP hD hS => ?_)
          have hfr : (∀ b, b ≠ (ad 255) → b ≠ (ad 259) → f44 b = f b) := fun b z0_ z1_ => (ho46 b z1_).trans (hfr b z0_ z1_)
          refine lv_aload_n hx hb dX11_planLine_126 rfl (lv_at hl 0 rfl) ?_
          have hT := TI.updM hT hst (k := 4) (by decide) hf45 ho46 ⟨r47, rfl⟩
          obtain ⟨v0_48, v2_48, v3_48, v4_48, v5_48, v6_48, v8_48, v9_48, v12_48, v13_48, v14_48, v15_48, v16_48, v17_48, v18_48, v19_48, v20_48, v21_48, v22_48, v23_48, v25_48, v36_48, v37_48, v38_48, v39_48, v40_48, v45_48, v46_48, v47_48, v48_48, v50_48, v51_48, v53_48, v55_48, hf49, hv0_48, hv2_48, hg2_48, hv3_48, hg3_48, hv4_48, hg4_48, hv5_48, hg5_48, hv6_48, hg6_48, hv8_48, hv9_48, hg9_48, hv12_48, hv13_48, hg13_48, hv14_48, hg14_48, hv15_48, hg15_48, hv17_48, hg17_48, hv20_48, hg20_48, hv23_48, hg23_48, hv25_48, hv36_48, hg36_48, hv47_48, hg47_48, hv48_48, hg48_48, hv53_48, hg53_48, hv55_48, hg55_48, hrel0_48⟩ := hT.2.2 0 (by decide)
          have hg2_48 : v2_48.toInt = th 13 := hg2_48
          have hg3_48 : v3_48.toInt = zg125_za := hg3_48
          have hg4_48 : v4_48.toInt = zg125_ze := hg4_48
          have hg5_48 : v5_48.toInt = zg125_zr := hg5_48
          have hg6_48 : v6_48.toInt = zg125_zl := hg6_48
          have hg9_48 : v9_48.toInt = th 35 := hg9_48
          have hg13_48 : v13_48.toInt = th 36 := hg13_48
          have hg14_48 : v14_48.toInt = th 10 := hg14_48
          have hg15_48 : v15_48.toInt = th 11 := hg15_48
          have hg17_48 : v17_48.toInt = th 12 := hg17_48
          have hg20_48 : v20_48.toInt = th 14 := hg20_48
          have hg23_48 : v23_48.toInt = th 15 := hg23_48
          have hg36_48 : v36_48.toInt = th 18 := hg36_48
          have hg47_48 : v47_48.toInt = th 16 := hg47_48
          have hg48_48 : v48_48.toInt = th 17 := hg48_48
          have hg53_48 : v53_48.toInt = th 38 := hg53_48
          have hg55_48 : v55_48.toInt = th 39 := hg55_48
          refine pl_get (v := .ref (ad 259)) hx hb hts (fun w h => mT (inX11 w h)) hown hG.1 hP (hst.1 255 (by decide)) hf49 rfl 11 (by decide) (hts _ (mT wg_1347)) (fun _ h => h) rfl dX11_planLine_127 ?_
          refine lv_iload_n hx hb dX11_planLine_130 rfl (lv_at hl 2 rfl) ?_
          refine lv_iconst (v := 3) hx hb dX11_planLine_131 (by decide) ?_
          refine lv_iadd hx hb dX11_planLine_132 ?_
          refine lv_topi (fun x50 ex50 => ?_)
          have hb51 : In x50 3 98 := ex50 ▸ In.add hb15 (⟨by decide, by decide⟩ : In 3 3 3) (by decide) (by decide) (by decide) (by decide)
          have et52 : x50.toInt = x14.toInt + 3 := In.adde ex50 hb15 (k := 3) (by decide) (by decide) (by decide)
          refine lv_aload_n hx hb dX11_planLine_133 rfl (lv_at hl 0 rfl) ?_
          refine pl_get (v := .int v4_48) hx hb hts (fun w h => mT (inX11 w h)) hown hG.1 hP (hst.1 255 (by decide)) hf49 rfl 4 (by decide) (hts _ (mT wg_1340)) (fun _ h => h) rfl dX11_planLine_134 ?_
          refine lv_iconst (v := (-1)) hx hb dX11_planLine_137 (by decide) ?_
          have hJ161 : ∀ (zg161_za : Int) (zg161_zr : Int) (zg161_zl : Int) (zg161_ze : Int) (y161_s0 : Int32) (f_161 : HP) (H : Heap) (locs : List Loc) (ls : Array Slot), th 37 ≤ zg161_za ∧ zg161_za ≤ 500 → In y161_s0 (-1) 8 → va_P g.1 vwCl (va_pl L f_161) H → va_D A (va_pl L f_161) → va_S A s.heap H locs → TI g ad (gset (gset (gset (gset th 37 zg161_za) 40 zg161_zr) 41 zg161_zl) 42 zg161_ze) f_161 → (∀ b, b ≠ (ad 255) → b ≠ (ad 259) → f_161 b = f b) → f_161 (ad 259) = .inl (g.2.1 0, 100, .inl (r47)) → lv_has ls 3 [(0, .ref (ad 255)), (1, .int r3), (2, .int x14)] → W p l e rm_X11_planLine s m [.ref (ad 255)].toArray below meth c H locs 0 0 (MQ below (va_Qv (po_X11_planLine g ad th L f ) (PstB g A) A) [.ref (ad 255)].toArray s rm_X11_planLine.cells rm_X11_planLine.slots A) (F0 m 161 ls [.int y161_s0, .int x50, .ref (ad 259)]) := by
            intro zg161_za zg161_zr zg161_zl zg161_ze y161_s0 f_161 H locs ls hzg161 hy161_s0 hP hD hS hT hfr hf53 hl
            refine pl_iastE hx hb hG.1 hP hD hS (hst.1 259 (by decide)) 0 hf53 rfl (In.inb hb51 (by decide) (by decide)) dX11_planLine_161 (fun H locs f54 r57 er57 hf55 ho56 hP hD hS => ?_)
            have hfr : (∀ b, b ≠ (ad 255) → b ≠ (ad 259) → f54 b = f b) := fun b z0_ z1_ => (ho56 b z1_).trans (hfr b z0_ z1_)
            refine lv_aload_n hx hb dX11_planLine_162 rfl (lv_at hl 0 rfl) ?_
            have hT := TI.updM hT hst (k := 4) (by decide) hf55 ho56 ⟨r57, rfl⟩
            obtain ⟨v0_58, v2_58, v3_58, v4_58, v5_58, v6_58, v8_58, v9_58, v12_58, v13_58, v14_58, v15_58, v16_58, v17_58, v18_58, v19_58, v20_58, v21_58, v22_58, v23_58, v25_58, v36_58, v37_58, v38_58, v39_58, v40_58, v45_58, v46_58, v47_58, v48_58, v50_58, v51_58, v53_58, v55_58, hf59, hv0_58, hv2_58, hg2_58, hv3_58, hg3_58, hv4_58, hg4_58, hv5_58, hg5_58, hv6_58, hg6_58, hv8_58, hv9_58, hg9_58, hv12_58, hv13_58, hg13_58, hv14_58, hg14_58, hv15_58, hg15_58, hv17_58, hg17_58, hv20_58, hg20_58, hv23_58, hg23_58, hv25_58, hv36_58, hg36_58, hv47_58, hg47_58, hv48_58, hg48_58, hv53_58, hg53_58, hv55_58, hg55_58, hrel0_58⟩ := hT.2.2 0 (by decide)
            have hg2_58 : v2_58.toInt = th 13 := hg2_58
            have hg3_58 : v3_58.toInt = zg161_za := hg3_58
            have hg4_58 : v4_58.toInt = zg161_ze := hg4_58
            have hg5_58 : v5_58.toInt = zg161_zr := hg5_58
            have hg6_58 : v6_58.toInt = zg161_zl := hg6_58
            have hg9_58 : v9_58.toInt = th 35 := hg9_58
            have hg13_58 : v13_58.toInt = th 36 := hg13_58
            have hg14_58 : v14_58.toInt = th 10 := hg14_58
            have hg15_58 : v15_58.toInt = th 11 := hg15_58
            have hg17_58 : v17_58.toInt = th 12 := hg17_58
            have hg20_58 : v20_58.toInt = th 14 := hg20_58
            have hg23_58 : v23_58.toInt = th 15 := hg23_58
            have hg36_58 : v36_58.toInt = th 18 := hg36_58
            have hg47_58 : v47_58.toInt = th 16 := hg47_58
            have hg48_58 : v48_58.toInt = th 17 := hg48_58
            have hg53_58 : v53_58.toInt = th 38 := hg53_58
            have hg55_58 : v55_58.toInt = th 39 := hg55_58
            refine pl_get (v := .int v4_58) hx hb hts (fun w h => mT (inX11 w h)) hown hG.1 hP (hst.1 255 (by decide)) hf59 rfl 4 (by decide) (hts _ (mT wg_1340)) (fun _ h => h) rfl dX11_planLine_163 ?_
            refine lv_iconst (v := (-1)) hx hb dX11_planLine_166 (by decide) ?_
            refine lv_icmp_eq (tgt := 171) hx hb dX11_planLine_167 (by decide) (fun c60 => ?_) (fun c60 => ?_)
            ·
              have ocm1 : ((-1) : Int32).toInt = (-1) := by decide
              have cc61 : v4_58.toInt = ((-1) : Int32).toInt := congrArg Int32.toInt c60
              have hb62 : In v4_58 (-1) (-1) := In.eq1 hv4_58 (⟨by decide, by decide⟩ : In (-1) (-1) (-1)) cc61 (by omega) (by omega)
              refine lv_aload_n hx hb dX11_planLine_171 rfl (lv_at hl 0 rfl) ?_
              refine call_i (run_V (rm := rm_X11_look) hx hb hml hown hts (s_X11_look l g ad (gset (gset (gset (gset th 37 zg161_za) 40 zg161_zr) 41 zg161_zl) 42 zg161_ze) _ _ _  hst hT ) cV_X11_look wg_1529 ⟨Nat.le_of_ble_eq_true rfl, Nat.le_of_ble_eq_true rfl⟩ hG hE hA hP hD hS (hst.1 255 (by decide)) hf59 rfl rfl hl.1 (As := []) (rest := []) rfl (Nat.le_of_ble_eq_true rfl) dX11_planLine_172 ⟨Nat.le_of_ble_eq_true rfl, Nat.le_of_ble_eq_true rfl⟩) hA hD hS (fun r63 L64 f65 H locs hp66 hP hD hS => ?_)
              obtain ⟨eL67L, eL67T, eL67F, eL67R⟩ := hp66
              have eL67L : L64 = L := eL67L
              rw [eL67L] at hP hD
              obtain ⟨zz68, hzz68, eL67T⟩ := eL67T
              have hT : TI g ad (gset (gset (gset (gset (gset th 37 zg161_za) 40 zg161_zr) 41 zg161_zl) 42 zg161_ze) 37 zz68) f65 := eL67T
              have hT : TI g ad (gset (gset (gset (gset th 40 zg161_zr) 41 zg161_zl) 42 zg161_ze) 37 zz68) f65 := TI.cast hT (by funext q; simp only [gset]; (repeat' split); all_goals first | rfl | omega | (subst_vars; rfl) | (exfalso; omega))
              have eL67F : ∀ b, b ≠ (ad 255) → f65 b = f54 b := eL67F
              have hf69 := (eL67F (ad 259) (hst.ne (by decide) (by decide) (by decide))).trans hf55
              have hfr : (∀ b, b ≠ (ad 255) → b ≠ (ad 259) → f65 b = f b) := fun b z0_ z1_ => (eL67F b z0_).trans (hfr b z0_ z1_)
              have eL67R : In r63 (-1) 255 := eL67R
              refine lv_istore_n (lv' := [(1, .int r63), (0, .ref (ad 255)), (2, .int x14)]) hx hb dX11_planLine_175 rfl hl (by decide) rfl (fun ls hl => ?_)
              refine lv_iload_n hx hb dX11_planLine_176 rfl (lv_at hl 0 rfl) ?_
              refine call_i (run_S (rm := rm_X11_isDigit) hx hb hml hown hts (s_X11_isDigit l g ad (gset (gset (gset (gset th 40 zg161_zr) 41 zg161_zl) 42 zg161_ze) 37 zz68) _ _ _ r63 hst hT ) cS_X11_isDigit wg_1574 ⟨Nat.le_of_ble_eq_true rfl, Nat.le_of_ble_eq_true rfl⟩ hG hE hA hP hD hS rfl hl.1 (As := [.int r63]) (rest := []) rfl (Nat.le_of_ble_eq_true rfl) dX11_planLine_177 ⟨Nat.le_of_ble_eq_true rfl, Nat.le_of_ble_eq_true rfl⟩) hA hD hS (fun r70 L71 f72 H locs hp73 hP hD hS => ?_)
              obtain ⟨eL74L, eL74T, eL74R, eL74W0⟩ := hp73
              have eL74L : L71 = L := eL74L
              have eL74T : f72 = f65 := eL74T
              rw [eL74L, eL74T] at hP hD
              have eL74R : In r70 0 1 := eL74R
              have hJ293 : ∀ (zg293_za : Int) (zg293_zr : Int) (zg293_zl : Int) (zg293_ze : Int) (f_293 : HP) (H : Heap) (locs : List Loc) (ls : Array Slot), th 37 ≤ zg293_za ∧ zg293_za ≤ 500 → va_P g.1 vwCl (va_pl L f_293) H → va_D A (va_pl L f_293) → va_S A s.heap H locs → TI g ad (gset (gset (gset (gset th 37 zg293_za) 40 zg293_zr) 41 zg293_zl) 42 zg293_ze) f_293 → (∀ b, b ≠ (ad 255) → b ≠ (ad 259) → f_293 b = f b) → lv_has ls 3 [(0, .ref (ad 255)), (1, .int r63), (2, .int x14)] → W p l e rm_X11_planLine s m [.ref (ad 255)].toArray below meth c H locs 0 0 (MQ below (va_Qv (po_X11_planLine g ad th L f ) (PstB g A) A) [.ref (ad 255)].toArray s rm_X11_planLine.cells rm_X11_planLine.slots A) (F0 m 293 ls []) := by
                intro zg293_za zg293_zr zg293_zl zg293_ze f_293 H locs ls hzg293 hP hD hS hT hfr hl
                refine lv_aload_n hx hb dX11_planLine_293 rfl (lv_at hl 0 rfl) ?_
                refine lv_dup hx hb dX11_planLine_294 rfl ?_
                obtain ⟨v0_75, v2_75, v3_75, v4_75, v5_75, v6_75, v8_75, v9_75, v12_75, v13_75, v14_75, v15_75, v16_75, v17_75, v18_75, v19_75, v20_75, v21_75, v22_75, v23_75, v25_75, v36_75, v37_75, v38_75, v39_75, v40_75, v45_75, v46_75, v47_75, v48_75, v50_75, v51_75, v53_75, v55_75, hf76, hv0_75, hv2_75, hg2_75, hv3_75, hg3_75, hv4_75, hg4_75, hv5_75, hg5_75, hv6_75, hg6_75, hv8_75, hv9_75, hg9_75, hv12_75, hv13_75, hg13_75, hv14_75, hg14_75, hv15_75, hg15_75, hv17_75, hg17_75, hv20_75, hg20_75, hv23_75, hg23_75, hv25_75, hv36_75, hg36_75, hv47_75, hg47_75, hv48_75, hg48_75, hv53_75, hg53_75, hv55_75, hg55_75, hrel0_75⟩ := hT.2.2 0 (by decide)
                have hg2_75 : v2_75.toInt = th 13 := hg2_75
                have hg3_75 : v3_75.toInt = zg293_za := hg3_75
                have hg4_75 : v4_75.toInt = zg293_ze := hg4_75
                have hg5_75 : v5_75.toInt = zg293_zr := hg5_75
                have hg6_75 : v6_75.toInt = zg293_zl := hg6_75
                have hg9_75 : v9_75.toInt = th 35 := hg9_75
                have hg13_75 : v13_75.toInt = th 36 := hg13_75
                have hg14_75 : v14_75.toInt = th 10 := hg14_75
                have hg15_75 : v15_75.toInt = th 11 := hg15_75
                have hg17_75 : v17_75.toInt = th 12 := hg17_75
                have hg20_75 : v20_75.toInt = th 14 := hg20_75
                have hg23_75 : v23_75.toInt = th 15 := hg23_75
                have hg36_75 : v36_75.toInt = th 18 := hg36_75
                have hg47_75 : v47_75.toInt = th 16 := hg47_75
                have hg48_75 : v48_75.toInt = th 17 := hg48_75
                have hg53_75 : v53_75.toInt = th 38 := hg53_75
                have hg55_75 : v55_75.toInt = th 39 := hg55_75
                refine pl_get (v := .int v13_75) hx hb hts (fun w h => mT (inX11 w h)) hown hG.1 hP (hst.1 255 (by decide)) hf76 rfl 13 (by decide) (hts _ (mT wg_1349)) (fun _ h => h) rfl dX11_planLine_295 ?_
                refine lv_iconst (v := 1) hx hb dX11_planLine_298 (by decide) ?_
                refine lv_iadd hx hb dX11_planLine_299 ?_
                refine lv_topi (fun x77 ex77 => ?_)
                have hb78 : In x77 1 21 := ex77 ▸ In.add hv13_75 (⟨by decide, by decide⟩ : In 1 1 1) (by decide) (by decide) (by decide) (by decide)
                have et79 : x77.toInt = v13_75.toInt + 1 := In.adde ex77 hv13_75 (k := 1) (by decide) (by decide) (by decide)
                refine pl_put (ty := .int) (v := .int x77) (fs' := [.int v0_75, .ref (ad 256), .int v2_75, .int v3_75, .int v4_75, .int v5_75, .int v6_75, .ref (ad 257), .int v8_75, .int v9_75, .ref (ad 258), .ref (ad 259), .int v12_75, .int x77, .int v14_75, .int v15_75, .int v16_75, .int v17_75, .int v18_75, .int v19_75, .int v20_75, .long v21_75, .long v22_75, .int v23_75, .ref (ad 260), .int v25_75, .ref (ad 261), .ref (ad 262), .ref (ad 263), .ref (ad 264), .ref (ad 265), .ref (ad 266), .ref (ad 267), .ref (ad 268), .ref (ad 269), .ref (ad 270), .int v36_75, .int v37_75, .int v38_75, .int v39_75, .int v40_75, .ref (ad 271), .ref (ad 272), .ref (ad 273), .ref (ad 274), .long v45_75, .long v46_75, .int v47_75, .int v48_75, .ref (ad 275), .int v50_75, .int v51_75, .ref (ad 276), .int v53_75, .ref (ad 277), .int v55_75]) hx hb hts (fun w h => mT (inX11 w h)) tyX11 tyX11_ok nmX11 hown hG.1 hP hD hS (hst.1 255 (by decide)) hf76 rfl 13 (by decide) (hts _ (mT wg_1349)) (fun _ h => h) rfl (by decide +kernel) (rfl) (rfl) (Nat.le_of_ble_eq_true rfl) rfl dX11_planLine_300 (fun H locs f80 hf81 ho82 hP hD hS => ?_)
                have hfr : (∀ b, b ≠ (ad 255) → b ≠ (ad 259) → f80 b = f b) := fun b z0_ z1_ => (ho82 b z0_).trans (hfr b z0_ z1_)
                have hT := TI.updMG (th' := (gset (gset (gset (gset (gset th 37 zg293_za) 40 zg293_zr) 41 zg293_zl) 42 zg293_ze) 36 (x77.toInt))) hT hst (k := 0) (by decide) hf81 ho82 ⟨v0_75, v2_75, v3_75, v4_75, v5_75, v6_75, v8_75, v9_75, v12_75, x77, v14_75, v15_75, v16_75, v17_75, v18_75, v19_75, v20_75, v21_75, v22_75, v23_75, v25_75, v36_75, v37_75, v38_75, v39_75, v40_75, v45_75, v46_75, v47_75, v48_75, v50_75, v51_75, v53_75, v55_75, rfl, hv0_75, hv2_75, (by rw [hg2_75]; simp [gset]), hv3_75, (by rw [hg3_75]; simp [gset]), hv4_75, (by rw [hg4_75]; simp [gset]), hv5_75, (by rw [hg5_75]; simp [gset]), hv6_75, (by rw [hg6_75]; simp [gset]), hv8_75, hv9_75, (by rw [hg9_75]; simp [gset]), hv12_75, (In.mk (by obtain ⟨o0a, o0b⟩ := (hb78 : In _ _ _); obtain ⟨o1a, o1b⟩ := (hv2_75 : In _ _ _); obtain ⟨o2a, o2b⟩ := (hv3_75 : In _ _ _); obtain ⟨o3a, o3b⟩ := (hv4_75 : In _ _ _); obtain ⟨o4a, o4b⟩ := (hv5_75 : In _ _ _); obtain ⟨o5a, o5b⟩ := (hv6_75 : In _ _ _); obtain ⟨o6a, o6b⟩ := (hv9_75 : In _ _ _); obtain ⟨o7a, o7b⟩ := (hv14_75 : In _ _ _); obtain ⟨o8a, o8b⟩ := (hv15_75 : In _ _ _); obtain ⟨o9a, o9b⟩ := (hv17_75 : In _ _ _); obtain ⟨o10a, o10b⟩ := (hv20_75 : In _ _ _); obtain ⟨o11a, o11b⟩ := (hv23_75 : In _ _ _); obtain ⟨o12a, o12b⟩ := (hv36_75 : In _ _ _); obtain ⟨o13a, o13b⟩ := (hv47_75 : In _ _ _); obtain ⟨o14a, o14b⟩ := (hv48_75 : In _ _ _); obtain ⟨o15a, o15b⟩ := (hv53_75 : In _ _ _); obtain ⟨o16a, o16b⟩ := (hv55_75 : In _ _ _); obtain ⟨o17a, o17b⟩ := (hv13_75 : In _ _ _); omega) (by obtain ⟨o0a, o0b⟩ := (hb78 : In _ _ _); obtain ⟨o1a, o1b⟩ := (hv2_75 : In _ _ _); obtain ⟨o2a, o2b⟩ := (hv3_75 : In _ _ _); obtain ⟨o3a, o3b⟩ := (hv4_75 : In _ _ _); obtain ⟨o4a, o4b⟩ := (hv5_75 : In _ _ _); obtain ⟨o5a, o5b⟩ := (hv6_75 : In _ _ _); obtain ⟨o6a, o6b⟩ := (hv9_75 : In _ _ _); obtain ⟨o7a, o7b⟩ := (hv14_75 : In _ _ _); obtain ⟨o8a, o8b⟩ := (hv15_75 : In _ _ _); obtain ⟨o9a, o9b⟩ := (hv17_75 : In _ _ _); obtain ⟨o10a, o10b⟩ := (hv20_75 : In _ _ _); obtain ⟨o11a, o11b⟩ := (hv23_75 : In _ _ _); obtain ⟨o12a, o12b⟩ := (hv36_75 : In _ _ _); obtain ⟨o13a, o13b⟩ := (hv47_75 : In _ _ _); obtain ⟨o14a, o14b⟩ := (hv48_75 : In _ _ _); obtain ⟨o15a, o15b⟩ := (hv53_75 : In _ _ _); obtain ⟨o16a, o16b⟩ := (hv55_75 : In _ _ _); obtain ⟨o17a, o17b⟩ := (hv13_75 : In _ _ _); omega)), (by simp [gset]), hv14_75, (by rw [hg14_75]; simp [gset]), hv15_75, (by rw [hg15_75]; simp [gset]), hv17_75, (by rw [hg17_75]; simp [gset]), hv20_75, (by rw [hg20_75]; simp [gset]), hv23_75, (by rw [hg23_75]; simp [gset]), hv25_75, hv36_75, (by rw [hg36_75]; simp [gset]), hv47_75, (by rw [hg47_75]; simp [gset]), hv48_75, (by rw [hg48_75]; simp [gset]), hv53_75, (by rw [hg53_75]; simp [gset]), hv55_75, (by rw [hg55_75]; simp [gset]), hrel0_75⟩ (fun q hq => ((gset_ne (fun e => hq (by subst e; decide))).trans rfl))
                have hT : TI g ad (gset (gset (gset (gset (gset th 37 zg293_za) 40 zg293_zr) 41 zg293_zl) 42 zg293_ze) 36 x77.toInt) f80 := TI.cast hT (by funext q; simp only [gset]; (repeat' split); all_goals first | rfl | omega | (subst_vars; rfl) | (exfalso; omega))
                exact ret_v hx hb hr hlocks hP hD hS (Nat.le_of_ble_eq_true rfl) (Nat.le_of_ble_eq_true rfl) (⟨rfl, ⟨zg293_za, zg293_zr, zg293_zl, zg293_ze, x77.toInt, (show th 37 ≤ zg293_za ∧ zg293_za ≤ 500 from (by omega)), TI.cast hT (by funext q; simp only [gset]; (repeat' split); all_goals first | rfl | omega | (subst_vars; rfl) | (exfalso; omega))⟩, hfr⟩) dX11_planLine_303
              refine lv_if_eq (tgt := 200) hx hb dX11_planLine_180 (by decide) (fun c83 => ?_) (fun c83 => ?_)
              ·
                have oc0 : (0 : Int32).toInt = 0 := by decide
                have cc84 : r70.toInt = (0 : Int32).toInt := congrArg Int32.toInt c83
                have hb85 : In r70 0 0 := In.eq1 eL74R (⟨by decide, by decide⟩ : In 0 0 0) cc84 (by omega) (by omega)
                refine lv_aload_n hx hb dX11_planLine_200 rfl (lv_at hl 1 rfl) ?_
                refine va_ldcS hx hb hown (hG.2.2.1 ("RulerWordModel", 195, "same", 12) (by decide +kernel)) dX11_planLine_201 ?_
                obtain ⟨v0_86, v2_86, v3_86, v4_86, v5_86, v6_86, v8_86, v9_86, v12_86, v13_86, v14_86, v15_86, v16_86, v17_86, v18_86, v19_86, v20_86, v21_86, v22_86, v23_86, v25_86, v36_86, v37_86, v38_86, v39_86, v40_86, v45_86, v46_86, v47_86, v48_86, v50_86, v51_86, v53_86, v55_86, hf87, hv0_86, hv2_86, hg2_86, hv3_86, hg3_86, hv4_86, hg4_86, hv5_86, hg5_86, hv6_86, hg6_86, hv8_86, hv9_86, hg9_86, hv12_86, hv13_86, hg13_86, hv14_86, hg14_86, hv15_86, hg15_86, hv17_86, hg17_86, hv20_86, hg20_86, hv23_86, hg23_86, hv25_86, hv36_86, hg36_86, hv47_86, hg47_86, hv48_86, hg48_86, hv53_86, hg53_86, hv55_86, hg55_86, hrel0_86⟩ := hT.2.2 0 (by decide)
                have hg2_86 : v2_86.toInt = th 13 := hg2_86
                have hg3_86 : v3_86.toInt = zz68 := hg3_86
                have hg4_86 : v4_86.toInt = zg161_ze := hg4_86
                have hg5_86 : v5_86.toInt = zg161_zr := hg5_86
                have hg6_86 : v6_86.toInt = zg161_zl := hg6_86
                have hg9_86 : v9_86.toInt = th 35 := hg9_86
                have hg13_86 : v13_86.toInt = th 36 := hg13_86
                have hg14_86 : v14_86.toInt = th 10 := hg14_86
                have hg15_86 : v15_86.toInt = th 11 := hg15_86
                have hg17_86 : v17_86.toInt = th 12 := hg17_86
                have hg20_86 : v20_86.toInt = th 14 := hg20_86
                have hg23_86 : v23_86.toInt = th 15 := hg23_86
                have hg36_86 : v36_86.toInt = th 18 := hg36_86
                have hg47_86 : v47_86.toInt = th 16 := hg47_86
                have hg48_86 : v48_86.toInt = th 17 := hg48_86
                have hg53_86 : v53_86.toInt = th 38 := hg53_86
                have hg55_86 : v55_86.toInt = th 39 := hg55_86
                refine call_i (run_V (rm := rm_X11_takes) hx hb hml hown hts (s_X11_takes l g ad (gset (gset (gset (gset th 40 zg161_zr) 41 zg161_zl) 42 zg161_ze) 37 zz68) _ _ _ 12 hst hT (by decide)) cV_X11_takes wg_1538 ⟨Nat.le_of_ble_eq_true rfl, Nat.le_of_ble_eq_true rfl⟩ hG hE hA hP hD hS (hst.1 255 (by decide)) hf87 rfl rfl hl.1 (As := [.ref (g.2.2.1 12)]) (rest := []) rfl (Nat.le_of_ble_eq_true rfl) dX11_planLine_203 ⟨Nat.le_of_ble_eq_true rfl, Nat.le_of_ble_eq_true rfl⟩) hA hD hS (fun r88 L89 f90 H locs hp91 hP hD hS => ?_)
                obtain ⟨eL92L, eL92T, eL92F, eL92R⟩ := hp91
                have eL92L : L89 = L := eL92L
                rw [eL92L] at hP hD
                obtain ⟨zz93, hzz93, eL92T⟩ := eL92T
                have hT : TI g ad (gset (gset (gset (gset (gset th 40 zg161_zr) 41 zg161_zl) 42 zg161_ze) 37 zz68) 37 zz93) f90 := eL92T
                have hT : TI g ad (gset (gset (gset (gset th 40 zg161_zr) 41 zg161_zl) 42 zg161_ze) 37 zz93) f90 := TI.cast hT (by funext q; simp only [gset]; (repeat' split); all_goals first | rfl | omega | (subst_vars; rfl) | (exfalso; omega))
                have eL92F : ∀ b, b ≠ (ad 255) → f90 b = f65 b := eL92F
                have hf94 := (eL92F (ad 259) (hst.ne (by decide) (by decide) (by decide))).trans hf69
                have hfr : (∀ b, b ≠ (ad 255) → b ≠ (ad 259) → f90 b = f b) := fun b z0_ z1_ => (eL92F b z0_).trans (hfr b z0_ z1_)
                have eL92R : In r88 0 1 := eL92R
                refine lv_if_eq (tgt := 221) hx hb dX11_planLine_206 (by decide) (fun c95 => ?_) (fun c95 => ?_)
                ·
                  have oc0 : (0 : Int32).toInt = 0 := by decide
                  have cc96 : r88.toInt = (0 : Int32).toInt := congrArg Int32.toInt c95
                  have hb97 : In r88 0 0 := In.eq1 eL92R (⟨by decide, by decide⟩ : In 0 0 0) cc96 (by omega) (by omega)
                  refine lv_aload_n hx hb dX11_planLine_221 rfl (lv_at hl 1 rfl) ?_
                  refine va_ldcS hx hb hown (hG.2.2.1 ("RulerWordModel", 197, "turn", 13) (by decide +kernel)) dX11_planLine_222 ?_
                  obtain ⟨v0_98, v2_98, v3_98, v4_98, v5_98, v6_98, v8_98, v9_98, v12_98, v13_98, v14_98, v15_98, v16_98, v17_98, v18_98, v19_98, v20_98, v21_98, v22_98, v23_98, v25_98, v36_98, v37_98, v38_98, v39_98, v40_98, v45_98, v46_98, v47_98, v48_98, v50_98, v51_98, v53_98, v55_98, hf99, hv0_98, hv2_98, hg2_98, hv3_98, hg3_98, hv4_98, hg4_98, hv5_98, hg5_98, hv6_98, hg6_98, hv8_98, hv9_98, hg9_98, hv12_98, hv13_98, hg13_98, hv14_98, hg14_98, hv15_98, hg15_98, hv17_98, hg17_98, hv20_98, hg20_98, hv23_98, hg23_98, hv25_98, hv36_98, hg36_98, hv47_98, hg47_98, hv48_98, hg48_98, hv53_98, hg53_98, hv55_98, hg55_98, hrel0_98⟩ := hT.2.2 0 (by decide)
                  have hg2_98 : v2_98.toInt = th 13 := hg2_98
                  have hg3_98 : v3_98.toInt = zz93 := hg3_98
                  have hg4_98 : v4_98.toInt = zg161_ze := hg4_98
                  have hg5_98 : v5_98.toInt = zg161_zr := hg5_98
                  have hg6_98 : v6_98.toInt = zg161_zl := hg6_98
                  have hg9_98 : v9_98.toInt = th 35 := hg9_98
                  have hg13_98 : v13_98.toInt = th 36 := hg13_98
                  have hg14_98 : v14_98.toInt = th 10 := hg14_98
                  have hg15_98 : v15_98.toInt = th 11 := hg15_98
                  have hg17_98 : v17_98.toInt = th 12 := hg17_98
                  have hg20_98 : v20_98.toInt = th 14 := hg20_98
                  have hg23_98 : v23_98.toInt = th 15 := hg23_98
                  have hg36_98 : v36_98.toInt = th 18 := hg36_98
                  have hg47_98 : v47_98.toInt = th 16 := hg47_98
                  have hg48_98 : v48_98.toInt = th 17 := hg48_98
                  have hg53_98 : v53_98.toInt = th 38 := hg53_98
                  have hg55_98 : v55_98.toInt = th 39 := hg55_98
                  refine call_i (run_V (rm := rm_X11_takes) hx hb hml hown hts (s_X11_takes l g ad (gset (gset (gset (gset th 40 zg161_zr) 41 zg161_zl) 42 zg161_ze) 37 zz93) _ _ _ 13 hst hT (by decide)) cV_X11_takes wg_1538 ⟨Nat.le_of_ble_eq_true rfl, Nat.le_of_ble_eq_true rfl⟩ hG hE hA hP hD hS (hst.1 255 (by decide)) hf99 rfl rfl hl.1 (As := [.ref (g.2.2.1 13)]) (rest := []) rfl (Nat.le_of_ble_eq_true rfl) dX11_planLine_224 ⟨Nat.le_of_ble_eq_true rfl, Nat.le_of_ble_eq_true rfl⟩) hA hD hS (fun r100 L101 f102 H locs hp103 hP hD hS => ?_)
                  obtain ⟨eL104L, eL104T, eL104F, eL104R⟩ := hp103
                  have eL104L : L101 = L := eL104L
                  rw [eL104L] at hP hD
                  obtain ⟨zz105, hzz105, eL104T⟩ := eL104T
                  have hT : TI g ad (gset (gset (gset (gset (gset th 40 zg161_zr) 41 zg161_zl) 42 zg161_ze) 37 zz93) 37 zz105) f102 := eL104T
                  have hT : TI g ad (gset (gset (gset (gset th 40 zg161_zr) 41 zg161_zl) 42 zg161_ze) 37 zz105) f102 := TI.cast hT (by funext q; simp only [gset]; (repeat' split); all_goals first | rfl | omega | (subst_vars; rfl) | (exfalso; omega))
                  have eL104F : ∀ b, b ≠ (ad 255) → f102 b = f90 b := eL104F
                  have hf106 := (eL104F (ad 259) (hst.ne (by decide) (by decide) (by decide))).trans hf94
                  have hfr : (∀ b, b ≠ (ad 255) → b ≠ (ad 259) → f102 b = f b) := fun b z0_ z1_ => (eL104F b z0_).trans (hfr b z0_ z1_)
                  have eL104R : In r100 0 1 := eL104R
                  refine lv_if_eq (tgt := 242) hx hb dX11_planLine_227 (by decide) (fun c107 => ?_) (fun c107 => ?_)
                  ·
                    have oc0 : (0 : Int32).toInt = 0 := by decide
                    have cc108 : r100.toInt = (0 : Int32).toInt := congrArg Int32.toInt c107
                    have hb109 : In r100 0 0 := In.eq1 eL104R (⟨by decide, by decide⟩ : In 0 0 0) cc108 (by omega) (by omega)
                    refine lv_aload_n hx hb dX11_planLine_242 rfl (lv_at hl 1 rfl) ?_
                    refine va_ldcS hx hb hown (hG.2.2.1 ("RulerWordModel", 199, "split", 14) (by decide +kernel)) dX11_planLine_243 ?_
                    obtain ⟨v0_110, v2_110, v3_110, v4_110, v5_110, v6_110, v8_110, v9_110, v12_110, v13_110, v14_110, v15_110, v16_110, v17_110, v18_110, v19_110, v20_110, v21_110, v22_110, v23_110, v25_110, v36_110, v37_110, v38_110, v39_110, v40_110, v45_110, v46_110, v47_110, v48_110, v50_110, v51_110, v53_110, v55_110, hf111, hv0_110, hv2_110, hg2_110, hv3_110, hg3_110, hv4_110, hg4_110, hv5_110, hg5_110, hv6_110, hg6_110, hv8_110, hv9_110, hg9_110, hv12_110, hv13_110, hg13_110, hv14_110, hg14_110, hv15_110, hg15_110, hv17_110, hg17_110, hv20_110, hg20_110, hv23_110, hg23_110, hv25_110, hv36_110, hg36_110, hv47_110, hg47_110, hv48_110, hg48_110, hv53_110, hg53_110, hv55_110, hg55_110, hrel0_110⟩ := hT.2.2 0 (by decide)
                    have hg2_110 : v2_110.toInt = th 13 := hg2_110
                    have hg3_110 : v3_110.toInt = zz105 := hg3_110
                    have hg4_110 : v4_110.toInt = zg161_ze := hg4_110
                    have hg5_110 : v5_110.toInt = zg161_zr := hg5_110
                    have hg6_110 : v6_110.toInt = zg161_zl := hg6_110
                    have hg9_110 : v9_110.toInt = th 35 := hg9_110
                    have hg13_110 : v13_110.toInt = th 36 := hg13_110
                    have hg14_110 : v14_110.toInt = th 10 := hg14_110
                    have hg15_110 : v15_110.toInt = th 11 := hg15_110
                    have hg17_110 : v17_110.toInt = th 12 := hg17_110
                    have hg20_110 : v20_110.toInt = th 14 := hg20_110
                    have hg23_110 : v23_110.toInt = th 15 := hg23_110
                    have hg36_110 : v36_110.toInt = th 18 := hg36_110
                    have hg47_110 : v47_110.toInt = th 16 := hg47_110
                    have hg48_110 : v48_110.toInt = th 17 := hg48_110
                    have hg53_110 : v53_110.toInt = th 38 := hg53_110
                    have hg55_110 : v55_110.toInt = th 39 := hg55_110
                    refine call_i (run_V (rm := rm_X11_takes) hx hb hml hown hts (s_X11_takes l g ad (gset (gset (gset (gset th 40 zg161_zr) 41 zg161_zl) 42 zg161_ze) 37 zz105) _ _ _ 14 hst hT (by decide)) cV_X11_takes wg_1538 ⟨Nat.le_of_ble_eq_true rfl, Nat.le_of_ble_eq_true rfl⟩ hG hE hA hP hD hS (hst.1 255 (by decide)) hf111 rfl rfl hl.1 (As := [.ref (g.2.2.1 14)]) (rest := []) rfl (Nat.le_of_ble_eq_true rfl) dX11_planLine_245 ⟨Nat.le_of_ble_eq_true rfl, Nat.le_of_ble_eq_true rfl⟩) hA hD hS (fun r112 L113 f114 H locs hp115 hP hD hS => ?_)
                    obtain ⟨eL116L, eL116T, eL116F, eL116R⟩ := hp115
                    have eL116L : L113 = L := eL116L
                    rw [eL116L] at hP hD
                    obtain ⟨zz117, hzz117, eL116T⟩ := eL116T
                    have hT : TI g ad (gset (gset (gset (gset (gset th 40 zg161_zr) 41 zg161_zl) 42 zg161_ze) 37 zz105) 37 zz117) f114 := eL116T
                    have hT : TI g ad (gset (gset (gset (gset th 40 zg161_zr) 41 zg161_zl) 42 zg161_ze) 37 zz117) f114 := TI.cast hT (by funext q; simp only [gset]; (repeat' split); all_goals first | rfl | omega | (subst_vars; rfl) | (exfalso; omega))
                    have eL116F : ∀ b, b ≠ (ad 255) → f114 b = f102 b := eL116F
                    have hf118 := (eL116F (ad 259) (hst.ne (by decide) (by decide) (by decide))).trans hf106
                    have hfr : (∀ b, b ≠ (ad 255) → b ≠ (ad 259) → f114 b = f b) := fun b z0_ z1_ => (eL116F b z0_).trans (hfr b z0_ z1_)
                    have eL116R : In r112 0 1 := eL116R
                    refine lv_if_eq (tgt := 263) hx hb dX11_planLine_248 (by decide) (fun c119 => ?_) (fun c119 => ?_)
                    ·
                      have oc0 : (0 : Int32).toInt = 0 := by decide
                      have cc120 : r112.toInt = (0 : Int32).toInt := congrArg Int32.toInt c119
                      have hb121 : In r112 0 0 := In.eq1 eL116R (⟨by decide, by decide⟩ : In 0 0 0) cc120 (by omega) (by omega)
                      refine lv_aload_n hx hb dX11_planLine_263 rfl (lv_at hl 1 rfl) ?_
                      refine va_ldcS hx hb hown (hG.2.2.1 ("RulerWordModel", 201, "draw", 15) (by decide +kernel)) dX11_planLine_264 ?_
                      obtain ⟨v0_122, v2_122, v3_122, v4_122, v5_122, v6_122, v8_122, v9_122, v12_122, v13_122, v14_122, v15_122, v16_122, v17_122, v18_122, v19_122, v20_122, v21_122, v22_122, v23_122, v25_122, v36_122, v37_122, v38_122, v39_122, v40_122, v45_122, v46_122, v47_122, v48_122, v50_122, v51_122, v53_122, v55_122, hf123, hv0_122, hv2_122, hg2_122, hv3_122, hg3_122, hv4_122, hg4_122, hv5_122, hg5_122, hv6_122, hg6_122, hv8_122, hv9_122, hg9_122, hv12_122, hv13_122, hg13_122, hv14_122, hg14_122, hv15_122, hg15_122, hv17_122, hg17_122, hv20_122, hg20_122, hv23_122, hg23_122, hv25_122, hv36_122, hg36_122, hv47_122, hg47_122, hv48_122, hg48_122, hv53_122, hg53_122, hv55_122, hg55_122, hrel0_122⟩ := hT.2.2 0 (by decide)
                      have hg2_122 : v2_122.toInt = th 13 := hg2_122
                      have hg3_122 : v3_122.toInt = zz117 := hg3_122
                      have hg4_122 : v4_122.toInt = zg161_ze := hg4_122
                      have hg5_122 : v5_122.toInt = zg161_zr := hg5_122
                      have hg6_122 : v6_122.toInt = zg161_zl := hg6_122
                      have hg9_122 : v9_122.toInt = th 35 := hg9_122
                      have hg13_122 : v13_122.toInt = th 36 := hg13_122
                      have hg14_122 : v14_122.toInt = th 10 := hg14_122
                      have hg15_122 : v15_122.toInt = th 11 := hg15_122
                      have hg17_122 : v17_122.toInt = th 12 := hg17_122
                      have hg20_122 : v20_122.toInt = th 14 := hg20_122
                      have hg23_122 : v23_122.toInt = th 15 := hg23_122
                      have hg36_122 : v36_122.toInt = th 18 := hg36_122
                      have hg47_122 : v47_122.toInt = th 16 := hg47_122
                      have hg48_122 : v48_122.toInt = th 17 := hg48_122
                      have hg53_122 : v53_122.toInt = th 38 := hg53_122
                      have hg55_122 : v55_122.toInt = th 39 := hg55_122
                      refine call_i (run_V (rm := rm_X11_takes) hx hb hml hown hts (s_X11_takes l g ad (gset (gset (gset (gset th 40 zg161_zr) 41 zg161_zl) 42 zg161_ze) 37 zz117) _ _ _ 15 hst hT (by decide)) cV_X11_takes wg_1538 ⟨Nat.le_of_ble_eq_true rfl, Nat.le_of_ble_eq_true rfl⟩ hG hE hA hP hD hS (hst.1 255 (by decide)) hf123 rfl rfl hl.1 (As := [.ref (g.2.2.1 15)]) (rest := []) rfl (Nat.le_of_ble_eq_true rfl) dX11_planLine_266 ⟨Nat.le_of_ble_eq_true rfl, Nat.le_of_ble_eq_true rfl⟩) hA hD hS (fun r124 L125 f126 H locs hp127 hP hD hS => ?_)
                      obtain ⟨eL128L, eL128T, eL128F, eL128R⟩ := hp127
                      have eL128L : L125 = L := eL128L
                      rw [eL128L] at hP hD
                      obtain ⟨zz129, hzz129, eL128T⟩ := eL128T
                      have hT : TI g ad (gset (gset (gset (gset (gset th 40 zg161_zr) 41 zg161_zl) 42 zg161_ze) 37 zz117) 37 zz129) f126 := eL128T
                      have hT : TI g ad (gset (gset (gset (gset th 40 zg161_zr) 41 zg161_zl) 42 zg161_ze) 37 zz129) f126 := TI.cast hT (by funext q; simp only [gset]; (repeat' split); all_goals first | rfl | omega | (subst_vars; rfl) | (exfalso; omega))
                      have eL128F : ∀ b, b ≠ (ad 255) → f126 b = f114 b := eL128F
                      have hf130 := (eL128F (ad 259) (hst.ne (by decide) (by decide) (by decide))).trans hf118
                      have hfr : (∀ b, b ≠ (ad 255) → b ≠ (ad 259) → f126 b = f b) := fun b z0_ z1_ => (eL128F b z0_).trans (hfr b z0_ z1_)
                      have eL128R : In r124 0 1 := eL128R
                      refine lv_if_eq (tgt := 285) hx hb dX11_planLine_269 (by decide) (fun c131 => ?_) (fun c131 => ?_)
                      ·
                        have oc0 : (0 : Int32).toInt = 0 := by decide
                        have cc132 : r124.toInt = (0 : Int32).toInt := congrArg Int32.toInt c131
                        have hb133 : In r124 0 0 := In.eq1 eL128R (⟨by decide, by decide⟩ : In 0 0 0) cc132 (by omega) (by omega)
                        refine lv_aload_n hx hb dX11_planLine_285 rfl (lv_at hl 1 rfl) ?_
                        refine lv_aload_n hx hb dX11_planLine_286 rfl (lv_at hl 1 rfl) ?_
                        obtain ⟨v0_134, v2_134, v3_134, v4_134, v5_134, v6_134, v8_134, v9_134, v12_134, v13_134, v14_134, v15_134, v16_134, v17_134, v18_134, v19_134, v20_134, v21_134, v22_134, v23_134, v25_134, v36_134, v37_134, v38_134, v39_134, v40_134, v45_134, v46_134, v47_134, v48_134, v50_134, v51_134, v53_134, v55_134, hf135, hv0_134, hv2_134, hg2_134, hv3_134, hg3_134, hv4_134, hg4_134, hv5_134, hg5_134, hv6_134, hg6_134, hv8_134, hv9_134, hg9_134, hv12_134, hv13_134, hg13_134, hv14_134, hg14_134, hv15_134, hg15_134, hv17_134, hg17_134, hv20_134, hg20_134, hv23_134, hg23_134, hv25_134, hv36_134, hg36_134, hv47_134, hg47_134, hv48_134, hg48_134, hv53_134, hg53_134, hv55_134, hg55_134, hrel0_134⟩ := hT.2.2 0 (by decide)
                        have hg2_134 : v2_134.toInt = th 13 := hg2_134
                        have hg3_134 : v3_134.toInt = zz129 := hg3_134
                        have hg4_134 : v4_134.toInt = zg161_ze := hg4_134
                        have hg5_134 : v5_134.toInt = zg161_zr := hg5_134
                        have hg6_134 : v6_134.toInt = zg161_zl := hg6_134
                        have hg9_134 : v9_134.toInt = th 35 := hg9_134
                        have hg13_134 : v13_134.toInt = th 36 := hg13_134
                        have hg14_134 : v14_134.toInt = th 10 := hg14_134
                        have hg15_134 : v15_134.toInt = th 11 := hg15_134
                        have hg17_134 : v17_134.toInt = th 12 := hg17_134
                        have hg20_134 : v20_134.toInt = th 14 := hg20_134
                        have hg23_134 : v23_134.toInt = th 15 := hg23_134
                        have hg36_134 : v36_134.toInt = th 18 := hg36_134
                        have hg47_134 : v47_134.toInt = th 16 := hg47_134
                        have hg48_134 : v48_134.toInt = th 17 := hg48_134
                        have hg53_134 : v53_134.toInt = th 38 := hg53_134
                        have hg55_134 : v55_134.toInt = th 39 := hg55_134
                        refine pl_get (v := .int v3_134) hx hb hts (fun w h => mT (inX11 w h)) hown hG.1 hP (hst.1 255 (by decide)) hf135 rfl 3 (by decide) (hts _ (mT wg_1339)) (fun _ h => h) rfl dX11_planLine_287 ?_
                        refine call_v (run_V (rm := rm_X11_fails) hx hb hml hown hts (s_X11_fails l g ad (gset (gset (gset (gset th 40 zg161_zr) 41 zg161_zl) 42 zg161_ze) 37 zz129) _ _ _ v3_134 hst hT hv3_134) cV_X11_fails wg_1545 ⟨Nat.le_of_ble_eq_true rfl, Nat.le_of_ble_eq_true rfl⟩ hG hE hA hP hD hS (hst.1 255 (by decide)) hf135 rfl rfl hl.1 (As := [.int v3_134]) (rest := []) rfl (Nat.le_of_ble_eq_true rfl) dX11_planLine_290 ⟨Nat.le_of_ble_eq_true rfl, Nat.le_of_ble_eq_true rfl⟩) hA hD hS (fun L137 f138 H locs hp139 hP hD hS => ?_)
                        obtain ⟨eL140L, eL140T, eL140F⟩ := hp139
                        have eL140L : L137 = L := eL140L
                        rw [eL140L] at hP hD
                        obtain ⟨zz141, hzz141, eL140T⟩ := eL140T
                        have hT : TI g ad (gset (gset (gset (gset (gset th 40 zg161_zr) 41 zg161_zl) 42 zg161_ze) 37 zz129) 42 zz141) f138 := eL140T
                        have hT : TI g ad (gset (gset (gset (gset th 40 zg161_zr) 41 zg161_zl) 37 zz129) 42 zz141) f138 := TI.cast hT (by funext q; simp only [gset]; (repeat' split); all_goals first | rfl | omega | (subst_vars; rfl) | (exfalso; omega))
                        have eL140F : ∀ b, b ≠ (ad 255) → f138 b = f126 b := eL140F
                        have hf142 := (eL140F (ad 259) (hst.ne (by decide) (by decide) (by decide))).trans hf130
                        have hfr : (∀ b, b ≠ (ad 255) → b ≠ (ad 259) → f138 b = f b) := fun b z0_ z1_ => (eL140F b z0_).trans (hfr b z0_ z1_)
                        exact hJ293 zz129 zg161_zr zg161_zl zz141 _ _ _ _ (show th 37 ≤ zz129 ∧ zz129 ≤ 500 from (by omega)) hP hD hS (TI.cast hT (by funext q; simp only [gset]; (repeat' split); all_goals first | rfl | omega | (subst_vars; rfl) | (exfalso; omega))) hfr (lv_sub hl [1, 0, 2] rfl)
                      ·
                        have oc0 : (0 : Int32).toInt = 0 := by decide
                        have cc143 : r124.toInt ≠ (0 : Int32).toInt := i32_ne c131
                        have hb144 : In r124 1 1 := In.ne1 eL128R (⟨by decide, by decide⟩ : In 0 0 0) cc143 (by omega) (by omega)
                        refine lv_aload_n hx hb dX11_planLine_272 rfl (lv_at hl 1 rfl) ?_
                        obtain ⟨v0_145, v2_145, v3_145, v4_145, v5_145, v6_145, v8_145, v9_145, v12_145, v13_145, v14_145, v15_145, v16_145, v17_145, v18_145, v19_145, v20_145, v21_145, v22_145, v23_145, v25_145, v36_145, v37_145, v38_145, v39_145, v40_145, v45_145, v46_145, v47_145, v48_145, v50_145, v51_145, v53_145, v55_145, hf146, hv0_145, hv2_145, hg2_145, hv3_145, hg3_145, hv4_145, hg4_145, hv5_145, hg5_145, hv6_145, hg6_145, hv8_145, hv9_145, hg9_145, hv12_145, hv13_145, hg13_145, hv14_145, hg14_145, hv15_145, hg15_145, hv17_145, hg17_145, hv20_145, hg20_145, hv23_145, hg23_145, hv25_145, hv36_145, hg36_145, hv47_145, hg47_145, hv48_145, hg48_145, hv53_145, hg53_145, hv55_145, hg55_145, hrel0_145⟩ := hT.2.2 0 (by decide)
                        have hg2_145 : v2_145.toInt = th 13 := hg2_145
                        have hg3_145 : v3_145.toInt = zz129 := hg3_145
                        have hg4_145 : v4_145.toInt = zg161_ze := hg4_145
                        have hg5_145 : v5_145.toInt = zg161_zr := hg5_145
                        have hg6_145 : v6_145.toInt = zg161_zl := hg6_145
                        have hg9_145 : v9_145.toInt = th 35 := hg9_145
                        have hg13_145 : v13_145.toInt = th 36 := hg13_145
                        have hg14_145 : v14_145.toInt = th 10 := hg14_145
                        have hg15_145 : v15_145.toInt = th 11 := hg15_145
                        have hg17_145 : v17_145.toInt = th 12 := hg17_145
                        have hg20_145 : v20_145.toInt = th 14 := hg20_145
                        have hg23_145 : v23_145.toInt = th 15 := hg23_145
                        have hg36_145 : v36_145.toInt = th 18 := hg36_145
                        have hg47_145 : v47_145.toInt = th 16 := hg47_145
                        have hg48_145 : v48_145.toInt = th 17 := hg48_145
                        have hg53_145 : v53_145.toInt = th 38 := hg53_145
                        have hg55_145 : v55_145.toInt = th 39 := hg55_145
                        refine pl_get (v := .ref (ad 259)) hx hb hts (fun w h => mT (inX11 w h)) hown hG.1 hP (hst.1 255 (by decide)) hf146 rfl 11 (by decide) (hts _ (mT wg_1347)) (fun _ h => h) rfl dX11_planLine_273 ?_
                        refine lv_iload_n hx hb dX11_planLine_276 rfl (lv_at hl 2 rfl) ?_
                        refine lv_iconst (v := 4) hx hb dX11_planLine_277 (by decide) ?_
                        refine lv_iadd hx hb dX11_planLine_278 ?_
                        refine lv_topi (fun x147 ex147 => ?_)
                        have hb148 : In x147 4 99 := ex147 ▸ In.add hb15 (⟨by decide, by decide⟩ : In 4 4 4) (by decide) (by decide) (by decide) (by decide)
                        have et149 : x147.toInt = x14.toInt + 4 := In.adde ex147 hb15 (k := 4) (by decide) (by decide) (by decide)
                        refine lv_bipush (v := 6) hx hb dX11_planLine_279 (by decide) ?_
                        refine pl_iastE hx hb hG.1 hP hD hS (hst.1 259 (by decide)) 0 hf130 rfl (In.inb hb148 (by decide) (by decide)) dX11_planLine_281 (fun H locs f150 r153 er153 hf151 ho152 hP hD hS => ?_)
                        have hf154 := (ho152 (ad 255) (hst.ne (by decide) (by decide) (by decide))).trans hf146
                        have hfr : (∀ b, b ≠ (ad 255) → b ≠ (ad 259) → f150 b = f b) := fun b z0_ z1_ => (ho152 b z1_).trans (hfr b z0_ z1_)
                        have hT := TI.updM hT hst (k := 4) (by decide) hf151 ho152 ⟨r153, rfl⟩
                        refine lv_goto (tgt := 293) hx hb dX11_planLine_282 (by decide) ?_
                        exact hJ293 zz129 zg161_zr zg161_zl zg161_ze _ _ _ _ (show th 37 ≤ zz129 ∧ zz129 ≤ 500 from (by obtain ⟨o0a, o0b⟩ := (hv2_145 : In _ _ _); obtain ⟨o1a, o1b⟩ := (hv3_145 : In _ _ _); obtain ⟨o2a, o2b⟩ := (hv4_145 : In _ _ _); obtain ⟨o3a, o3b⟩ := (hv5_145 : In _ _ _); obtain ⟨o4a, o4b⟩ := (hv6_145 : In _ _ _); obtain ⟨o5a, o5b⟩ := (hv9_145 : In _ _ _); obtain ⟨o6a, o6b⟩ := (hv13_145 : In _ _ _); obtain ⟨o7a, o7b⟩ := (hv14_145 : In _ _ _); obtain ⟨o8a, o8b⟩ := (hv15_145 : In _ _ _); obtain ⟨o9a, o9b⟩ := (hv17_145 : In _ _ _); obtain ⟨o10a, o10b⟩ := (hv20_145 : In _ _ _); obtain ⟨o11a, o11b⟩ := (hv23_145 : In _ _ _); obtain ⟨o12a, o12b⟩ := (hv36_145 : In _ _ _); obtain ⟨o13a, o13b⟩ := (hv47_145 : In _ _ _); obtain ⟨o14a, o14b⟩ := (hv48_145 : In _ _ _); obtain ⟨o15a, o15b⟩ := (hv53_145 : In _ _ _); obtain ⟨o16a, o16b⟩ := (hv55_145 : In _ _ _); omega)) hP hD hS (TI.cast hT (by funext q; simp only [gset]; (repeat' split); all_goals first | rfl | omega | (subst_vars; rfl) | (exfalso; omega))) hfr (lv_sub hl [1, 0, 2] rfl)
                    ·
                      have oc0 : (0 : Int32).toInt = 0 := by decide
                      have cc155 : r112.toInt ≠ (0 : Int32).toInt := i32_ne c119
                      have hb156 : In r112 1 1 := In.ne1 eL116R (⟨by decide, by decide⟩ : In 0 0 0) cc155 (by omega) (by omega)
                      refine lv_aload_n hx hb dX11_planLine_251 rfl (lv_at hl 1 rfl) ?_
                      obtain ⟨v0_157, v2_157, v3_157, v4_157, v5_157, v6_157, v8_157, v9_157, v12_157, v13_157, v14_157, v15_157, v16_157, v17_157, v18_157, v19_157, v20_157, v21_157, v22_157, v23_157, v25_157, v36_157, v37_157, v38_157, v39_157, v40_157, v45_157, v46_157, v47_157, v48_157, v50_157, v51_157, v53_157, v55_157, hf158, hv0_157, hv2_157, hg2_157, hv3_157, hg3_157, hv4_157, hg4_157, hv5_157, hg5_157, hv6_157, hg6_157, hv8_157, hv9_157, hg9_157, hv12_157, hv13_157, hg13_157, hv14_157, hg14_157, hv15_157, hg15_157, hv17_157, hg17_157, hv20_157, hg20_157, hv23_157, hg23_157, hv25_157, hv36_157, hg36_157, hv47_157, hg47_157, hv48_157, hg48_157, hv53_157, hg53_157, hv55_157, hg55_157, hrel0_157⟩ := hT.2.2 0 (by decide)
                      have hg2_157 : v2_157.toInt = th 13 := hg2_157
                      have hg3_157 : v3_157.toInt = zz117 := hg3_157
                      have hg4_157 : v4_157.toInt = zg161_ze := hg4_157
                      have hg5_157 : v5_157.toInt = zg161_zr := hg5_157
                      have hg6_157 : v6_157.toInt = zg161_zl := hg6_157
                      have hg9_157 : v9_157.toInt = th 35 := hg9_157
                      have hg13_157 : v13_157.toInt = th 36 := hg13_157
                      have hg14_157 : v14_157.toInt = th 10 := hg14_157
                      have hg15_157 : v15_157.toInt = th 11 := hg15_157
                      have hg17_157 : v17_157.toInt = th 12 := hg17_157
                      have hg20_157 : v20_157.toInt = th 14 := hg20_157
                      have hg23_157 : v23_157.toInt = th 15 := hg23_157
                      have hg36_157 : v36_157.toInt = th 18 := hg36_157
                      have hg47_157 : v47_157.toInt = th 16 := hg47_157
                      have hg48_157 : v48_157.toInt = th 17 := hg48_157
                      have hg53_157 : v53_157.toInt = th 38 := hg53_157
                      have hg55_157 : v55_157.toInt = th 39 := hg55_157
                      refine pl_get (v := .ref (ad 259)) hx hb hts (fun w h => mT (inX11 w h)) hown hG.1 hP (hst.1 255 (by decide)) hf158 rfl 11 (by decide) (hts _ (mT wg_1347)) (fun _ h => h) rfl dX11_planLine_252 ?_
                      refine lv_iload_n hx hb dX11_planLine_255 rfl (lv_at hl 2 rfl) ?_
                      refine lv_iconst (v := 4) hx hb dX11_planLine_256 (by decide) ?_
                      refine lv_iadd hx hb dX11_planLine_257 ?_
                      refine lv_topi (fun x159 ex159 => ?_)
                      have hb160 : In x159 4 99 := ex159 ▸ In.add hb15 (⟨by decide, by decide⟩ : In 4 4 4) (by decide) (by decide) (by decide) (by decide)
                      have et161 : x159.toInt = x14.toInt + 4 := In.adde ex159 hb15 (k := 4) (by decide) (by decide) (by decide)
                      refine lv_iconst (v := 5) hx hb dX11_planLine_258 (by decide) ?_
                      refine pl_iastE hx hb hG.1 hP hD hS (hst.1 259 (by decide)) 0 hf118 rfl (In.inb hb160 (by decide) (by decide)) dX11_planLine_259 (fun H locs f162 r165 er165 hf163 ho164 hP hD hS => ?_)
                      have hf166 := (ho164 (ad 255) (hst.ne (by decide) (by decide) (by decide))).trans hf158
                      have hfr : (∀ b, b ≠ (ad 255) → b ≠ (ad 259) → f162 b = f b) := fun b z0_ z1_ => (ho164 b z1_).trans (hfr b z0_ z1_)
                      have hT := TI.updM hT hst (k := 4) (by decide) hf163 ho164 ⟨r165, rfl⟩
                      refine lv_goto (tgt := 293) hx hb dX11_planLine_260 (by decide) ?_
                      exact hJ293 zz117 zg161_zr zg161_zl zg161_ze _ _ _ _ (show th 37 ≤ zz117 ∧ zz117 ≤ 500 from (by obtain ⟨o0a, o0b⟩ := (hv2_157 : In _ _ _); obtain ⟨o1a, o1b⟩ := (hv3_157 : In _ _ _); obtain ⟨o2a, o2b⟩ := (hv4_157 : In _ _ _); obtain ⟨o3a, o3b⟩ := (hv5_157 : In _ _ _); obtain ⟨o4a, o4b⟩ := (hv6_157 : In _ _ _); obtain ⟨o5a, o5b⟩ := (hv9_157 : In _ _ _); obtain ⟨o6a, o6b⟩ := (hv13_157 : In _ _ _); obtain ⟨o7a, o7b⟩ := (hv14_157 : In _ _ _); obtain ⟨o8a, o8b⟩ := (hv15_157 : In _ _ _); obtain ⟨o9a, o9b⟩ := (hv17_157 : In _ _ _); obtain ⟨o10a, o10b⟩ := (hv20_157 : In _ _ _); obtain ⟨o11a, o11b⟩ := (hv23_157 : In _ _ _); obtain ⟨o12a, o12b⟩ := (hv36_157 : In _ _ _); obtain ⟨o13a, o13b⟩ := (hv47_157 : In _ _ _); obtain ⟨o14a, o14b⟩ := (hv48_157 : In _ _ _); obtain ⟨o15a, o15b⟩ := (hv53_157 : In _ _ _); obtain ⟨o16a, o16b⟩ := (hv55_157 : In _ _ _); omega)) hP hD hS (TI.cast hT (by funext q; simp only [gset]; (repeat' split); all_goals first | rfl | omega | (subst_vars; rfl) | (exfalso; omega))) hfr (lv_sub hl [1, 0, 2] rfl)
                  ·
                    have oc0 : (0 : Int32).toInt = 0 := by decide
                    have cc167 : r100.toInt ≠ (0 : Int32).toInt := i32_ne c107
                    have hb168 : In r100 1 1 := In.ne1 eL104R (⟨by decide, by decide⟩ : In 0 0 0) cc167 (by omega) (by omega)
                    refine lv_aload_n hx hb dX11_planLine_230 rfl (lv_at hl 1 rfl) ?_
                    obtain ⟨v0_169, v2_169, v3_169, v4_169, v5_169, v6_169, v8_169, v9_169, v12_169, v13_169, v14_169, v15_169, v16_169, v17_169, v18_169, v19_169, v20_169, v21_169, v22_169, v23_169, v25_169, v36_169, v37_169, v38_169, v39_169, v40_169, v45_169, v46_169, v47_169, v48_169, v50_169, v51_169, v53_169, v55_169, hf170, hv0_169, hv2_169, hg2_169, hv3_169, hg3_169, hv4_169, hg4_169, hv5_169, hg5_169, hv6_169, hg6_169, hv8_169, hv9_169, hg9_169, hv12_169, hv13_169, hg13_169, hv14_169, hg14_169, hv15_169, hg15_169, hv17_169, hg17_169, hv20_169, hg20_169, hv23_169, hg23_169, hv25_169, hv36_169, hg36_169, hv47_169, hg47_169, hv48_169, hg48_169, hv53_169, hg53_169, hv55_169, hg55_169, hrel0_169⟩ := hT.2.2 0 (by decide)
                    have hg2_169 : v2_169.toInt = th 13 := hg2_169
                    have hg3_169 : v3_169.toInt = zz105 := hg3_169
                    have hg4_169 : v4_169.toInt = zg161_ze := hg4_169
                    have hg5_169 : v5_169.toInt = zg161_zr := hg5_169
                    have hg6_169 : v6_169.toInt = zg161_zl := hg6_169
                    have hg9_169 : v9_169.toInt = th 35 := hg9_169
                    have hg13_169 : v13_169.toInt = th 36 := hg13_169
                    have hg14_169 : v14_169.toInt = th 10 := hg14_169
                    have hg15_169 : v15_169.toInt = th 11 := hg15_169
                    have hg17_169 : v17_169.toInt = th 12 := hg17_169
                    have hg20_169 : v20_169.toInt = th 14 := hg20_169
                    have hg23_169 : v23_169.toInt = th 15 := hg23_169
                    have hg36_169 : v36_169.toInt = th 18 := hg36_169
                    have hg47_169 : v47_169.toInt = th 16 := hg47_169
                    have hg48_169 : v48_169.toInt = th 17 := hg48_169
                    have hg53_169 : v53_169.toInt = th 38 := hg53_169
                    have hg55_169 : v55_169.toInt = th 39 := hg55_169
                    refine pl_get (v := .ref (ad 259)) hx hb hts (fun w h => mT (inX11 w h)) hown hG.1 hP (hst.1 255 (by decide)) hf170 rfl 11 (by decide) (hts _ (mT wg_1347)) (fun _ h => h) rfl dX11_planLine_231 ?_
                    refine lv_iload_n hx hb dX11_planLine_234 rfl (lv_at hl 2 rfl) ?_
                    refine lv_iconst (v := 4) hx hb dX11_planLine_235 (by decide) ?_
                    refine lv_iadd hx hb dX11_planLine_236 ?_
                    refine lv_topi (fun x171 ex171 => ?_)
                    have hb172 : In x171 4 99 := ex171 ▸ In.add hb15 (⟨by decide, by decide⟩ : In 4 4 4) (by decide) (by decide) (by decide) (by decide)
                    have et173 : x171.toInt = x14.toInt + 4 := In.adde ex171 hb15 (k := 4) (by decide) (by decide) (by decide)
                    refine lv_iconst (v := 4) hx hb dX11_planLine_237 (by decide) ?_
                    refine pl_iastE hx hb hG.1 hP hD hS (hst.1 259 (by decide)) 0 hf106 rfl (In.inb hb172 (by decide) (by decide)) dX11_planLine_238 (fun H locs f174 r177 er177 hf175 ho176 hP hD hS => ?_)
                    have hf178 := (ho176 (ad 255) (hst.ne (by decide) (by decide) (by decide))).trans hf170
                    have hfr : (∀ b, b ≠ (ad 255) → b ≠ (ad 259) → f174 b = f b) := fun b z0_ z1_ => (ho176 b z1_).trans (hfr b z0_ z1_)
                    have hT := TI.updM hT hst (k := 4) (by decide) hf175 ho176 ⟨r177, rfl⟩
                    refine lv_goto (tgt := 293) hx hb dX11_planLine_239 (by decide) ?_
                    exact hJ293 zz105 zg161_zr zg161_zl zg161_ze _ _ _ _ (show th 37 ≤ zz105 ∧ zz105 ≤ 500 from (by obtain ⟨o0a, o0b⟩ := (hv2_169 : In _ _ _); obtain ⟨o1a, o1b⟩ := (hv3_169 : In _ _ _); obtain ⟨o2a, o2b⟩ := (hv4_169 : In _ _ _); obtain ⟨o3a, o3b⟩ := (hv5_169 : In _ _ _); obtain ⟨o4a, o4b⟩ := (hv6_169 : In _ _ _); obtain ⟨o5a, o5b⟩ := (hv9_169 : In _ _ _); obtain ⟨o6a, o6b⟩ := (hv13_169 : In _ _ _); obtain ⟨o7a, o7b⟩ := (hv14_169 : In _ _ _); obtain ⟨o8a, o8b⟩ := (hv15_169 : In _ _ _); obtain ⟨o9a, o9b⟩ := (hv17_169 : In _ _ _); obtain ⟨o10a, o10b⟩ := (hv20_169 : In _ _ _); obtain ⟨o11a, o11b⟩ := (hv23_169 : In _ _ _); obtain ⟨o12a, o12b⟩ := (hv36_169 : In _ _ _); obtain ⟨o13a, o13b⟩ := (hv47_169 : In _ _ _); obtain ⟨o14a, o14b⟩ := (hv48_169 : In _ _ _); obtain ⟨o15a, o15b⟩ := (hv53_169 : In _ _ _); obtain ⟨o16a, o16b⟩ := (hv55_169 : In _ _ _); omega)) hP hD hS (TI.cast hT (by funext q; simp only [gset]; (repeat' split); all_goals first | rfl | omega | (subst_vars; rfl) | (exfalso; omega))) hfr (lv_sub hl [1, 0, 2] rfl)
                ·
                  have oc0 : (0 : Int32).toInt = 0 := by decide
                  have cc179 : r88.toInt ≠ (0 : Int32).toInt := i32_ne c95
                  have hb180 : In r88 1 1 := In.ne1 eL92R (⟨by decide, by decide⟩ : In 0 0 0) cc179 (by omega) (by omega)
                  refine lv_aload_n hx hb dX11_planLine_209 rfl (lv_at hl 1 rfl) ?_
                  obtain ⟨v0_181, v2_181, v3_181, v4_181, v5_181, v6_181, v8_181, v9_181, v12_181, v13_181, v14_181, v15_181, v16_181, v17_181, v18_181, v19_181, v20_181, v21_181, v22_181, v23_181, v25_181, v36_181, v37_181, v38_181, v39_181, v40_181, v45_181, v46_181, v47_181, v48_181, v50_181, v51_181, v53_181, v55_181, hf182, hv0_181, hv2_181, hg2_181, hv3_181, hg3_181, hv4_181, hg4_181, hv5_181, hg5_181, hv6_181, hg6_181, hv8_181, hv9_181, hg9_181, hv12_181, hv13_181, hg13_181, hv14_181, hg14_181, hv15_181, hg15_181, hv17_181, hg17_181, hv20_181, hg20_181, hv23_181, hg23_181, hv25_181, hv36_181, hg36_181, hv47_181, hg47_181, hv48_181, hg48_181, hv53_181, hg53_181, hv55_181, hg55_181, hrel0_181⟩ := hT.2.2 0 (by decide)
                  have hg2_181 : v2_181.toInt = th 13 := hg2_181
                  have hg3_181 : v3_181.toInt = zz93 := hg3_181
                  have hg4_181 : v4_181.toInt = zg161_ze := hg4_181
                  have hg5_181 : v5_181.toInt = zg161_zr := hg5_181
                  have hg6_181 : v6_181.toInt = zg161_zl := hg6_181
                  have hg9_181 : v9_181.toInt = th 35 := hg9_181
                  have hg13_181 : v13_181.toInt = th 36 := hg13_181
                  have hg14_181 : v14_181.toInt = th 10 := hg14_181
                  have hg15_181 : v15_181.toInt = th 11 := hg15_181
                  have hg17_181 : v17_181.toInt = th 12 := hg17_181
                  have hg20_181 : v20_181.toInt = th 14 := hg20_181
                  have hg23_181 : v23_181.toInt = th 15 := hg23_181
                  have hg36_181 : v36_181.toInt = th 18 := hg36_181
                  have hg47_181 : v47_181.toInt = th 16 := hg47_181
                  have hg48_181 : v48_181.toInt = th 17 := hg48_181
                  have hg53_181 : v53_181.toInt = th 38 := hg53_181
                  have hg55_181 : v55_181.toInt = th 39 := hg55_181
                  refine pl_get (v := .ref (ad 259)) hx hb hts (fun w h => mT (inX11 w h)) hown hG.1 hP (hst.1 255 (by decide)) hf182 rfl 11 (by decide) (hts _ (mT wg_1347)) (fun _ h => h) rfl dX11_planLine_210 ?_
                  refine lv_iload_n hx hb dX11_planLine_213 rfl (lv_at hl 2 rfl) ?_
                  refine lv_iconst (v := 4) hx hb dX11_planLine_214 (by decide) ?_
                  refine lv_iadd hx hb dX11_planLine_215 ?_
                  refine lv_topi (fun x183 ex183 => ?_)
                  have hb184 : In x183 4 99 := ex183 ▸ In.add hb15 (⟨by decide, by decide⟩ : In 4 4 4) (by decide) (by decide) (by decide) (by decide)
                  have et185 : x183.toInt = x14.toInt + 4 := In.adde ex183 hb15 (k := 4) (by decide) (by decide) (by decide)
                  refine lv_iconst (v := 3) hx hb dX11_planLine_216 (by decide) ?_
                  refine pl_iastE hx hb hG.1 hP hD hS (hst.1 259 (by decide)) 0 hf94 rfl (In.inb hb184 (by decide) (by decide)) dX11_planLine_217 (fun H locs f186 r189 er189 hf187 ho188 hP hD hS => ?_)
                  have hf190 := (ho188 (ad 255) (hst.ne (by decide) (by decide) (by decide))).trans hf182
                  have hfr : (∀ b, b ≠ (ad 255) → b ≠ (ad 259) → f186 b = f b) := fun b z0_ z1_ => (ho188 b z1_).trans (hfr b z0_ z1_)
                  have hT := TI.updM hT hst (k := 4) (by decide) hf187 ho188 ⟨r189, rfl⟩
                  refine lv_goto (tgt := 293) hx hb dX11_planLine_218 (by decide) ?_
                  exact hJ293 zz93 zg161_zr zg161_zl zg161_ze _ _ _ _ (show th 37 ≤ zz93 ∧ zz93 ≤ 500 from (by obtain ⟨o0a, o0b⟩ := (hv2_181 : In _ _ _); obtain ⟨o1a, o1b⟩ := (hv3_181 : In _ _ _); obtain ⟨o2a, o2b⟩ := (hv4_181 : In _ _ _); obtain ⟨o3a, o3b⟩ := (hv5_181 : In _ _ _); obtain ⟨o4a, o4b⟩ := (hv6_181 : In _ _ _); obtain ⟨o5a, o5b⟩ := (hv9_181 : In _ _ _); obtain ⟨o6a, o6b⟩ := (hv13_181 : In _ _ _); obtain ⟨o7a, o7b⟩ := (hv14_181 : In _ _ _); obtain ⟨o8a, o8b⟩ := (hv15_181 : In _ _ _); obtain ⟨o9a, o9b⟩ := (hv17_181 : In _ _ _); obtain ⟨o10a, o10b⟩ := (hv20_181 : In _ _ _); obtain ⟨o11a, o11b⟩ := (hv23_181 : In _ _ _); obtain ⟨o12a, o12b⟩ := (hv36_181 : In _ _ _); obtain ⟨o13a, o13b⟩ := (hv47_181 : In _ _ _); obtain ⟨o14a, o14b⟩ := (hv48_181 : In _ _ _); obtain ⟨o15a, o15b⟩ := (hv53_181 : In _ _ _); obtain ⟨o16a, o16b⟩ := (hv55_181 : In _ _ _); omega)) hP hD hS (TI.cast hT (by funext q; simp only [gset]; (repeat' split); all_goals first | rfl | omega | (subst_vars; rfl) | (exfalso; omega))) hfr (lv_sub hl [1, 0, 2] rfl)
              ·
                have oc0 : (0 : Int32).toInt = 0 := by decide
                have cc191 : r70.toInt ≠ (0 : Int32).toInt := i32_ne c83
                have hb192 : In r70 1 1 := In.ne1 eL74R (⟨by decide, by decide⟩ : In 0 0 0) cc191 (by omega) (by omega)
                have hb193 : In r63 48 57 := In.both (eL74W0 c83) eL67R (by decide) (by decide)
                refine lv_aload_n hx hb dX11_planLine_183 rfl (lv_at hl 1 rfl) ?_
                obtain ⟨v0_194, v2_194, v3_194, v4_194, v5_194, v6_194, v8_194, v9_194, v12_194, v13_194, v14_194, v15_194, v16_194, v17_194, v18_194, v19_194, v20_194, v21_194, v22_194, v23_194, v25_194, v36_194, v37_194, v38_194, v39_194, v40_194, v45_194, v46_194, v47_194, v48_194, v50_194, v51_194, v53_194, v55_194, hf195, hv0_194, hv2_194, hg2_194, hv3_194, hg3_194, hv4_194, hg4_194, hv5_194, hg5_194, hv6_194, hg6_194, hv8_194, hv9_194, hg9_194, hv12_194, hv13_194, hg13_194, hv14_194, hg14_194, hv15_194, hg15_194, hv17_194, hg17_194, hv20_194, hg20_194, hv23_194, hg23_194, hv25_194, hv36_194, hg36_194, hv47_194, hg47_194, hv48_194, hg48_194, hv53_194, hg53_194, hv55_194, hg55_194, hrel0_194⟩ := hT.2.2 0 (by decide)
                have hg2_194 : v2_194.toInt = th 13 := hg2_194
                have hg3_194 : v3_194.toInt = zz68 := hg3_194
                have hg4_194 : v4_194.toInt = zg161_ze := hg4_194
                have hg5_194 : v5_194.toInt = zg161_zr := hg5_194
                have hg6_194 : v6_194.toInt = zg161_zl := hg6_194
                have hg9_194 : v9_194.toInt = th 35 := hg9_194
                have hg13_194 : v13_194.toInt = th 36 := hg13_194
                have hg14_194 : v14_194.toInt = th 10 := hg14_194
                have hg15_194 : v15_194.toInt = th 11 := hg15_194
                have hg17_194 : v17_194.toInt = th 12 := hg17_194
                have hg20_194 : v20_194.toInt = th 14 := hg20_194
                have hg23_194 : v23_194.toInt = th 15 := hg23_194
                have hg36_194 : v36_194.toInt = th 18 := hg36_194
                have hg47_194 : v47_194.toInt = th 16 := hg47_194
                have hg48_194 : v48_194.toInt = th 17 := hg48_194
                have hg53_194 : v53_194.toInt = th 38 := hg53_194
                have hg55_194 : v55_194.toInt = th 39 := hg55_194
                refine pl_get (v := .ref (ad 259)) hx hb hts (fun w h => mT (inX11 w h)) hown hG.1 hP (hst.1 255 (by decide)) hf195 rfl 11 (by decide) (hts _ (mT wg_1347)) (fun _ h => h) rfl dX11_planLine_184 ?_
                refine lv_iload_n hx hb dX11_planLine_187 rfl (lv_at hl 2 rfl) ?_
                refine lv_iconst (v := 4) hx hb dX11_planLine_188 (by decide) ?_
                refine lv_iadd hx hb dX11_planLine_189 ?_
                refine lv_topi (fun x196 ex196 => ?_)
                have hb197 : In x196 4 99 := ex196 ▸ In.add hb15 (⟨by decide, by decide⟩ : In 4 4 4) (by decide) (by decide) (by decide) (by decide)
                have et198 : x196.toInt = x14.toInt + 4 := In.adde ex196 hb15 (k := 4) (by decide) (by decide) (by decide)
                refine lv_aload_n hx hb dX11_planLine_190 rfl (lv_at hl 1 rfl) ?_
                refine lv_iconst (v := 0) hx hb dX11_planLine_191 (by decide) ?_
                refine lv_iconst (v := 2) hx hb dX11_planLine_192 (by decide) ?_
                refine call_i (run_V (rm := rm_X11_digit_0_2) hx hb hml hown hts (s_X11_digit_0_2 l g ad (gset (gset (gset (gset th 40 zg161_zr) 41 zg161_zl) 42 zg161_ze) 37 zz68) _ _ _  hst hT ) cV_X11_digit wg_1566 ⟨Nat.le_of_ble_eq_true rfl, Nat.le_of_ble_eq_true rfl⟩ hG hE hA hP hD hS (hst.1 255 (by decide)) hf195 rfl rfl hl.1 (As := [.int 0, .int 2]) (rest := [.int x196, .ref (ad 259)]) rfl (Nat.le_of_ble_eq_true rfl) dX11_planLine_193 ⟨Nat.le_of_ble_eq_true rfl, Nat.le_of_ble_eq_true rfl⟩) hA hD hS (fun r199 L200 f201 H locs hp202 hP hD hS => ?_)
                obtain ⟨eL203L, eL203T, eL203F, eL203R⟩ := hp202
                have eL203L : L200 = L := eL203L
                rw [eL203L] at hP hD
                obtain ⟨zz204, zz205, zz206, zz207, hzz204, eL203T⟩ := eL203T
                have hT : TI g ad (gset (gset (gset (gset (gset (gset (gset (gset th 40 zg161_zr) 41 zg161_zl) 42 zg161_ze) 37 zz68) 37 zz204) 40 zz205) 41 zz206) 42 zz207) f201 := eL203T
                have hT : TI g ad (gset (gset (gset (gset th 37 zz204) 40 zz205) 41 zz206) 42 zz207) f201 := TI.cast hT (by funext q; simp only [gset]; (repeat' split); all_goals first | rfl | omega | (subst_vars; rfl) | (exfalso; omega))
                have eL203F : ∀ b, b ≠ (ad 255) → f201 b = f65 b := eL203F
                have hf208 := (eL203F (ad 259) (hst.ne (by decide) (by decide) (by decide))).trans hf69
                have hfr : (∀ b, b ≠ (ad 255) → b ≠ (ad 259) → f201 b = f b) := fun b z0_ z1_ => (eL203F b z0_).trans (hfr b z0_ z1_)
                have eL203R : In r199 0 2 := eL203R
                refine pl_iastE hx hb hG.1 hP hD hS (hst.1 259 (by decide)) 0 hf208 rfl (In.inb hb197 (by decide) (by decide)) dX11_planLine_196 (fun H locs f209 r212 er212 hf210 ho211 hP hD hS => ?_)
                have hfr : (∀ b, b ≠ (ad 255) → b ≠ (ad 259) → f209 b = f b) := fun b z0_ z1_ => (ho211 b z1_).trans (hfr b z0_ z1_)
                have hT := TI.updM hT hst (k := 4) (by decide) hf210 ho211 ⟨r212, rfl⟩
                refine lv_goto (tgt := 293) hx hb dX11_planLine_197 (by decide) ?_
                exact hJ293 zz204 zz205 zz206 zz207 _ _ _ _ (show th 37 ≤ zz204 ∧ zz204 ≤ 500 from (by omega)) hP hD hS (TI.cast hT (by funext q; simp only [gset]; (repeat' split); all_goals first | rfl | omega | (subst_vars; rfl) | (exfalso; omega))) hfr (lv_sub hl [1, 0, 2] rfl)
            ·
              have ocm1 : ((-1) : Int32).toInt = (-1) := by decide
              have cc213 : v4_58.toInt ≠ ((-1) : Int32).toInt := i32_ne c60
              have hb214 : In v4_58 0 500 := In.ne1 hv4_58 (⟨by decide, by decide⟩ : In (-1) (-1) (-1)) cc213 (by omega) (by omega)
              exact ret_v hx hb hr hlocks hP hD hS (Nat.le_of_ble_eq_true rfl) (Nat.le_of_ble_eq_true rfl) (⟨rfl, ⟨zg161_za, zg161_zr, zg161_zl, zg161_ze, (th 36), (show th 37 ≤ zg161_za ∧ zg161_za ≤ 500 from (by obtain ⟨o0a, o0b⟩ := (hv2_58 : In _ _ _); obtain ⟨o1a, o1b⟩ := (hv3_58 : In _ _ _); obtain ⟨o2a, o2b⟩ := (hb214 : In _ _ _); obtain ⟨o3a, o3b⟩ := (hv5_58 : In _ _ _); obtain ⟨o4a, o4b⟩ := (hv6_58 : In _ _ _); obtain ⟨o5a, o5b⟩ := (hv9_58 : In _ _ _); obtain ⟨o6a, o6b⟩ := (hv13_58 : In _ _ _); obtain ⟨o7a, o7b⟩ := (hv14_58 : In _ _ _); obtain ⟨o8a, o8b⟩ := (hv15_58 : In _ _ _); obtain ⟨o9a, o9b⟩ := (hv17_58 : In _ _ _); obtain ⟨o10a, o10b⟩ := (hv20_58 : In _ _ _); obtain ⟨o11a, o11b⟩ := (hv23_58 : In _ _ _); obtain ⟨o12a, o12b⟩ := (hv36_58 : In _ _ _); obtain ⟨o13a, o13b⟩ := (hv47_58 : In _ _ _); obtain ⟨o14a, o14b⟩ := (hv48_58 : In _ _ _); obtain ⟨o15a, o15b⟩ := (hv53_58 : In _ _ _); obtain ⟨o16a, o16b⟩ := (hv55_58 : In _ _ _); omega)), TI.cast hT (by funext q; simp only [gset]; (repeat' split); all_goals first | rfl | omega | (subst_vars; rfl) | (exfalso; omega))⟩, hfr⟩) dX11_planLine_170
          have hJ160 : ∀ (zg160_za : Int) (zg160_zr : Int) (zg160_zl : Int) (zg160_ze : Int) (f_160 : HP) (H : Heap) (locs : List Loc) (ls : Array Slot), th 37 ≤ zg160_za ∧ zg160_za ≤ 500 → va_P g.1 vwCl (va_pl L f_160) H → va_D A (va_pl L f_160) → va_S A s.heap H locs → TI g ad (gset (gset (gset (gset th 37 zg160_za) 40 zg160_zr) 41 zg160_zl) 42 zg160_ze) f_160 → (∀ b, b ≠ (ad 255) → b ≠ (ad 259) → f_160 b = f b) → f_160 (ad 259) = .inl (g.2.1 0, 100, .inl (r47)) → lv_has ls 3 [(0, .ref (ad 255)), (1, .int r3), (2, .int x14)] → W p l e rm_X11_planLine s m [.ref (ad 255)].toArray below meth c H locs 0 0 (MQ below (va_Qv (po_X11_planLine g ad th L f ) (PstB g A) A) [.ref (ad 255)].toArray s rm_X11_planLine.cells rm_X11_planLine.slots A) (F0 m 160 ls [.int x50, .ref (ad 259)]) := by
            intro zg160_za zg160_zr zg160_zl zg160_ze f_160 H locs ls hzg160 hP hD hS hT hfr hf215 hl
            refine lv_iconst (v := (-1)) hx hb dX11_planLine_160 (by decide) ?_
            exact hJ161 zg160_za zg160_zr zg160_zl zg160_ze (-1) _ _ _ _ (show th 37 ≤ zg160_za ∧ zg160_za ≤ 500 from (by omega)) (⟨by decide, by decide⟩ : In (-1) (-1) 8) hP hD hS (TI.cast hT (by funext q; simp only [gset]; (repeat' split); all_goals first | rfl | omega | (subst_vars; rfl) | (exfalso; omega))) hfr hf215 (lv_sub hl [0, 1, 2] rfl)
          refine lv_icmp_ne (tgt := 160) hx hb dX11_planLine_138 (by decide) (fun c216 => ?_) (fun c216 => ?_)
          ·
            have ocm1 : ((-1) : Int32).toInt = (-1) := by decide
            have cc217 : v4_48.toInt ≠ ((-1) : Int32).toInt := i32_ne c216
            have hb218 : In v4_48 0 500 := In.ne1 hv4_48 (⟨by decide, by decide⟩ : In (-1) (-1) (-1)) cc217 (by omega) (by omega)
            exact hJ160 zg125_za zg125_zr zg125_zl zg125_ze _ _ _ _ (show th 37 ≤ zg125_za ∧ zg125_za ≤ 500 from (by obtain ⟨o0a, o0b⟩ := (hv2_48 : In _ _ _); obtain ⟨o1a, o1b⟩ := (hv3_48 : In _ _ _); obtain ⟨o2a, o2b⟩ := (hb218 : In _ _ _); obtain ⟨o3a, o3b⟩ := (hv5_48 : In _ _ _); obtain ⟨o4a, o4b⟩ := (hv6_48 : In _ _ _); obtain ⟨o5a, o5b⟩ := (hv9_48 : In _ _ _); obtain ⟨o6a, o6b⟩ := (hv13_48 : In _ _ _); obtain ⟨o7a, o7b⟩ := (hv14_48 : In _ _ _); obtain ⟨o8a, o8b⟩ := (hv15_48 : In _ _ _); obtain ⟨o9a, o9b⟩ := (hv17_48 : In _ _ _); obtain ⟨o10a, o10b⟩ := (hv20_48 : In _ _ _); obtain ⟨o11a, o11b⟩ := (hv23_48 : In _ _ _); obtain ⟨o12a, o12b⟩ := (hv36_48 : In _ _ _); obtain ⟨o13a, o13b⟩ := (hv47_48 : In _ _ _); obtain ⟨o14a, o14b⟩ := (hv48_48 : In _ _ _); obtain ⟨o15a, o15b⟩ := (hv53_48 : In _ _ _); obtain ⟨o16a, o16b⟩ := (hv55_48 : In _ _ _); omega)) hP hD hS (TI.cast hT (by funext q; simp only [gset]; (repeat' split); all_goals first | rfl | omega | (subst_vars; rfl) | (exfalso; omega))) hfr hf45 (lv_sub hl [0, 1, 2] rfl)
          ·
            have ocm1 : ((-1) : Int32).toInt = (-1) := by decide
            have cc219 : v4_48.toInt = ((-1) : Int32).toInt := congrArg Int32.toInt c216
            have hb220 : In v4_48 (-1) (-1) := In.eq1 hv4_48 (⟨by decide, by decide⟩ : In (-1) (-1) (-1)) cc219 (by omega) (by omega)
            refine lv_aload_n hx hb dX11_planLine_141 rfl (lv_at hl 0 rfl) ?_
            refine va_ldcS hx hb hown (hG.2.2.1 ("RulerWordModel", 193, "to", 11) (by decide +kernel)) dX11_planLine_142 ?_
            refine call_i (run_V (rm := rm_X11_takes) hx hb hml hown hts (s_X11_takes l g ad (gset (gset (gset (gset th 37 zg125_za) 40 zg125_zr) 41 zg125_zl) 42 zg125_ze) _ _ _ 11 hst hT (by decide)) cV_X11_takes wg_1538 ⟨Nat.le_of_ble_eq_true rfl, Nat.le_of_ble_eq_true rfl⟩ hG hE hA hP hD hS (hst.1 255 (by decide)) hf49 rfl rfl hl.1 (As := [.ref (g.2.2.1 11)]) (rest := [.int x50, .ref (ad 259)]) rfl (Nat.le_of_ble_eq_true rfl) dX11_planLine_144 ⟨Nat.le_of_ble_eq_true rfl, Nat.le_of_ble_eq_true rfl⟩) hA hD hS (fun r221 L222 f223 H locs hp224 hP hD hS => ?_)
            obtain ⟨eL225L, eL225T, eL225F, eL225R⟩ := hp224
            have eL225L : L222 = L := eL225L
            rw [eL225L] at hP hD
            obtain ⟨zz226, hzz226, eL225T⟩ := eL225T
            have hT : TI g ad (gset (gset (gset (gset (gset th 37 zg125_za) 40 zg125_zr) 41 zg125_zl) 42 zg125_ze) 37 zz226) f223 := eL225T
            have hT : TI g ad (gset (gset (gset (gset th 40 zg125_zr) 41 zg125_zl) 42 zg125_ze) 37 zz226) f223 := TI.cast hT (by funext q; simp only [gset]; (repeat' split); all_goals first | rfl | omega | (subst_vars; rfl) | (exfalso; omega))
            have eL225F : ∀ b, b ≠ (ad 255) → f223 b = f44 b := eL225F
            have hf227 := (eL225F (ad 259) (hst.ne (by decide) (by decide) (by decide))).trans hf45
            have hfr : (∀ b, b ≠ (ad 255) → b ≠ (ad 259) → f223 b = f b) := fun b z0_ z1_ => (eL225F b z0_).trans (hfr b z0_ z1_)
            have eL225R : In r221 0 1 := eL225R
            refine lv_if_eq (tgt := 160) hx hb dX11_planLine_147 (by decide) (fun c228 => ?_) (fun c228 => ?_)
            ·
              have oc0 : (0 : Int32).toInt = 0 := by decide
              have cc229 : r221.toInt = (0 : Int32).toInt := congrArg Int32.toInt c228
              have hb230 : In r221 0 0 := In.eq1 eL225R (⟨by decide, by decide⟩ : In 0 0 0) cc229 (by omega) (by omega)
              exact hJ160 zz226 zg125_zr zg125_zl zg125_ze _ _ _ _ (show th 37 ≤ zz226 ∧ zz226 ≤ 500 from (by omega)) hP hD hS (TI.cast hT (by funext q; simp only [gset]; (repeat' split); all_goals first | rfl | omega | (subst_vars; rfl) | (exfalso; omega))) hfr hf227 (lv_sub hl [0, 1, 2] rfl)
            ·
              have oc0 : (0 : Int32).toInt = 0 := by decide
              have cc231 : r221.toInt ≠ (0 : Int32).toInt := i32_ne c228
              have hb232 : In r221 1 1 := In.ne1 eL225R (⟨by decide, by decide⟩ : In 0 0 0) cc231 (by omega) (by omega)
              refine lv_aload_n hx hb dX11_planLine_150 rfl (lv_at hl 0 rfl) ?_
              refine lv_iconst (v := 0) hx hb dX11_planLine_151 (by decide) ?_
              refine lv_bipush (v := 8) hx hb dX11_planLine_152 (by decide) ?_
              obtain ⟨v0_233, v2_233, v3_233, v4_233, v5_233, v6_233, v8_233, v9_233, v12_233, v13_233, v14_233, v15_233, v16_233, v17_233, v18_233, v19_233, v20_233, v21_233, v22_233, v23_233, v25_233, v36_233, v37_233, v38_233, v39_233, v40_233, v45_233, v46_233, v47_233, v48_233, v50_233, v51_233, v53_233, v55_233, hf234, hv0_233, hv2_233, hg2_233, hv3_233, hg3_233, hv4_233, hg4_233, hv5_233, hg5_233, hv6_233, hg6_233, hv8_233, hv9_233, hg9_233, hv12_233, hv13_233, hg13_233, hv14_233, hg14_233, hv15_233, hg15_233, hv17_233, hg17_233, hv20_233, hg20_233, hv23_233, hg23_233, hv25_233, hv36_233, hg36_233, hv47_233, hg47_233, hv48_233, hg48_233, hv53_233, hg53_233, hv55_233, hg55_233, hrel0_233⟩ := hT.2.2 0 (by decide)
              have hg2_233 : v2_233.toInt = th 13 := hg2_233
              have hg3_233 : v3_233.toInt = zz226 := hg3_233
              have hg4_233 : v4_233.toInt = zg125_ze := hg4_233
              have hg5_233 : v5_233.toInt = zg125_zr := hg5_233
              have hg6_233 : v6_233.toInt = zg125_zl := hg6_233
              have hg9_233 : v9_233.toInt = th 35 := hg9_233
              have hg13_233 : v13_233.toInt = th 36 := hg13_233
              have hg14_233 : v14_233.toInt = th 10 := hg14_233
              have hg15_233 : v15_233.toInt = th 11 := hg15_233
              have hg17_233 : v17_233.toInt = th 12 := hg17_233
              have hg20_233 : v20_233.toInt = th 14 := hg20_233
              have hg23_233 : v23_233.toInt = th 15 := hg23_233
              have hg36_233 : v36_233.toInt = th 18 := hg36_233
              have hg47_233 : v47_233.toInt = th 16 := hg47_233
              have hg48_233 : v48_233.toInt = th 17 := hg48_233
              have hg53_233 : v53_233.toInt = th 38 := hg53_233
              have hg55_233 : v55_233.toInt = th 39 := hg55_233
              refine call_i (run_V (rm := rm_X11_digit_0_8) hx hb hml hown hts (s_X11_digit_0_8 l g ad (gset (gset (gset (gset th 40 zg125_zr) 41 zg125_zl) 42 zg125_ze) 37 zz226) _ _ _  hst hT ) cV_X11_digit wg_1566 ⟨Nat.le_of_ble_eq_true rfl, Nat.le_of_ble_eq_true rfl⟩ hG hE hA hP hD hS (hst.1 255 (by decide)) hf234 rfl rfl hl.1 (As := [.int 0, .int 8]) (rest := [.int x50, .ref (ad 259)]) rfl (Nat.le_of_ble_eq_true rfl) dX11_planLine_154 ⟨Nat.le_of_ble_eq_true rfl, Nat.le_of_ble_eq_true rfl⟩) hA hD hS (fun r235 L236 f237 H locs hp238 hP hD hS => ?_)
              obtain ⟨eL239L, eL239T, eL239F, eL239R⟩ := hp238
              have eL239L : L236 = L := eL239L
              rw [eL239L] at hP hD
              obtain ⟨zz240, zz241, zz242, zz243, hzz240, eL239T⟩ := eL239T
              have hT : TI g ad (gset (gset (gset (gset (gset (gset (gset (gset th 40 zg125_zr) 41 zg125_zl) 42 zg125_ze) 37 zz226) 37 zz240) 40 zz241) 41 zz242) 42 zz243) f237 := eL239T
              have hT : TI g ad (gset (gset (gset (gset th 37 zz240) 40 zz241) 41 zz242) 42 zz243) f237 := TI.cast hT (by funext q; simp only [gset]; (repeat' split); all_goals first | rfl | omega | (subst_vars; rfl) | (exfalso; omega))
              have eL239F : ∀ b, b ≠ (ad 255) → f237 b = f223 b := eL239F
              have hf244 := (eL239F (ad 259) (hst.ne (by decide) (by decide) (by decide))).trans hf227
              have hfr : (∀ b, b ≠ (ad 255) → b ≠ (ad 259) → f237 b = f b) := fun b z0_ z1_ => (eL239F b z0_).trans (hfr b z0_ z1_)
              have eL239R : In r235 0 8 := eL239R
              refine lv_goto (tgt := 161) hx hb dX11_planLine_157 (by decide) ?_
              exact hJ161 zz240 zz241 zz242 zz243 r235 _ _ _ _ (show th 37 ≤ zz240 ∧ zz240 ≤ 500 from (by omega)) (In.mono eL239R (by decide) (by decide)) hP hD hS (TI.cast hT (by funext q; simp only [gset]; (repeat' split); all_goals first | rfl | omega | (subst_vars; rfl) | (exfalso; omega))) hfr hf244 (lv_sub hl [0, 1, 2] rfl)
        have hJ124 : ∀ (zg124_za : Int) (zg124_zr : Int) (zg124_zl : Int) (zg124_ze : Int) (f_124 : HP) (H : Heap) (locs : List Loc) (ls : Array Slot), th 37 ≤ zg124_za ∧ zg124_za ≤ 500 → va_P g.1 vwCl (va_pl L f_124) H → va_D A (va_pl L f_124) → va_S A s.heap H locs → TI g ad (gset (gset (gset (gset th 37 zg124_za) 40 zg124_zr) 41 zg124_zl) 42 zg124_ze) f_124 → (∀ b, b ≠ (ad 255) → b ≠ (ad 259) → f_124 b = f b) → f_124 (ad 259) = .inl (g.2.1 0, 100, .inl (r37)) → lv_has ls 3 [(0, .ref (ad 255)), (1, .int r3), (2, .int x14)] → W p l e rm_X11_planLine s m [.ref (ad 255)].toArray below meth c H locs 0 0 (MQ below (va_Qv (po_X11_planLine g ad th L f ) (PstB g A) A) [.ref (ad 255)].toArray s rm_X11_planLine.cells rm_X11_planLine.slots A) (F0 m 124 ls [.int x40, .ref (ad 259)]) := by
          intro zg124_za zg124_zr zg124_zl zg124_ze f_124 H locs ls hzg124 hP hD hS hT hfr hf245 hl
          refine lv_iconst (v := (-1)) hx hb dX11_planLine_124 (by decide) ?_
          exact hJ125 zg124_za zg124_zr zg124_zl zg124_ze (-1) _ _ _ _ (show th 37 ≤ zg124_za ∧ zg124_za ≤ 500 from (by omega)) (⟨by decide, by decide⟩ : In (-1) (-1) 8) hP hD hS (TI.cast hT (by funext q; simp only [gset]; (repeat' split); all_goals first | rfl | omega | (subst_vars; rfl) | (exfalso; omega))) hfr hf245 (lv_sub hl [0, 1, 2] rfl)
        refine lv_icmp_ne (tgt := 124) hx hb dX11_planLine_102 (by decide) (fun c246 => ?_) (fun c246 => ?_)
        ·
          have ocm1 : ((-1) : Int32).toInt = (-1) := by decide
          have cc247 : v4_38.toInt ≠ ((-1) : Int32).toInt := i32_ne c246
          have hb248 : In v4_38 0 500 := In.ne1 hv4_38 (⟨by decide, by decide⟩ : In (-1) (-1) (-1)) cc247 (by omega) (by omega)
          exact hJ124 zg89_za zg89_zr zg89_zl zg89_ze _ _ _ _ (show th 37 ≤ zg89_za ∧ zg89_za ≤ 500 from (by obtain ⟨o0a, o0b⟩ := (hv2_38 : In _ _ _); obtain ⟨o1a, o1b⟩ := (hv3_38 : In _ _ _); obtain ⟨o2a, o2b⟩ := (hb248 : In _ _ _); obtain ⟨o3a, o3b⟩ := (hv5_38 : In _ _ _); obtain ⟨o4a, o4b⟩ := (hv6_38 : In _ _ _); obtain ⟨o5a, o5b⟩ := (hv9_38 : In _ _ _); obtain ⟨o6a, o6b⟩ := (hv13_38 : In _ _ _); obtain ⟨o7a, o7b⟩ := (hv14_38 : In _ _ _); obtain ⟨o8a, o8b⟩ := (hv15_38 : In _ _ _); obtain ⟨o9a, o9b⟩ := (hv17_38 : In _ _ _); obtain ⟨o10a, o10b⟩ := (hv20_38 : In _ _ _); obtain ⟨o11a, o11b⟩ := (hv23_38 : In _ _ _); obtain ⟨o12a, o12b⟩ := (hv36_38 : In _ _ _); obtain ⟨o13a, o13b⟩ := (hv47_38 : In _ _ _); obtain ⟨o14a, o14b⟩ := (hv48_38 : In _ _ _); obtain ⟨o15a, o15b⟩ := (hv53_38 : In _ _ _); obtain ⟨o16a, o16b⟩ := (hv55_38 : In _ _ _); omega)) hP hD hS (TI.cast hT (by funext q; simp only [gset]; (repeat' split); all_goals first | rfl | omega | (subst_vars; rfl) | (exfalso; omega))) hfr hf35 (lv_sub hl [0, 1, 2] rfl)
        ·
          have ocm1 : ((-1) : Int32).toInt = (-1) := by decide
          have cc249 : v4_38.toInt = ((-1) : Int32).toInt := congrArg Int32.toInt c246
          have hb250 : In v4_38 (-1) (-1) := In.eq1 hv4_38 (⟨by decide, by decide⟩ : In (-1) (-1) (-1)) cc249 (by omega) (by omega)
          refine lv_aload_n hx hb dX11_planLine_105 rfl (lv_at hl 0 rfl) ?_
          refine va_ldcS hx hb hown (hG.2.2.1 ("RulerWordModel", 191, "from", 10) (by decide +kernel)) dX11_planLine_106 ?_
          refine call_i (run_V (rm := rm_X11_takes) hx hb hml hown hts (s_X11_takes l g ad (gset (gset (gset (gset th 37 zg89_za) 40 zg89_zr) 41 zg89_zl) 42 zg89_ze) _ _ _ 10 hst hT (by decide)) cV_X11_takes wg_1538 ⟨Nat.le_of_ble_eq_true rfl, Nat.le_of_ble_eq_true rfl⟩ hG hE hA hP hD hS (hst.1 255 (by decide)) hf39 rfl rfl hl.1 (As := [.ref (g.2.2.1 10)]) (rest := [.int x40, .ref (ad 259)]) rfl (Nat.le_of_ble_eq_true rfl) dX11_planLine_108 ⟨Nat.le_of_ble_eq_true rfl, Nat.le_of_ble_eq_true rfl⟩) hA hD hS (fun r251 L252 f253 H locs hp254 hP hD hS => ?_)
          obtain ⟨eL255L, eL255T, eL255F, eL255R⟩ := hp254
          have eL255L : L252 = L := eL255L
          rw [eL255L] at hP hD
          obtain ⟨zz256, hzz256, eL255T⟩ := eL255T
          have hT : TI g ad (gset (gset (gset (gset (gset th 37 zg89_za) 40 zg89_zr) 41 zg89_zl) 42 zg89_ze) 37 zz256) f253 := eL255T
          have hT : TI g ad (gset (gset (gset (gset th 40 zg89_zr) 41 zg89_zl) 42 zg89_ze) 37 zz256) f253 := TI.cast hT (by funext q; simp only [gset]; (repeat' split); all_goals first | rfl | omega | (subst_vars; rfl) | (exfalso; omega))
          have eL255F : ∀ b, b ≠ (ad 255) → f253 b = f34 b := eL255F
          have hf257 := (eL255F (ad 259) (hst.ne (by decide) (by decide) (by decide))).trans hf35
          have hfr : (∀ b, b ≠ (ad 255) → b ≠ (ad 259) → f253 b = f b) := fun b z0_ z1_ => (eL255F b z0_).trans (hfr b z0_ z1_)
          have eL255R : In r251 0 1 := eL255R
          refine lv_if_eq (tgt := 124) hx hb dX11_planLine_111 (by decide) (fun c258 => ?_) (fun c258 => ?_)
          ·
            have oc0 : (0 : Int32).toInt = 0 := by decide
            have cc259 : r251.toInt = (0 : Int32).toInt := congrArg Int32.toInt c258
            have hb260 : In r251 0 0 := In.eq1 eL255R (⟨by decide, by decide⟩ : In 0 0 0) cc259 (by omega) (by omega)
            exact hJ124 zz256 zg89_zr zg89_zl zg89_ze _ _ _ _ (show th 37 ≤ zz256 ∧ zz256 ≤ 500 from (by omega)) hP hD hS (TI.cast hT (by funext q; simp only [gset]; (repeat' split); all_goals first | rfl | omega | (subst_vars; rfl) | (exfalso; omega))) hfr hf257 (lv_sub hl [0, 1, 2] rfl)
          ·
            have oc0 : (0 : Int32).toInt = 0 := by decide
            have cc261 : r251.toInt ≠ (0 : Int32).toInt := i32_ne c258
            have hb262 : In r251 1 1 := In.ne1 eL255R (⟨by decide, by decide⟩ : In 0 0 0) cc261 (by omega) (by omega)
            refine lv_aload_n hx hb dX11_planLine_114 rfl (lv_at hl 0 rfl) ?_
            refine lv_iconst (v := 0) hx hb dX11_planLine_115 (by decide) ?_
            refine lv_bipush (v := 8) hx hb dX11_planLine_116 (by decide) ?_
            obtain ⟨v0_263, v2_263, v3_263, v4_263, v5_263, v6_263, v8_263, v9_263, v12_263, v13_263, v14_263, v15_263, v16_263, v17_263, v18_263, v19_263, v20_263, v21_263, v22_263, v23_263, v25_263, v36_263, v37_263, v38_263, v39_263, v40_263, v45_263, v46_263, v47_263, v48_263, v50_263, v51_263, v53_263, v55_263, hf264, hv0_263, hv2_263, hg2_263, hv3_263, hg3_263, hv4_263, hg4_263, hv5_263, hg5_263, hv6_263, hg6_263, hv8_263, hv9_263, hg9_263, hv12_263, hv13_263, hg13_263, hv14_263, hg14_263, hv15_263, hg15_263, hv17_263, hg17_263, hv20_263, hg20_263, hv23_263, hg23_263, hv25_263, hv36_263, hg36_263, hv47_263, hg47_263, hv48_263, hg48_263, hv53_263, hg53_263, hv55_263, hg55_263, hrel0_263⟩ := hT.2.2 0 (by decide)
            have hg2_263 : v2_263.toInt = th 13 := hg2_263
            have hg3_263 : v3_263.toInt = zz256 := hg3_263
            have hg4_263 : v4_263.toInt = zg89_ze := hg4_263
            have hg5_263 : v5_263.toInt = zg89_zr := hg5_263
            have hg6_263 : v6_263.toInt = zg89_zl := hg6_263
            have hg9_263 : v9_263.toInt = th 35 := hg9_263
            have hg13_263 : v13_263.toInt = th 36 := hg13_263
            have hg14_263 : v14_263.toInt = th 10 := hg14_263
            have hg15_263 : v15_263.toInt = th 11 := hg15_263
            have hg17_263 : v17_263.toInt = th 12 := hg17_263
            have hg20_263 : v20_263.toInt = th 14 := hg20_263
            have hg23_263 : v23_263.toInt = th 15 := hg23_263
            have hg36_263 : v36_263.toInt = th 18 := hg36_263
            have hg47_263 : v47_263.toInt = th 16 := hg47_263
            have hg48_263 : v48_263.toInt = th 17 := hg48_263
            have hg53_263 : v53_263.toInt = th 38 := hg53_263
            have hg55_263 : v55_263.toInt = th 39 := hg55_263
            refine call_i (run_V (rm := rm_X11_digit_0_8) hx hb hml hown hts (s_X11_digit_0_8 l g ad (gset (gset (gset (gset th 40 zg89_zr) 41 zg89_zl) 42 zg89_ze) 37 zz256) _ _ _  hst hT ) cV_X11_digit wg_1566 ⟨Nat.le_of_ble_eq_true rfl, Nat.le_of_ble_eq_true rfl⟩ hG hE hA hP hD hS (hst.1 255 (by decide)) hf264 rfl rfl hl.1 (As := [.int 0, .int 8]) (rest := [.int x40, .ref (ad 259)]) rfl (Nat.le_of_ble_eq_true rfl) dX11_planLine_118 ⟨Nat.le_of_ble_eq_true rfl, Nat.le_of_ble_eq_true rfl⟩) hA hD hS (fun r265 L266 f267 H locs hp268 hP hD hS => ?_)
            obtain ⟨eL269L, eL269T, eL269F, eL269R⟩ := hp268
            have eL269L : L266 = L := eL269L
            rw [eL269L] at hP hD
            obtain ⟨zz270, zz271, zz272, zz273, hzz270, eL269T⟩ := eL269T
            have hT : TI g ad (gset (gset (gset (gset (gset (gset (gset (gset th 40 zg89_zr) 41 zg89_zl) 42 zg89_ze) 37 zz256) 37 zz270) 40 zz271) 41 zz272) 42 zz273) f267 := eL269T
            have hT : TI g ad (gset (gset (gset (gset th 37 zz270) 40 zz271) 41 zz272) 42 zz273) f267 := TI.cast hT (by funext q; simp only [gset]; (repeat' split); all_goals first | rfl | omega | (subst_vars; rfl) | (exfalso; omega))
            have eL269F : ∀ b, b ≠ (ad 255) → f267 b = f253 b := eL269F
            have hf274 := (eL269F (ad 259) (hst.ne (by decide) (by decide) (by decide))).trans hf257
            have hfr : (∀ b, b ≠ (ad 255) → b ≠ (ad 259) → f267 b = f b) := fun b z0_ z1_ => (eL269F b z0_).trans (hfr b z0_ z1_)
            have eL269R : In r265 0 8 := eL269R
            refine lv_goto (tgt := 125) hx hb dX11_planLine_121 (by decide) ?_
            exact hJ125 zz270 zz271 zz272 zz273 r265 _ _ _ _ (show th 37 ≤ zz270 ∧ zz270 ≤ 500 from (by omega)) (In.mono eL269R (by decide) (by decide)) hP hD hS (TI.cast hT (by funext q; simp only [gset]; (repeat' split); all_goals first | rfl | omega | (subst_vars; rfl) | (exfalso; omega))) hfr hf274 (lv_sub hl [0, 1, 2] rfl)
      have hJ88 : ∀ (zg88_za : Int) (zg88_zr : Int) (zg88_zl : Int) (zg88_ze : Int) (f_88 : HP) (H : Heap) (locs : List Loc) (ls : Array Slot), th 37 ≤ zg88_za ∧ zg88_za ≤ 500 → va_P g.1 vwCl (va_pl L f_88) H → va_D A (va_pl L f_88) → va_S A s.heap H locs → TI g ad (gset (gset (gset (gset th 37 zg88_za) 40 zg88_zr) 41 zg88_zl) 42 zg88_ze) f_88 → (∀ b, b ≠ (ad 255) → b ≠ (ad 259) → f_88 b = f b) → f_88 (ad 259) = .inl (g.2.1 0, 100, .inl (r27)) → lv_has ls 3 [(0, .ref (ad 255)), (1, .int r3), (2, .int x14)] → W p l e rm_X11_planLine s m [.ref (ad 255)].toArray below meth c H locs 0 0 (MQ below (va_Qv (po_X11_planLine g ad th L f ) (PstB g A) A) [.ref (ad 255)].toArray s rm_X11_planLine.cells rm_X11_planLine.slots A) (F0 m 88 ls [.int x30, .ref (ad 259)]) := by
        intro zg88_za zg88_zr zg88_zl zg88_ze f_88 H locs ls hzg88 hP hD hS hT hfr hf275 hl
        refine lv_iconst (v := (-1)) hx hb dX11_planLine_88 (by decide) ?_
        exact hJ89 zg88_za zg88_zr zg88_zl zg88_ze (-1) _ _ _ _ (show th 37 ≤ zg88_za ∧ zg88_za ≤ 500 from (by omega)) (⟨by decide, by decide⟩ : In (-1) (-1) 2) hP hD hS (TI.cast hT (by funext q; simp only [gset]; (repeat' split); all_goals first | rfl | omega | (subst_vars; rfl) | (exfalso; omega))) hfr hf275 (lv_sub hl [0, 1, 2] rfl)
      refine lv_icmp_ne (tgt := 88) hx hb dX11_planLine_67 (by decide) (fun c276 => ?_) (fun c276 => ?_)
      ·
        have ocm1 : ((-1) : Int32).toInt = (-1) := by decide
        have cc277 : v4_28.toInt ≠ ((-1) : Int32).toInt := i32_ne c276
        have hb278 : In v4_28 0 500 := In.ne1 hv4_28 (⟨by decide, by decide⟩ : In (-1) (-1) (-1)) cc277 (by omega) (by omega)
        exact hJ88 zg54_za zg54_zr zg54_zl zg54_ze _ _ _ _ (show th 37 ≤ zg54_za ∧ zg54_za ≤ 500 from (by obtain ⟨o0a, o0b⟩ := (hv2_28 : In _ _ _); obtain ⟨o1a, o1b⟩ := (hv3_28 : In _ _ _); obtain ⟨o2a, o2b⟩ := (hb278 : In _ _ _); obtain ⟨o3a, o3b⟩ := (hv5_28 : In _ _ _); obtain ⟨o4a, o4b⟩ := (hv6_28 : In _ _ _); obtain ⟨o5a, o5b⟩ := (hv9_28 : In _ _ _); obtain ⟨o6a, o6b⟩ := (hv13_28 : In _ _ _); obtain ⟨o7a, o7b⟩ := (hv14_28 : In _ _ _); obtain ⟨o8a, o8b⟩ := (hv15_28 : In _ _ _); obtain ⟨o9a, o9b⟩ := (hv17_28 : In _ _ _); obtain ⟨o10a, o10b⟩ := (hv20_28 : In _ _ _); obtain ⟨o11a, o11b⟩ := (hv23_28 : In _ _ _); obtain ⟨o12a, o12b⟩ := (hv36_28 : In _ _ _); obtain ⟨o13a, o13b⟩ := (hv47_28 : In _ _ _); obtain ⟨o14a, o14b⟩ := (hv48_28 : In _ _ _); obtain ⟨o15a, o15b⟩ := (hv53_28 : In _ _ _); obtain ⟨o16a, o16b⟩ := (hv55_28 : In _ _ _); omega)) hP hD hS (TI.cast hT (by funext q; simp only [gset]; (repeat' split); all_goals first | rfl | omega | (subst_vars; rfl) | (exfalso; omega))) hfr hf25 (lv_sub hl [0, 1, 2] rfl)
      ·
        have ocm1 : ((-1) : Int32).toInt = (-1) := by decide
        have cc279 : v4_28.toInt = ((-1) : Int32).toInt := congrArg Int32.toInt c276
        have hb280 : In v4_28 (-1) (-1) := In.eq1 hv4_28 (⟨by decide, by decide⟩ : In (-1) (-1) (-1)) cc279 (by omega) (by omega)
        refine lv_aload_n hx hb dX11_planLine_70 rfl (lv_at hl 0 rfl) ?_
        refine va_ldcS hx hb hown (hG.2.2.1 ("RulerWordModel", 189, "round", 9) (by decide +kernel)) dX11_planLine_71 ?_
        refine call_i (run_V (rm := rm_X11_takes) hx hb hml hown hts (s_X11_takes l g ad (gset (gset (gset (gset th 37 zg54_za) 40 zg54_zr) 41 zg54_zl) 42 zg54_ze) _ _ _ 9 hst hT (by decide)) cV_X11_takes wg_1538 ⟨Nat.le_of_ble_eq_true rfl, Nat.le_of_ble_eq_true rfl⟩ hG hE hA hP hD hS (hst.1 255 (by decide)) hf29 rfl rfl hl.1 (As := [.ref (g.2.2.1 9)]) (rest := [.int x30, .ref (ad 259)]) rfl (Nat.le_of_ble_eq_true rfl) dX11_planLine_73 ⟨Nat.le_of_ble_eq_true rfl, Nat.le_of_ble_eq_true rfl⟩) hA hD hS (fun r281 L282 f283 H locs hp284 hP hD hS => ?_)
        obtain ⟨eL285L, eL285T, eL285F, eL285R⟩ := hp284
        have eL285L : L282 = L := eL285L
        rw [eL285L] at hP hD
        obtain ⟨zz286, hzz286, eL285T⟩ := eL285T
        have hT : TI g ad (gset (gset (gset (gset (gset th 37 zg54_za) 40 zg54_zr) 41 zg54_zl) 42 zg54_ze) 37 zz286) f283 := eL285T
        have hT : TI g ad (gset (gset (gset (gset th 40 zg54_zr) 41 zg54_zl) 42 zg54_ze) 37 zz286) f283 := TI.cast hT (by funext q; simp only [gset]; (repeat' split); all_goals first | rfl | omega | (subst_vars; rfl) | (exfalso; omega))
        have eL285F : ∀ b, b ≠ (ad 255) → f283 b = f24 b := eL285F
        have hf287 := (eL285F (ad 259) (hst.ne (by decide) (by decide) (by decide))).trans hf25
        have hfr : (∀ b, b ≠ (ad 255) → b ≠ (ad 259) → f283 b = f b) := fun b z0_ z1_ => (eL285F b z0_).trans (hfr b z0_ z1_)
        have eL285R : In r281 0 1 := eL285R
        refine lv_if_eq (tgt := 88) hx hb dX11_planLine_76 (by decide) (fun c288 => ?_) (fun c288 => ?_)
        ·
          have oc0 : (0 : Int32).toInt = 0 := by decide
          have cc289 : r281.toInt = (0 : Int32).toInt := congrArg Int32.toInt c288
          have hb290 : In r281 0 0 := In.eq1 eL285R (⟨by decide, by decide⟩ : In 0 0 0) cc289 (by omega) (by omega)
          exact hJ88 zz286 zg54_zr zg54_zl zg54_ze _ _ _ _ (show th 37 ≤ zz286 ∧ zz286 ≤ 500 from (by omega)) hP hD hS (TI.cast hT (by funext q; simp only [gset]; (repeat' split); all_goals first | rfl | omega | (subst_vars; rfl) | (exfalso; omega))) hfr hf287 (lv_sub hl [0, 1, 2] rfl)
        ·
          have oc0 : (0 : Int32).toInt = 0 := by decide
          have cc291 : r281.toInt ≠ (0 : Int32).toInt := i32_ne c288
          have hb292 : In r281 1 1 := In.ne1 eL285R (⟨by decide, by decide⟩ : In 0 0 0) cc291 (by omega) (by omega)
          refine lv_aload_n hx hb dX11_planLine_79 rfl (lv_at hl 0 rfl) ?_
          refine lv_iconst (v := 0) hx hb dX11_planLine_80 (by decide) ?_
          refine lv_iconst (v := 2) hx hb dX11_planLine_81 (by decide) ?_
          obtain ⟨v0_293, v2_293, v3_293, v4_293, v5_293, v6_293, v8_293, v9_293, v12_293, v13_293, v14_293, v15_293, v16_293, v17_293, v18_293, v19_293, v20_293, v21_293, v22_293, v23_293, v25_293, v36_293, v37_293, v38_293, v39_293, v40_293, v45_293, v46_293, v47_293, v48_293, v50_293, v51_293, v53_293, v55_293, hf294, hv0_293, hv2_293, hg2_293, hv3_293, hg3_293, hv4_293, hg4_293, hv5_293, hg5_293, hv6_293, hg6_293, hv8_293, hv9_293, hg9_293, hv12_293, hv13_293, hg13_293, hv14_293, hg14_293, hv15_293, hg15_293, hv17_293, hg17_293, hv20_293, hg20_293, hv23_293, hg23_293, hv25_293, hv36_293, hg36_293, hv47_293, hg47_293, hv48_293, hg48_293, hv53_293, hg53_293, hv55_293, hg55_293, hrel0_293⟩ := hT.2.2 0 (by decide)
          have hg2_293 : v2_293.toInt = th 13 := hg2_293
          have hg3_293 : v3_293.toInt = zz286 := hg3_293
          have hg4_293 : v4_293.toInt = zg54_ze := hg4_293
          have hg5_293 : v5_293.toInt = zg54_zr := hg5_293
          have hg6_293 : v6_293.toInt = zg54_zl := hg6_293
          have hg9_293 : v9_293.toInt = th 35 := hg9_293
          have hg13_293 : v13_293.toInt = th 36 := hg13_293
          have hg14_293 : v14_293.toInt = th 10 := hg14_293
          have hg15_293 : v15_293.toInt = th 11 := hg15_293
          have hg17_293 : v17_293.toInt = th 12 := hg17_293
          have hg20_293 : v20_293.toInt = th 14 := hg20_293
          have hg23_293 : v23_293.toInt = th 15 := hg23_293
          have hg36_293 : v36_293.toInt = th 18 := hg36_293
          have hg47_293 : v47_293.toInt = th 16 := hg47_293
          have hg48_293 : v48_293.toInt = th 17 := hg48_293
          have hg53_293 : v53_293.toInt = th 38 := hg53_293
          have hg55_293 : v55_293.toInt = th 39 := hg55_293
          refine call_i (run_V (rm := rm_X11_digit_0_2) hx hb hml hown hts (s_X11_digit_0_2 l g ad (gset (gset (gset (gset th 40 zg54_zr) 41 zg54_zl) 42 zg54_ze) 37 zz286) _ _ _  hst hT ) cV_X11_digit wg_1566 ⟨Nat.le_of_ble_eq_true rfl, Nat.le_of_ble_eq_true rfl⟩ hG hE hA hP hD hS (hst.1 255 (by decide)) hf294 rfl rfl hl.1 (As := [.int 0, .int 2]) (rest := [.int x30, .ref (ad 259)]) rfl (Nat.le_of_ble_eq_true rfl) dX11_planLine_82 ⟨Nat.le_of_ble_eq_true rfl, Nat.le_of_ble_eq_true rfl⟩) hA hD hS (fun r295 L296 f297 H locs hp298 hP hD hS => ?_)
          obtain ⟨eL299L, eL299T, eL299F, eL299R⟩ := hp298
          have eL299L : L296 = L := eL299L
          rw [eL299L] at hP hD
          obtain ⟨zz300, zz301, zz302, zz303, hzz300, eL299T⟩ := eL299T
          have hT : TI g ad (gset (gset (gset (gset (gset (gset (gset (gset th 40 zg54_zr) 41 zg54_zl) 42 zg54_ze) 37 zz286) 37 zz300) 40 zz301) 41 zz302) 42 zz303) f297 := eL299T
          have hT : TI g ad (gset (gset (gset (gset th 37 zz300) 40 zz301) 41 zz302) 42 zz303) f297 := TI.cast hT (by funext q; simp only [gset]; (repeat' split); all_goals first | rfl | omega | (subst_vars; rfl) | (exfalso; omega))
          have eL299F : ∀ b, b ≠ (ad 255) → f297 b = f283 b := eL299F
          have hf304 := (eL299F (ad 259) (hst.ne (by decide) (by decide) (by decide))).trans hf287
          have hfr : (∀ b, b ≠ (ad 255) → b ≠ (ad 259) → f297 b = f b) := fun b z0_ z1_ => (eL299F b z0_).trans (hfr b z0_ z1_)
          have eL299R : In r295 0 2 := eL299R
          refine lv_goto (tgt := 89) hx hb dX11_planLine_85 (by decide) ?_
          exact hJ89 zz300 zz301 zz302 zz303 r295 _ _ _ _ (show th 37 ≤ zz300 ∧ zz300 ≤ 500 from (by omega)) (In.mono eL299R (by decide) (by decide)) hP hD hS (TI.cast hT (by funext q; simp only [gset]; (repeat' split); all_goals first | rfl | omega | (subst_vars; rfl) | (exfalso; omega))) hfr hf304 (lv_sub hl [0, 1, 2] rfl)
    refine lv_if_eq (tgt := 53) hx hb dX11_planLine_41 (by decide) (fun c305 => ?_) (fun c305 => ?_)
    ·
      have oc0 : (0 : Int32).toInt = 0 := by decide
      have cc306 : r16.toInt = (0 : Int32).toInt := congrArg Int32.toInt c305
      have hb307 : In r16 0 0 := In.eq1 eL20R (⟨by decide, by decide⟩ : In 0 0 0) cc306 (by omega) (by omega)
      refine lv_iconst (v := (-1)) hx hb dX11_planLine_53 (by decide) ?_
      exact hJ54 zz21 (th 40) (th 41) (th 42) (-1) _ _ _ _ (show th 37 ≤ zz21 ∧ zz21 ≤ 500 from (by omega)) (⟨by decide, by decide⟩ : In (-1) (-1) 5) hP hD hS (TI.cast hT (by funext q; simp only [gset]; (repeat' split); all_goals first | rfl | omega | (subst_vars; rfl) | (exfalso; omega))) hfr (lv_sub hl [2, 1, 0] rfl)
    ·
      have oc0 : (0 : Int32).toInt = 0 := by decide
      have cc308 : r16.toInt ≠ (0 : Int32).toInt := i32_ne c305
      have hb309 : In r16 1 1 := In.ne1 eL20R (⟨by decide, by decide⟩ : In 0 0 0) cc308 (by omega) (by omega)
      refine lv_aload_n hx hb dX11_planLine_44 rfl (lv_at hl 2 rfl) ?_
      refine lv_iconst (v := 0) hx hb dX11_planLine_45 (by decide) ?_
      refine lv_iconst (v := 5) hx hb dX11_planLine_46 (by decide) ?_
      obtain ⟨v0_310, v2_310, v3_310, v4_310, v5_310, v6_310, v8_310, v9_310, v12_310, v13_310, v14_310, v15_310, v16_310, v17_310, v18_310, v19_310, v20_310, v21_310, v22_310, v23_310, v25_310, v36_310, v37_310, v38_310, v39_310, v40_310, v45_310, v46_310, v47_310, v48_310, v50_310, v51_310, v53_310, v55_310, hf311, hv0_310, hv2_310, hg2_310, hv3_310, hg3_310, hv4_310, hg4_310, hv5_310, hg5_310, hv6_310, hg6_310, hv8_310, hv9_310, hg9_310, hv12_310, hv13_310, hg13_310, hv14_310, hg14_310, hv15_310, hg15_310, hv17_310, hg17_310, hv20_310, hg20_310, hv23_310, hg23_310, hv25_310, hv36_310, hg36_310, hv47_310, hg47_310, hv48_310, hg48_310, hv53_310, hg53_310, hv55_310, hg55_310, hrel0_310⟩ := hT.2.2 0 (by decide)
      have hg2_310 : v2_310.toInt = th 13 := hg2_310
      have hg3_310 : v3_310.toInt = zz21 := hg3_310
      have hg4_310 : v4_310.toInt = th 42 := hg4_310
      have hg5_310 : v5_310.toInt = th 40 := hg5_310
      have hg6_310 : v6_310.toInt = th 41 := hg6_310
      have hg9_310 : v9_310.toInt = th 35 := hg9_310
      have hg13_310 : v13_310.toInt = th 36 := hg13_310
      have hg14_310 : v14_310.toInt = th 10 := hg14_310
      have hg15_310 : v15_310.toInt = th 11 := hg15_310
      have hg17_310 : v17_310.toInt = th 12 := hg17_310
      have hg20_310 : v20_310.toInt = th 14 := hg20_310
      have hg23_310 : v23_310.toInt = th 15 := hg23_310
      have hg36_310 : v36_310.toInt = th 18 := hg36_310
      have hg47_310 : v47_310.toInt = th 16 := hg47_310
      have hg48_310 : v48_310.toInt = th 17 := hg48_310
      have hg53_310 : v53_310.toInt = th 38 := hg53_310
      have hg55_310 : v55_310.toInt = th 39 := hg55_310
      refine call_i (run_V (rm := rm_X11_digit_0_5) hx hb hml hown hts (s_X11_digit_0_5 l g ad (gset th 37 zz21) _ _ _  hst hT ) cV_X11_digit wg_1566 ⟨Nat.le_of_ble_eq_true rfl, Nat.le_of_ble_eq_true rfl⟩ hG hE hA hP hD hS (hst.1 255 (by decide)) hf311 rfl rfl hl.1 (As := [.int 0, .int 5]) (rest := [.int x14, .ref (ad 259)]) rfl (Nat.le_of_ble_eq_true rfl) dX11_planLine_47 ⟨Nat.le_of_ble_eq_true rfl, Nat.le_of_ble_eq_true rfl⟩) hA hD hS (fun r312 L313 f314 H locs hp315 hP hD hS => ?_)
      obtain ⟨eL316L, eL316T, eL316F, eL316R⟩ := hp315
      have eL316L : L313 = L := eL316L
      rw [eL316L] at hP hD
      obtain ⟨zz317, zz318, zz319, zz320, hzz317, eL316T⟩ := eL316T
      have hT : TI g ad (gset (gset (gset (gset (gset th 37 zz21) 37 zz317) 40 zz318) 41 zz319) 42 zz320) f314 := eL316T
      have hT : TI g ad (gset (gset (gset (gset th 37 zz317) 40 zz318) 41 zz319) 42 zz320) f314 := TI.cast hT (by funext q; simp only [gset]; (repeat' split); all_goals first | rfl | omega | (subst_vars; rfl) | (exfalso; omega))
      have eL316F : ∀ b, b ≠ (ad 255) → f314 b = f18 b := eL316F
      have hfr : (∀ b, b ≠ (ad 255) → b ≠ (ad 259) → f314 b = f b) := fun b z0_ z1_ => (eL316F b z0_).trans (hfr b z0_ z1_)
      have eL316R : In r312 0 5 := eL316R
      refine lv_goto (tgt := 54) hx hb dX11_planLine_50 (by decide) ?_
      exact hJ54 zz317 zz318 zz319 zz320 r312 _ _ _ _ (show th 37 ≤ zz317 ∧ zz317 ≤ 500 from (by omega)) (In.mono eL316R (by decide) (by decide)) hP hD hS (TI.cast hT (by funext q; simp only [gset]; (repeat' split); all_goals first | rfl | omega | (subst_vars; rfl) | (exfalso; omega))) hfr (lv_sub hl [2, 1, 0] rfl)
  ·
    have oc20 : (20 : Int32).toInt = 20 := by decide
    have cc321 : v13_9.toInt = (20 : Int32).toInt := congrArg Int32.toInt c11
    have hb322 : In v13_9 20 20 := In.eq1 hv13_9 (⟨by decide, by decide⟩ : In 20 20 20) cc321 (by omega) (by omega)
    refine lv_aload_n hx hb dX11_planLine_14 rfl (lv_at hl 1 rfl) ?_
    refine lv_aload_n hx hb dX11_planLine_15 rfl (lv_at hl 1 rfl) ?_
    refine pl_get (v := .int v3_9) hx hb hts (fun w h => mT (inX11 w h)) hown hG.1 hP (hst.1 255 (by decide)) hf10 rfl 3 (by decide) (hts _ (mT wg_1339)) (fun _ h => h) rfl dX11_planLine_16 ?_
    refine call_v (run_V (rm := rm_X11_fails) hx hb hml hown hts (s_X11_fails l g ad (gset th 37 zz8) _ _ _ v3_9 hst hT hv3_9) cV_X11_fails wg_1545 ⟨Nat.le_of_ble_eq_true rfl, Nat.le_of_ble_eq_true rfl⟩ hG hE hA hP hD hS (hst.1 255 (by decide)) hf10 rfl rfl hl.1 (As := [.int v3_9]) (rest := []) rfl (Nat.le_of_ble_eq_true rfl) dX11_planLine_19 ⟨Nat.le_of_ble_eq_true rfl, Nat.le_of_ble_eq_true rfl⟩) hA hD hS (fun L324 f325 H locs hp326 hP hD hS => ?_)
    obtain ⟨eL327L, eL327T, eL327F⟩ := hp326
    have eL327L : L324 = L := eL327L
    rw [eL327L] at hP hD
    obtain ⟨zz328, hzz328, eL327T⟩ := eL327T
    have hT : TI g ad (gset (gset th 37 zz8) 42 zz328) f325 := eL327T
    have eL327F : ∀ b, b ≠ (ad 255) → f325 b = f5 b := eL327F
    have hfr : (∀ b, b ≠ (ad 255) → b ≠ (ad 259) → f325 b = f b) := fun b z0_ z1_ => (eL327F b z0_).trans (hfr b z0_ z1_)
    exact ret_v hx hb hr hlocks hP hD hS (Nat.le_of_ble_eq_true rfl) (Nat.le_of_ble_eq_true rfl) (⟨rfl, ⟨zz8, (th 40), (th 41), zz328, (th 36), (show th 37 ≤ zz8 ∧ zz8 ≤ 500 from (by omega)), TI.cast hT (by funext q; simp only [gset]; (repeat' split); all_goals first | rfl | omega | (subst_vars; rfl) | (exfalso; omega))⟩, hfr⟩) dX11_planLine_22

abbrev rm_X11_readsPlan : Room := { frames := 6, cells := 0, slots := 0, locals := 130 }
abbrev po_X11_readsPlan (g : GG) (ad : Nat → Nat) (th : Nat → Int) (L : List Nat) (f : HP)  : Int32 → (List Nat × HP) → Prop := fun r u => u.1 = L ∧ (∃ za zr zl ze zn : Int, (True) ∧ TI g ad (gset (gset (gset (gset (gset th 37 za) 40 zr) 41 zl) 42 ze) 36 zn) u.2) ∧ (∀ b, b ≠ (ad 255) → b ≠ (ad 259) → u.2 b = f b) ∧ In r (-1) 500
set_option maxHeartbeats 4000000 in
set_option maxRecDepth 100000 in
theorem s_X11_readsPlan (l : Launch) (g : GG) (ad : Nat → Nat) (th : Nat → Int) (L : List Nat) (f : HP) (sz : Nat)  (hst : ST ad L) (hT : TI g ad th f)  : MtI l g yX11_readsPlan cX11_readsPlan 1 (some .int) rm_X11_readsPlan [.ref (ad 255)] L f sz (po_X11_readsPlan g ad th L f ) := by
  refine MtI.of (by decide +kernel) (Nat.le_of_ble_eq_true rfl) ?_
  intro p e s m below meth c A hEn hP hD hS ls hl
  obtain ⟨hx, hb, hr, hml, hown, hlocks, hts, hG, hA, hE, hnm⟩ := hEn
  have hown : s.vm.findClass "RulerWordModel" = some m.cls := hown
  have hl : lv_has ls 1 [(0, .ref (ad 255))] := hl
  have hfr : (∀ b, b ≠ (ad 255) → b ≠ (ad 259) → f b = f b) := fun b z0_ z1_ => rfl
  refine lv_aload_n hx hb dX11_readsPlan_0 rfl (lv_at hl 0 rfl) ?_
  refine lv_iconst (v := 0) hx hb dX11_readsPlan_1 (by decide) ?_
  obtain ⟨v0_1, v2_1, v3_1, v4_1, v5_1, v6_1, v8_1, v9_1, v12_1, v13_1, v14_1, v15_1, v16_1, v17_1, v18_1, v19_1, v20_1, v21_1, v22_1, v23_1, v25_1, v36_1, v37_1, v38_1, v39_1, v40_1, v45_1, v46_1, v47_1, v48_1, v50_1, v51_1, v53_1, v55_1, hf2, hv0_1, hv2_1, hg2_1, hv3_1, hg3_1, hv4_1, hg4_1, hv5_1, hg5_1, hv6_1, hg6_1, hv8_1, hv9_1, hg9_1, hv12_1, hv13_1, hg13_1, hv14_1, hg14_1, hv15_1, hg15_1, hv17_1, hg17_1, hv20_1, hg20_1, hv23_1, hg23_1, hv25_1, hv36_1, hg36_1, hv47_1, hg47_1, hv48_1, hg48_1, hv53_1, hg53_1, hv55_1, hg55_1, hrel0_1⟩ := hT.2.2 0 (by decide)
  refine pl_put (ty := .int) (v := .int 0) (fs' := [.int v0_1, .ref (ad 256), .int v2_1, .int 0, .int v4_1, .int v5_1, .int v6_1, .ref (ad 257), .int v8_1, .int v9_1, .ref (ad 258), .ref (ad 259), .int v12_1, .int v13_1, .int v14_1, .int v15_1, .int v16_1, .int v17_1, .int v18_1, .int v19_1, .int v20_1, .long v21_1, .long v22_1, .int v23_1, .ref (ad 260), .int v25_1, .ref (ad 261), .ref (ad 262), .ref (ad 263), .ref (ad 264), .ref (ad 265), .ref (ad 266), .ref (ad 267), .ref (ad 268), .ref (ad 269), .ref (ad 270), .int v36_1, .int v37_1, .int v38_1, .int v39_1, .int v40_1, .ref (ad 271), .ref (ad 272), .ref (ad 273), .ref (ad 274), .long v45_1, .long v46_1, .int v47_1, .int v48_1, .ref (ad 275), .int v50_1, .int v51_1, .ref (ad 276), .int v53_1, .ref (ad 277), .int v55_1]) hx hb hts (fun w h => mT (inX11 w h)) tyX11 tyX11_ok nmX11 hown hG.1 hP hD hS (hst.1 255 (by decide)) hf2 rfl 3 (by decide) (hts _ (mT wg_1339)) (fun _ h => h) rfl (by decide +kernel) (rfl) (rfl) (Nat.le_of_ble_eq_true rfl) rfl dX11_readsPlan_2 (fun H locs f3 hf4 ho5 hP hD hS => ?_)
  have hfr : (∀ b, b ≠ (ad 255) → b ≠ (ad 259) → f3 b = f b) := fun b z0_ z1_ => (ho5 b z0_).trans (hfr b z0_ z1_)
  refine lv_aload_n hx hb dX11_readsPlan_5 rfl (lv_at hl 0 rfl) ?_
  refine lv_iconst (v := (-1)) hx hb dX11_readsPlan_6 (by decide) ?_
  refine pl_put (ty := .int) (v := .int (-1)) (fs' := [.int v0_1, .ref (ad 256), .int v2_1, .int 0, .int (-1), .int v5_1, .int v6_1, .ref (ad 257), .int v8_1, .int v9_1, .ref (ad 258), .ref (ad 259), .int v12_1, .int v13_1, .int v14_1, .int v15_1, .int v16_1, .int v17_1, .int v18_1, .int v19_1, .int v20_1, .long v21_1, .long v22_1, .int v23_1, .ref (ad 260), .int v25_1, .ref (ad 261), .ref (ad 262), .ref (ad 263), .ref (ad 264), .ref (ad 265), .ref (ad 266), .ref (ad 267), .ref (ad 268), .ref (ad 269), .ref (ad 270), .int v36_1, .int v37_1, .int v38_1, .int v39_1, .int v40_1, .ref (ad 271), .ref (ad 272), .ref (ad 273), .ref (ad 274), .long v45_1, .long v46_1, .int v47_1, .int v48_1, .ref (ad 275), .int v50_1, .int v51_1, .ref (ad 276), .int v53_1, .ref (ad 277), .int v55_1]) hx hb hts (fun w h => mT (inX11 w h)) tyX11 tyX11_ok nmX11 hown hG.1 hP hD hS (hst.1 255 (by decide)) hf4 rfl 4 (by decide) (hts _ (mT wg_1340)) (fun _ h => h) rfl (by decide +kernel) (rfl) (rfl) (Nat.le_of_ble_eq_true rfl) rfl dX11_readsPlan_7 (fun H locs f6 hf7 ho8 hP hD hS => ?_)
  have ho9 : ∀ b, b ≠ (ad 255) → f6 b = _ := fun b hb => (ho8 b hb).trans (ho5 b hb)
  have hfr : (∀ b, b ≠ (ad 255) → b ≠ (ad 259) → f6 b = f b) := fun b z0_ z1_ => (ho8 b z0_).trans (hfr b z0_ z1_)
  refine lv_aload_n hx hb dX11_readsPlan_10 rfl (lv_at hl 0 rfl) ?_
  refine lv_iconst (v := 0) hx hb dX11_readsPlan_11 (by decide) ?_
  refine pl_put (ty := .int) (v := .int 0) (fs' := [.int v0_1, .ref (ad 256), .int v2_1, .int 0, .int (-1), .int v5_1, .int v6_1, .ref (ad 257), .int v8_1, .int v9_1, .ref (ad 258), .ref (ad 259), .int v12_1, .int 0, .int v14_1, .int v15_1, .int v16_1, .int v17_1, .int v18_1, .int v19_1, .int v20_1, .long v21_1, .long v22_1, .int v23_1, .ref (ad 260), .int v25_1, .ref (ad 261), .ref (ad 262), .ref (ad 263), .ref (ad 264), .ref (ad 265), .ref (ad 266), .ref (ad 267), .ref (ad 268), .ref (ad 269), .ref (ad 270), .int v36_1, .int v37_1, .int v38_1, .int v39_1, .int v40_1, .ref (ad 271), .ref (ad 272), .ref (ad 273), .ref (ad 274), .long v45_1, .long v46_1, .int v47_1, .int v48_1, .ref (ad 275), .int v50_1, .int v51_1, .ref (ad 276), .int v53_1, .ref (ad 277), .int v55_1]) hx hb hts (fun w h => mT (inX11 w h)) tyX11 tyX11_ok nmX11 hown hG.1 hP hD hS (hst.1 255 (by decide)) hf7 rfl 13 (by decide) (hts _ (mT wg_1349)) (fun _ h => h) rfl (by decide +kernel) (rfl) (rfl) (Nat.le_of_ble_eq_true rfl) rfl dX11_readsPlan_12 (fun H locs f10 hf11 ho12 hP hD hS => ?_)
  have ho13 : ∀ b, b ≠ (ad 255) → f10 b = _ := fun b hb => (ho12 b hb).trans (ho9 b hb)
  have hfr : (∀ b, b ≠ (ad 255) → b ≠ (ad 259) → f10 b = f b) := fun b z0_ z1_ => (ho12 b z0_).trans (hfr b z0_ z1_)
  refine lv_aload_n hx hb dX11_readsPlan_15 rfl (lv_at hl 0 rfl) ?_
  have hT := TI.updMG (th' := (gset (gset (gset th 37 (0)) 42 ((-1))) 36 (0))) hT hst (k := 0) (by decide) hf11 ho13 ⟨v0_1, v2_1, 0, (-1), v5_1, v6_1, v8_1, v9_1, v12_1, 0, v14_1, v15_1, v16_1, v17_1, v18_1, v19_1, v20_1, v21_1, v22_1, v23_1, v25_1, v36_1, v37_1, v38_1, v39_1, v40_1, v45_1, v46_1, v47_1, v48_1, v50_1, v51_1, v53_1, v55_1, rfl, hv0_1, hv2_1, (by rw [hg2_1]; simp [gset]), (⟨by decide, by decide⟩ : In 0 0 500), (by simp [gset, i32z]), (⟨by decide, by decide⟩ : In (-1) (-1) 500), (by simp [gset, i32z]), hv5_1, (by rw [hg5_1]; simp [gset]), hv6_1, (by rw [hg6_1]; simp [gset]), hv8_1, hv9_1, (by rw [hg9_1]; simp [gset]), hv12_1, (⟨by decide, by decide⟩ : In 0 0 20), (by simp [gset, i32z]), hv14_1, (by rw [hg14_1]; simp [gset]), hv15_1, (by rw [hg15_1]; simp [gset]), hv17_1, (by rw [hg17_1]; simp [gset]), hv20_1, (by rw [hg20_1]; simp [gset]), hv23_1, (by rw [hg23_1]; simp [gset]), hv25_1, hv36_1, (by rw [hg36_1]; simp [gset]), hv47_1, (by rw [hg47_1]; simp [gset]), hv48_1, (by rw [hg48_1]; simp [gset]), hv53_1, (by rw [hg53_1]; simp [gset]), hv55_1, (by rw [hg55_1]; simp [gset]), hrel0_1⟩ (fun q hq => ((gset_ne (fun e => hq (by subst e; decide))).trans ((gset_ne (fun e => hq (by subst e; decide))).trans ((gset_ne (fun e => hq (by subst e; decide))).trans rfl))))
  have hT : TI g ad (gset (gset (gset th 37 0) 42 (-1)) 36 0) f10 := TI.cast hT (by funext q; simp only [gset]; (repeat' split); all_goals first | rfl | omega | (subst_vars; rfl) | (exfalso; omega))
  obtain ⟨v0_14, v2_14, v3_14, v4_14, v5_14, v6_14, v8_14, v9_14, v12_14, v13_14, v14_14, v15_14, v16_14, v17_14, v18_14, v19_14, v20_14, v21_14, v22_14, v23_14, v25_14, v36_14, v37_14, v38_14, v39_14, v40_14, v45_14, v46_14, v47_14, v48_14, v50_14, v51_14, v53_14, v55_14, hf15, hv0_14, hv2_14, hg2_14, hv3_14, hg3_14, hv4_14, hg4_14, hv5_14, hg5_14, hv6_14, hg6_14, hv8_14, hv9_14, hg9_14, hv12_14, hv13_14, hg13_14, hv14_14, hg14_14, hv15_14, hg15_14, hv17_14, hg17_14, hv20_14, hg20_14, hv23_14, hg23_14, hv25_14, hv36_14, hg36_14, hv47_14, hg47_14, hv48_14, hg48_14, hv53_14, hg53_14, hv55_14, hg55_14, hrel0_14⟩ := hT.2.2 0 (by decide)
  have hg2_14 : v2_14.toInt = th 13 := hg2_14
  have hg3_14 : v3_14.toInt = 0 := hg3_14
  have hg4_14 : v4_14.toInt = -1 := hg4_14
  have hg5_14 : v5_14.toInt = th 40 := hg5_14
  have hg6_14 : v6_14.toInt = th 41 := hg6_14
  have hg9_14 : v9_14.toInt = th 35 := hg9_14
  have hg13_14 : v13_14.toInt = 0 := hg13_14
  have hg14_14 : v14_14.toInt = th 10 := hg14_14
  have hg15_14 : v15_14.toInt = th 11 := hg15_14
  have hg17_14 : v17_14.toInt = th 12 := hg17_14
  have hg20_14 : v20_14.toInt = th 14 := hg20_14
  have hg23_14 : v23_14.toInt = th 15 := hg23_14
  have hg36_14 : v36_14.toInt = th 18 := hg36_14
  have hg47_14 : v47_14.toInt = th 16 := hg47_14
  have hg48_14 : v48_14.toInt = th 17 := hg48_14
  have hg53_14 : v53_14.toInt = th 38 := hg53_14
  have hg55_14 : v55_14.toInt = th 39 := hg55_14
  refine call_v (run_V (rm := rm_X11_planLine) hx hb hml hown hts (s_X11_planLine l g ad (gset (gset (gset th 37 0) 42 (-1)) 36 0) _ _ _  hst hT ) cV_X11_planLine wg_1596 ⟨Nat.le_of_ble_eq_true rfl, Nat.le_of_ble_eq_true rfl⟩ hG hE hA hP hD hS (hst.1 255 (by decide)) hf15 rfl rfl hl.1 (As := []) (rest := []) rfl (Nat.le_of_ble_eq_true rfl) dX11_readsPlan_16 ⟨Nat.le_of_ble_eq_true rfl, Nat.le_of_ble_eq_true rfl⟩) hA hD hS (fun L17 f18 H locs hp19 hP hD hS => ?_)
  obtain ⟨eL20L, eL20T, eL20F⟩ := hp19
  have eL20L : L17 = L := eL20L
  rw [eL20L] at hP hD
  obtain ⟨zz21, zz22, zz23, zz24, zz25, hzz21, eL20T⟩ := eL20T
  have hT : TI g ad (gset (gset (gset (gset (gset (gset (gset (gset th 37 0) 42 (-1)) 36 0) 37 zz21) 40 zz22) 41 zz23) 42 zz24) 36 zz25) f18 := eL20T
  have hT : TI g ad (gset (gset (gset (gset (gset th 37 zz21) 40 zz22) 41 zz23) 42 zz24) 36 zz25) f18 := TI.cast hT (by funext q; simp only [gset]; (repeat' split); all_goals first | rfl | omega | (subst_vars; rfl) | (exfalso; omega))
  have eL20F : ∀ b, b ≠ (ad 255) → b ≠ (ad 259) → f18 b = f10 b := eL20F
  have hfr : (∀ b, b ≠ (ad 255) → b ≠ (ad 259) → f18 b = f b) := fun b z0_ z1_ => (eL20F b z0_ z1_).trans (hfr b z0_ z1_)
  have hJ19 : ∀ (k19 : Nat) (zg19_za : Int) (zg19_zr : Int) (zg19_zl : Int) (zg19_ze : Int) (zg19_zn : Int) (f_19 : HP) (H : Heap) (locs : List Loc) (ls : Array Slot), (0 ≤ zg19_za ∧ zg19_za ≤ 500) → va_P g.1 vwCl (va_pl L f_19) H → va_D A (va_pl L f_19) → va_S A s.heap H locs → TI g ad (gset (gset (gset (gset (gset th 37 zg19_za) 40 zg19_zr) 41 zg19_zl) 42 zg19_ze) 36 zg19_zn) f_19 → (∀ b, b ≠ (ad 255) → b ≠ (ad 259) → f_19 b = f b) → lv_has ls 1 [(0, .ref (ad 255))] → 500 - zg19_za < ((k19 : Nat) : Int) → W p l e rm_X11_readsPlan s m [.ref (ad 255)].toArray below meth c H locs 0 0 (MQ below (va_Qi (po_X11_readsPlan g ad th L f ) (PstB g A) A) [.ref (ad 255)].toArray s rm_X11_readsPlan.cells rm_X11_readsPlan.slots A) (F0 m 19 ls []) := by
    intro k19
    induction k19 with
    | zero =>
      intro zg19_za zg19_zr zg19_zl zg19_ze zg19_zn f_19 H locs ls hzg19 hP hD hS hT hfr hl hmz19
      exact absurd hmz19 (by omega)
    | succ k19 ih19 =>
      intro zg19_za zg19_zr zg19_zl zg19_ze zg19_zn f_19 H locs ls hzg19 hP hD hS hT hfr hl hmz19
      refine lv_aload_n hx hb dX11_readsPlan_19 rfl (lv_at hl 0 rfl) ?_
      obtain ⟨v0_26, v2_26, v3_26, v4_26, v5_26, v6_26, v8_26, v9_26, v12_26, v13_26, v14_26, v15_26, v16_26, v17_26, v18_26, v19_26, v20_26, v21_26, v22_26, v23_26, v25_26, v36_26, v37_26, v38_26, v39_26, v40_26, v45_26, v46_26, v47_26, v48_26, v50_26, v51_26, v53_26, v55_26, hf27, hv0_26, hv2_26, hg2_26, hv3_26, hg3_26, hv4_26, hg4_26, hv5_26, hg5_26, hv6_26, hg6_26, hv8_26, hv9_26, hg9_26, hv12_26, hv13_26, hg13_26, hv14_26, hg14_26, hv15_26, hg15_26, hv17_26, hg17_26, hv20_26, hg20_26, hv23_26, hg23_26, hv25_26, hv36_26, hg36_26, hv47_26, hg47_26, hv48_26, hg48_26, hv53_26, hg53_26, hv55_26, hg55_26, hrel0_26⟩ := hT.2.2 0 (by decide)
      have hg2_26 : v2_26.toInt = th 13 := hg2_26
      have hg3_26 : v3_26.toInt = zg19_za := hg3_26
      have hg4_26 : v4_26.toInt = zg19_ze := hg4_26
      have hg5_26 : v5_26.toInt = zg19_zr := hg5_26
      have hg6_26 : v6_26.toInt = zg19_zl := hg6_26
      have hg9_26 : v9_26.toInt = th 35 := hg9_26
      have hg13_26 : v13_26.toInt = zg19_zn := hg13_26
      have hg14_26 : v14_26.toInt = th 10 := hg14_26
      have hg15_26 : v15_26.toInt = th 11 := hg15_26
      have hg17_26 : v17_26.toInt = th 12 := hg17_26
      have hg20_26 : v20_26.toInt = th 14 := hg20_26
      have hg23_26 : v23_26.toInt = th 15 := hg23_26
      have hg36_26 : v36_26.toInt = th 18 := hg36_26
      have hg47_26 : v47_26.toInt = th 16 := hg47_26
      have hg48_26 : v48_26.toInt = th 17 := hg48_26
      have hg53_26 : v53_26.toInt = th 38 := hg53_26
      have hg55_26 : v55_26.toInt = th 39 := hg55_26
      refine pl_get (v := .int v4_26) hx hb hts (fun w h => mT (inX11 w h)) hown hG.1 hP (hst.1 255 (by decide)) hf27 rfl 4 (by decide) (hts _ (mT wg_1340)) (fun _ h => h) rfl dX11_readsPlan_20 ?_
      refine lv_iconst (v := (-1)) hx hb dX11_readsPlan_23 (by decide) ?_
      have hJ53 : ∀ (zg53_za : Int) (zg53_zr : Int) (zg53_zl : Int) (zg53_ze : Int) (zg53_zn : Int) (f_53 : HP) (H : Heap) (locs : List Loc) (ls : Array Slot), (0 ≤ zg53_za ∧ zg53_za ≤ 500) → va_P g.1 vwCl (va_pl L f_53) H → va_D A (va_pl L f_53) → va_S A s.heap H locs → TI g ad (gset (gset (gset (gset (gset th 37 zg53_za) 40 zg53_zr) 41 zg53_zl) 42 zg53_ze) 36 zg53_zn) f_53 → (∀ b, b ≠ (ad 255) → b ≠ (ad 259) → f_53 b = f b) → lv_has ls 1 [(0, .ref (ad 255))] → W p l e rm_X11_readsPlan s m [.ref (ad 255)].toArray below meth c H locs 0 0 (MQ below (va_Qi (po_X11_readsPlan g ad th L f ) (PstB g A) A) [.ref (ad 255)].toArray s rm_X11_readsPlan.cells rm_X11_readsPlan.slots A) (F0 m 53 ls []) := by
        intro zg53_za zg53_zr zg53_zl zg53_ze zg53_zn f_53 H locs ls hzg53 hP hD hS hT hfr hl
        refine lv_aload_n hx hb dX11_readsPlan_53 rfl (lv_at hl 0 rfl) ?_
        obtain ⟨v0_28, v2_28, v3_28, v4_28, v5_28, v6_28, v8_28, v9_28, v12_28, v13_28, v14_28, v15_28, v16_28, v17_28, v18_28, v19_28, v20_28, v21_28, v22_28, v23_28, v25_28, v36_28, v37_28, v38_28, v39_28, v40_28, v45_28, v46_28, v47_28, v48_28, v50_28, v51_28, v53_28, v55_28, hf29, hv0_28, hv2_28, hg2_28, hv3_28, hg3_28, hv4_28, hg4_28, hv5_28, hg5_28, hv6_28, hg6_28, hv8_28, hv9_28, hg9_28, hv12_28, hv13_28, hg13_28, hv14_28, hg14_28, hv15_28, hg15_28, hv17_28, hg17_28, hv20_28, hg20_28, hv23_28, hg23_28, hv25_28, hv36_28, hg36_28, hv47_28, hg47_28, hv48_28, hg48_28, hv53_28, hg53_28, hv55_28, hg55_28, hrel0_28⟩ := hT.2.2 0 (by decide)
        have hg2_28 : v2_28.toInt = th 13 := hg2_28
        have hg3_28 : v3_28.toInt = zg53_za := hg3_28
        have hg4_28 : v4_28.toInt = zg53_ze := hg4_28
        have hg5_28 : v5_28.toInt = zg53_zr := hg5_28
        have hg6_28 : v6_28.toInt = zg53_zl := hg6_28
        have hg9_28 : v9_28.toInt = th 35 := hg9_28
        have hg13_28 : v13_28.toInt = zg53_zn := hg13_28
        have hg14_28 : v14_28.toInt = th 10 := hg14_28
        have hg15_28 : v15_28.toInt = th 11 := hg15_28
        have hg17_28 : v17_28.toInt = th 12 := hg17_28
        have hg20_28 : v20_28.toInt = th 14 := hg20_28
        have hg23_28 : v23_28.toInt = th 15 := hg23_28
        have hg36_28 : v36_28.toInt = th 18 := hg36_28
        have hg47_28 : v47_28.toInt = th 16 := hg47_28
        have hg48_28 : v48_28.toInt = th 17 := hg48_28
        have hg53_28 : v53_28.toInt = th 38 := hg53_28
        have hg55_28 : v55_28.toInt = th 39 := hg55_28
        refine pl_get (v := .int v4_28) hx hb hts (fun w h => mT (inX11 w h)) hown hG.1 hP (hst.1 255 (by decide)) hf29 rfl 4 (by decide) (hts _ (mT wg_1340)) (fun _ h => h) rfl dX11_readsPlan_54 ?_
        refine lv_iconst (v := (-1)) hx hb dX11_readsPlan_57 (by decide) ?_
        have hJ77 : ∀ (zg77_za : Int) (zg77_zr : Int) (zg77_zl : Int) (zg77_ze : Int) (zg77_zn : Int) (f_77 : HP) (H : Heap) (locs : List Loc) (ls : Array Slot), (0 ≤ zg77_za ∧ zg77_za ≤ 500) → va_P g.1 vwCl (va_pl L f_77) H → va_D A (va_pl L f_77) → va_S A s.heap H locs → TI g ad (gset (gset (gset (gset (gset th 37 zg77_za) 40 zg77_zr) 41 zg77_zl) 42 zg77_ze) 36 zg77_zn) f_77 → (∀ b, b ≠ (ad 255) → b ≠ (ad 259) → f_77 b = f b) → lv_has ls 1 [(0, .ref (ad 255))] → W p l e rm_X11_readsPlan s m [.ref (ad 255)].toArray below meth c H locs 0 0 (MQ below (va_Qi (po_X11_readsPlan g ad th L f ) (PstB g A) A) [.ref (ad 255)].toArray s rm_X11_readsPlan.cells rm_X11_readsPlan.slots A) (F0 m 77 ls []) := by
          intro zg77_za zg77_zr zg77_zl zg77_ze zg77_zn f_77 H locs ls hzg77 hP hD hS hT hfr hl
          refine lv_aload_n hx hb dX11_readsPlan_77 rfl (lv_at hl 0 rfl) ?_
          obtain ⟨v0_30, v2_30, v3_30, v4_30, v5_30, v6_30, v8_30, v9_30, v12_30, v13_30, v14_30, v15_30, v16_30, v17_30, v18_30, v19_30, v20_30, v21_30, v22_30, v23_30, v25_30, v36_30, v37_30, v38_30, v39_30, v40_30, v45_30, v46_30, v47_30, v48_30, v50_30, v51_30, v53_30, v55_30, hf31, hv0_30, hv2_30, hg2_30, hv3_30, hg3_30, hv4_30, hg4_30, hv5_30, hg5_30, hv6_30, hg6_30, hv8_30, hv9_30, hg9_30, hv12_30, hv13_30, hg13_30, hv14_30, hg14_30, hv15_30, hg15_30, hv17_30, hg17_30, hv20_30, hg20_30, hv23_30, hg23_30, hv25_30, hv36_30, hg36_30, hv47_30, hg47_30, hv48_30, hg48_30, hv53_30, hg53_30, hv55_30, hg55_30, hrel0_30⟩ := hT.2.2 0 (by decide)
          have hg2_30 : v2_30.toInt = th 13 := hg2_30
          have hg3_30 : v3_30.toInt = zg77_za := hg3_30
          have hg4_30 : v4_30.toInt = zg77_ze := hg4_30
          have hg5_30 : v5_30.toInt = zg77_zr := hg5_30
          have hg6_30 : v6_30.toInt = zg77_zl := hg6_30
          have hg9_30 : v9_30.toInt = th 35 := hg9_30
          have hg13_30 : v13_30.toInt = zg77_zn := hg13_30
          have hg14_30 : v14_30.toInt = th 10 := hg14_30
          have hg15_30 : v15_30.toInt = th 11 := hg15_30
          have hg17_30 : v17_30.toInt = th 12 := hg17_30
          have hg20_30 : v20_30.toInt = th 14 := hg20_30
          have hg23_30 : v23_30.toInt = th 15 := hg23_30
          have hg36_30 : v36_30.toInt = th 18 := hg36_30
          have hg47_30 : v47_30.toInt = th 16 := hg47_30
          have hg48_30 : v48_30.toInt = th 17 := hg48_30
          have hg53_30 : v53_30.toInt = th 38 := hg53_30
          have hg55_30 : v55_30.toInt = th 39 := hg55_30
          refine pl_get (v := .int v4_30) hx hb hts (fun w h => mT (inX11 w h)) hown hG.1 hP (hst.1 255 (by decide)) hf31 rfl 4 (by decide) (hts _ (mT wg_1340)) (fun _ h => h) rfl dX11_readsPlan_78 ?_
          exact ret_i (ty := .int) hx hb hr hlocks (rfl) hP hD hS (Nat.le_of_ble_eq_true rfl) (Nat.le_of_ble_eq_true rfl) (⟨rfl, ⟨zg77_za, zg77_zr, zg77_zl, zg77_ze, zg77_zn, trivial, TI.cast hT (by funext q; simp only [gset]; (repeat' split); all_goals first | rfl | omega | (subst_vars; rfl) | (exfalso; omega))⟩, hfr, hv4_30⟩) dX11_readsPlan_81
        refine lv_icmp_ne (tgt := 77) hx hb dX11_readsPlan_58 (by decide) (fun c32 => ?_) (fun c32 => ?_)
        ·
          have ocm1 : ((-1) : Int32).toInt = (-1) := by decide
          have cc33 : v4_28.toInt ≠ ((-1) : Int32).toInt := i32_ne c32
          have hb34 : In v4_28 0 500 := In.ne1 hv4_28 (⟨by decide, by decide⟩ : In (-1) (-1) (-1)) cc33 (by omega) (by omega)
          exact hJ77 zg53_za zg53_zr zg53_zl zg53_ze zg53_zn _ _ _ _ (show (0 ≤ zg53_za ∧ zg53_za ≤ 500) from (by obtain ⟨o0a, o0b⟩ := (hv2_28 : In _ _ _); obtain ⟨o1a, o1b⟩ := (hv3_28 : In _ _ _); obtain ⟨o2a, o2b⟩ := (hb34 : In _ _ _); obtain ⟨o3a, o3b⟩ := (hv5_28 : In _ _ _); obtain ⟨o4a, o4b⟩ := (hv6_28 : In _ _ _); obtain ⟨o5a, o5b⟩ := (hv9_28 : In _ _ _); obtain ⟨o6a, o6b⟩ := (hv13_28 : In _ _ _); obtain ⟨o7a, o7b⟩ := (hv14_28 : In _ _ _); obtain ⟨o8a, o8b⟩ := (hv15_28 : In _ _ _); obtain ⟨o9a, o9b⟩ := (hv17_28 : In _ _ _); obtain ⟨o10a, o10b⟩ := (hv20_28 : In _ _ _); obtain ⟨o11a, o11b⟩ := (hv23_28 : In _ _ _); obtain ⟨o12a, o12b⟩ := (hv36_28 : In _ _ _); obtain ⟨o13a, o13b⟩ := (hv47_28 : In _ _ _); obtain ⟨o14a, o14b⟩ := (hv48_28 : In _ _ _); obtain ⟨o15a, o15b⟩ := (hv53_28 : In _ _ _); obtain ⟨o16a, o16b⟩ := (hv55_28 : In _ _ _); omega)) hP hD hS (TI.cast hT (by funext q; simp only [gset]; (repeat' split); all_goals first | rfl | omega | (subst_vars; rfl) | (exfalso; omega))) hfr (lv_sub hl [0] rfl)
        ·
          have ocm1 : ((-1) : Int32).toInt = (-1) := by decide
          have cc35 : v4_28.toInt = ((-1) : Int32).toInt := congrArg Int32.toInt c32
          have hb36 : In v4_28 (-1) (-1) := In.eq1 hv4_28 (⟨by decide, by decide⟩ : In (-1) (-1) (-1)) cc35 (by omega) (by omega)
          refine lv_aload_n hx hb dX11_readsPlan_61 rfl (lv_at hl 0 rfl) ?_
          refine call_i (run_V (rm := rm_X11_look) hx hb hml hown hts (s_X11_look l g ad (gset (gset (gset (gset (gset th 37 zg53_za) 40 zg53_zr) 41 zg53_zl) 42 zg53_ze) 36 zg53_zn) _ _ _  hst hT ) cV_X11_look wg_1529 ⟨Nat.le_of_ble_eq_true rfl, Nat.le_of_ble_eq_true rfl⟩ hG hE hA hP hD hS (hst.1 255 (by decide)) hf29 rfl rfl hl.1 (As := []) (rest := []) rfl (Nat.le_of_ble_eq_true rfl) dX11_readsPlan_62 ⟨Nat.le_of_ble_eq_true rfl, Nat.le_of_ble_eq_true rfl⟩) hA hD hS (fun r37 L38 f39 H locs hp40 hP hD hS => ?_)
          obtain ⟨eL41L, eL41T, eL41F, eL41R⟩ := hp40
          have eL41L : L38 = L := eL41L
          rw [eL41L] at hP hD
          obtain ⟨zz42, hzz42, eL41T⟩ := eL41T
          have hT : TI g ad (gset (gset (gset (gset (gset (gset th 37 zg53_za) 40 zg53_zr) 41 zg53_zl) 42 zg53_ze) 36 zg53_zn) 37 zz42) f39 := eL41T
          have hT : TI g ad (gset (gset (gset (gset (gset th 40 zg53_zr) 41 zg53_zl) 42 zg53_ze) 36 zg53_zn) 37 zz42) f39 := TI.cast hT (by funext q; simp only [gset]; (repeat' split); all_goals first | rfl | omega | (subst_vars; rfl) | (exfalso; omega))
          have eL41F : ∀ b, b ≠ (ad 255) → f39 b = f_53 b := eL41F
          have hfr : (∀ b, b ≠ (ad 255) → b ≠ (ad 259) → f39 b = f b) := fun b z0_ z1_ => (eL41F b z0_).trans (hfr b z0_ z1_)
          have eL41R : In r37 (-1) 255 := eL41R
          refine lv_iconst (v := (-1)) hx hb dX11_readsPlan_65 (by decide) ?_
          refine lv_icmp_eq (tgt := 77) hx hb dX11_readsPlan_66 (by decide) (fun c43 => ?_) (fun c43 => ?_)
          ·
            have ocm1 : ((-1) : Int32).toInt = (-1) := by decide
            have cc44 : r37.toInt = ((-1) : Int32).toInt := congrArg Int32.toInt c43
            have hb45 : In r37 (-1) (-1) := In.eq1 eL41R (⟨by decide, by decide⟩ : In (-1) (-1) (-1)) cc44 (by omega) (by omega)
            exact hJ77 zz42 zg53_zr zg53_zl zg53_ze zg53_zn _ _ _ _ (show (0 ≤ zz42 ∧ zz42 ≤ 500) from (by omega)) hP hD hS (TI.cast hT (by funext q; simp only [gset]; (repeat' split); all_goals first | rfl | omega | (subst_vars; rfl) | (exfalso; omega))) hfr (lv_sub hl [0] rfl)
          ·
            have ocm1 : ((-1) : Int32).toInt = (-1) := by decide
            have cc46 : r37.toInt ≠ ((-1) : Int32).toInt := i32_ne c43
            have hb47 : In r37 0 255 := In.ne1 eL41R (⟨by decide, by decide⟩ : In (-1) (-1) (-1)) cc46 (by omega) (by omega)
            refine lv_aload_n hx hb dX11_readsPlan_69 rfl (lv_at hl 0 rfl) ?_
            refine lv_aload_n hx hb dX11_readsPlan_70 rfl (lv_at hl 0 rfl) ?_
            obtain ⟨v0_48, v2_48, v3_48, v4_48, v5_48, v6_48, v8_48, v9_48, v12_48, v13_48, v14_48, v15_48, v16_48, v17_48, v18_48, v19_48, v20_48, v21_48, v22_48, v23_48, v25_48, v36_48, v37_48, v38_48, v39_48, v40_48, v45_48, v46_48, v47_48, v48_48, v50_48, v51_48, v53_48, v55_48, hf49, hv0_48, hv2_48, hg2_48, hv3_48, hg3_48, hv4_48, hg4_48, hv5_48, hg5_48, hv6_48, hg6_48, hv8_48, hv9_48, hg9_48, hv12_48, hv13_48, hg13_48, hv14_48, hg14_48, hv15_48, hg15_48, hv17_48, hg17_48, hv20_48, hg20_48, hv23_48, hg23_48, hv25_48, hv36_48, hg36_48, hv47_48, hg47_48, hv48_48, hg48_48, hv53_48, hg53_48, hv55_48, hg55_48, hrel0_48⟩ := hT.2.2 0 (by decide)
            have hg2_48 : v2_48.toInt = th 13 := hg2_48
            have hg3_48 : v3_48.toInt = zz42 := hg3_48
            have hg4_48 : v4_48.toInt = zg53_ze := hg4_48
            have hg5_48 : v5_48.toInt = zg53_zr := hg5_48
            have hg6_48 : v6_48.toInt = zg53_zl := hg6_48
            have hg9_48 : v9_48.toInt = th 35 := hg9_48
            have hg13_48 : v13_48.toInt = zg53_zn := hg13_48
            have hg14_48 : v14_48.toInt = th 10 := hg14_48
            have hg15_48 : v15_48.toInt = th 11 := hg15_48
            have hg17_48 : v17_48.toInt = th 12 := hg17_48
            have hg20_48 : v20_48.toInt = th 14 := hg20_48
            have hg23_48 : v23_48.toInt = th 15 := hg23_48
            have hg36_48 : v36_48.toInt = th 18 := hg36_48
            have hg47_48 : v47_48.toInt = th 16 := hg47_48
            have hg48_48 : v48_48.toInt = th 17 := hg48_48
            have hg53_48 : v53_48.toInt = th 38 := hg53_48
            have hg55_48 : v55_48.toInt = th 39 := hg55_48
            refine pl_get (v := .int v3_48) hx hb hts (fun w h => mT (inX11 w h)) hown hG.1 hP (hst.1 255 (by decide)) hf49 rfl 3 (by decide) (hts _ (mT wg_1339)) (fun _ h => h) rfl dX11_readsPlan_71 ?_
            refine call_v (run_V (rm := rm_X11_fails) hx hb hml hown hts (s_X11_fails l g ad (gset (gset (gset (gset (gset th 40 zg53_zr) 41 zg53_zl) 42 zg53_ze) 36 zg53_zn) 37 zz42) _ _ _ v3_48 hst hT hv3_48) cV_X11_fails wg_1545 ⟨Nat.le_of_ble_eq_true rfl, Nat.le_of_ble_eq_true rfl⟩ hG hE hA hP hD hS (hst.1 255 (by decide)) hf49 rfl rfl hl.1 (As := [.int v3_48]) (rest := []) rfl (Nat.le_of_ble_eq_true rfl) dX11_readsPlan_74 ⟨Nat.le_of_ble_eq_true rfl, Nat.le_of_ble_eq_true rfl⟩) hA hD hS (fun L51 f52 H locs hp53 hP hD hS => ?_)
            obtain ⟨eL54L, eL54T, eL54F⟩ := hp53
            have eL54L : L51 = L := eL54L
            rw [eL54L] at hP hD
            obtain ⟨zz55, hzz55, eL54T⟩ := eL54T
            have hT : TI g ad (gset (gset (gset (gset (gset (gset th 40 zg53_zr) 41 zg53_zl) 42 zg53_ze) 36 zg53_zn) 37 zz42) 42 zz55) f52 := eL54T
            have hT : TI g ad (gset (gset (gset (gset (gset th 40 zg53_zr) 41 zg53_zl) 36 zg53_zn) 37 zz42) 42 zz55) f52 := TI.cast hT (by funext q; simp only [gset]; (repeat' split); all_goals first | rfl | omega | (subst_vars; rfl) | (exfalso; omega))
            have eL54F : ∀ b, b ≠ (ad 255) → f52 b = f39 b := eL54F
            have hfr : (∀ b, b ≠ (ad 255) → b ≠ (ad 259) → f52 b = f b) := fun b z0_ z1_ => (eL54F b z0_).trans (hfr b z0_ z1_)
            exact hJ77 zz42 zg53_zr zg53_zl zz55 zg53_zn _ _ _ _ (show (0 ≤ zz42 ∧ zz42 ≤ 500) from (by omega)) hP hD hS (TI.cast hT (by funext q; simp only [gset]; (repeat' split); all_goals first | rfl | omega | (subst_vars; rfl) | (exfalso; omega))) hfr (lv_sub hl [0] rfl)
      refine lv_icmp_ne (tgt := 53) hx hb dX11_readsPlan_24 (by decide) (fun c56 => ?_) (fun c56 => ?_)
      ·
        have ocm1 : ((-1) : Int32).toInt = (-1) := by decide
        have cc57 : v4_26.toInt ≠ ((-1) : Int32).toInt := i32_ne c56
        have hb58 : In v4_26 0 500 := In.ne1 hv4_26 (⟨by decide, by decide⟩ : In (-1) (-1) (-1)) cc57 (by omega) (by omega)
        exact hJ53 zg19_za zg19_zr zg19_zl zg19_ze zg19_zn _ _ _ _ (show (0 ≤ zg19_za ∧ zg19_za ≤ 500) from (by obtain ⟨o0a, o0b⟩ := (hv2_26 : In _ _ _); obtain ⟨o1a, o1b⟩ := (hv3_26 : In _ _ _); obtain ⟨o2a, o2b⟩ := (hb58 : In _ _ _); obtain ⟨o3a, o3b⟩ := (hv5_26 : In _ _ _); obtain ⟨o4a, o4b⟩ := (hv6_26 : In _ _ _); obtain ⟨o5a, o5b⟩ := (hv9_26 : In _ _ _); obtain ⟨o6a, o6b⟩ := (hv13_26 : In _ _ _); obtain ⟨o7a, o7b⟩ := (hv14_26 : In _ _ _); obtain ⟨o8a, o8b⟩ := (hv15_26 : In _ _ _); obtain ⟨o9a, o9b⟩ := (hv17_26 : In _ _ _); obtain ⟨o10a, o10b⟩ := (hv20_26 : In _ _ _); obtain ⟨o11a, o11b⟩ := (hv23_26 : In _ _ _); obtain ⟨o12a, o12b⟩ := (hv36_26 : In _ _ _); obtain ⟨o13a, o13b⟩ := (hv47_26 : In _ _ _); obtain ⟨o14a, o14b⟩ := (hv48_26 : In _ _ _); obtain ⟨o15a, o15b⟩ := (hv53_26 : In _ _ _); obtain ⟨o16a, o16b⟩ := (hv55_26 : In _ _ _); omega)) hP hD hS (TI.cast hT (by funext q; simp only [gset]; (repeat' split); all_goals first | rfl | omega | (subst_vars; rfl) | (exfalso; omega))) hfr (lv_sub hl [0] rfl)
      ·
        have ocm1 : ((-1) : Int32).toInt = (-1) := by decide
        have cc59 : v4_26.toInt = ((-1) : Int32).toInt := congrArg Int32.toInt c56
        have hb60 : In v4_26 (-1) (-1) := In.eq1 hv4_26 (⟨by decide, by decide⟩ : In (-1) (-1) (-1)) cc59 (by omega) (by omega)
        refine lv_aload_n hx hb dX11_readsPlan_27 rfl (lv_at hl 0 rfl) ?_
        refine call_i (run_V (rm := rm_X11_look) hx hb hml hown hts (s_X11_look l g ad (gset (gset (gset (gset (gset th 37 zg19_za) 40 zg19_zr) 41 zg19_zl) 42 zg19_ze) 36 zg19_zn) _ _ _  hst hT ) cV_X11_look wg_1529 ⟨Nat.le_of_ble_eq_true rfl, Nat.le_of_ble_eq_true rfl⟩ hG hE hA hP hD hS (hst.1 255 (by decide)) hf27 rfl rfl hl.1 (As := []) (rest := []) rfl (Nat.le_of_ble_eq_true rfl) dX11_readsPlan_28 ⟨Nat.le_of_ble_eq_true rfl, Nat.le_of_ble_eq_true rfl⟩) hA hD hS (fun r61 L62 f63 H locs hp64 hP hD hS => ?_)
        obtain ⟨eL65L, eL65T, eL65F, eL65R⟩ := hp64
        have eL65L : L62 = L := eL65L
        rw [eL65L] at hP hD
        obtain ⟨zz66, hzz66, eL65T⟩ := eL65T
        have hT : TI g ad (gset (gset (gset (gset (gset (gset th 37 zg19_za) 40 zg19_zr) 41 zg19_zl) 42 zg19_ze) 36 zg19_zn) 37 zz66) f63 := eL65T
        have hT : TI g ad (gset (gset (gset (gset (gset th 40 zg19_zr) 41 zg19_zl) 42 zg19_ze) 36 zg19_zn) 37 zz66) f63 := TI.cast hT (by funext q; simp only [gset]; (repeat' split); all_goals first | rfl | omega | (subst_vars; rfl) | (exfalso; omega))
        have eL65F : ∀ b, b ≠ (ad 255) → f63 b = f_19 b := eL65F
        have hfr : (∀ b, b ≠ (ad 255) → b ≠ (ad 259) → f63 b = f b) := fun b z0_ z1_ => (eL65F b z0_).trans (hfr b z0_ z1_)
        have eL65R : In r61 (-1) 255 := eL65R
        refine lv_bipush (v := 59) hx hb dX11_readsPlan_31 (by decide) ?_
        refine lv_icmp_ne (tgt := 53) hx hb dX11_readsPlan_33 (by decide) (fun c67 => ?_) (fun c67 => ?_)
        ·
          have oc59 : (59 : Int32).toInt = 59 := by decide
          have cc68 : r61.toInt ≠ (59 : Int32).toInt := i32_ne c67
          exact hJ53 zz66 zg19_zr zg19_zl zg19_ze zg19_zn _ _ _ _ (show (0 ≤ zz66 ∧ zz66 ≤ 500) from (by omega)) hP hD hS (TI.cast hT (by funext q; simp only [gset]; (repeat' split); all_goals first | rfl | omega | (subst_vars; rfl) | (exfalso; omega))) hfr (lv_sub hl [0] rfl)
        ·
          have oc59 : (59 : Int32).toInt = 59 := by decide
          have cc69 : r61.toInt = (59 : Int32).toInt := congrArg Int32.toInt c67
          have hb70 : In r61 59 59 := In.eq1 eL65R (⟨by decide, by decide⟩ : In 59 59 59) cc69 (by omega) (by omega)
          refine lv_aload_n hx hb dX11_readsPlan_36 rfl (lv_at hl 0 rfl) ?_
          refine lv_dup hx hb dX11_readsPlan_37 rfl ?_
          obtain ⟨v0_71, v2_71, v3_71, v4_71, v5_71, v6_71, v8_71, v9_71, v12_71, v13_71, v14_71, v15_71, v16_71, v17_71, v18_71, v19_71, v20_71, v21_71, v22_71, v23_71, v25_71, v36_71, v37_71, v38_71, v39_71, v40_71, v45_71, v46_71, v47_71, v48_71, v50_71, v51_71, v53_71, v55_71, hf72, hv0_71, hv2_71, hg2_71, hv3_71, hg3_71, hv4_71, hg4_71, hv5_71, hg5_71, hv6_71, hg6_71, hv8_71, hv9_71, hg9_71, hv12_71, hv13_71, hg13_71, hv14_71, hg14_71, hv15_71, hg15_71, hv17_71, hg17_71, hv20_71, hg20_71, hv23_71, hg23_71, hv25_71, hv36_71, hg36_71, hv47_71, hg47_71, hv48_71, hg48_71, hv53_71, hg53_71, hv55_71, hg55_71, hrel0_71⟩ := hT.2.2 0 (by decide)
          have hg2_71 : v2_71.toInt = th 13 := hg2_71
          have hg3_71 : v3_71.toInt = zz66 := hg3_71
          have hg4_71 : v4_71.toInt = zg19_ze := hg4_71
          have hg5_71 : v5_71.toInt = zg19_zr := hg5_71
          have hg6_71 : v6_71.toInt = zg19_zl := hg6_71
          have hg9_71 : v9_71.toInt = th 35 := hg9_71
          have hg13_71 : v13_71.toInt = zg19_zn := hg13_71
          have hg14_71 : v14_71.toInt = th 10 := hg14_71
          have hg15_71 : v15_71.toInt = th 11 := hg15_71
          have hg17_71 : v17_71.toInt = th 12 := hg17_71
          have hg20_71 : v20_71.toInt = th 14 := hg20_71
          have hg23_71 : v23_71.toInt = th 15 := hg23_71
          have hg36_71 : v36_71.toInt = th 18 := hg36_71
          have hg47_71 : v47_71.toInt = th 16 := hg47_71
          have hg48_71 : v48_71.toInt = th 17 := hg48_71
          have hg53_71 : v53_71.toInt = th 38 := hg53_71
          have hg55_71 : v55_71.toInt = th 39 := hg55_71
          refine pl_get (v := .int v3_71) hx hb hts (fun w h => mT (inX11 w h)) hown hG.1 hP (hst.1 255 (by decide)) hf72 rfl 3 (by decide) (hts _ (mT wg_1339)) (fun _ h => h) rfl dX11_readsPlan_38 ?_
          refine lv_iconst (v := 1) hx hb dX11_readsPlan_41 (by decide) ?_
          refine lv_iadd hx hb dX11_readsPlan_42 ?_
          refine lv_topi (fun x73 ex73 => ?_)
          have hb74 : In x73 1 501 := ex73 ▸ In.add hv3_71 (⟨by decide, by decide⟩ : In 1 1 1) (by decide) (by decide) (by decide) (by decide)
          have et75 : x73.toInt = v3_71.toInt + 1 := In.adde ex73 hv3_71 (k := 1) (by decide) (by decide) (by decide)
          refine pl_put (ty := .int) (v := .int x73) (fs' := [.int v0_71, .ref (ad 256), .int v2_71, .int x73, .int v4_71, .int v5_71, .int v6_71, .ref (ad 257), .int v8_71, .int v9_71, .ref (ad 258), .ref (ad 259), .int v12_71, .int v13_71, .int v14_71, .int v15_71, .int v16_71, .int v17_71, .int v18_71, .int v19_71, .int v20_71, .long v21_71, .long v22_71, .int v23_71, .ref (ad 260), .int v25_71, .ref (ad 261), .ref (ad 262), .ref (ad 263), .ref (ad 264), .ref (ad 265), .ref (ad 266), .ref (ad 267), .ref (ad 268), .ref (ad 269), .ref (ad 270), .int v36_71, .int v37_71, .int v38_71, .int v39_71, .int v40_71, .ref (ad 271), .ref (ad 272), .ref (ad 273), .ref (ad 274), .long v45_71, .long v46_71, .int v47_71, .int v48_71, .ref (ad 275), .int v50_71, .int v51_71, .ref (ad 276), .int v53_71, .ref (ad 277), .int v55_71]) hx hb hts (fun w h => mT (inX11 w h)) tyX11 tyX11_ok nmX11 hown hG.1 hP hD hS (hst.1 255 (by decide)) hf72 rfl 3 (by decide) (hts _ (mT wg_1339)) (fun _ h => h) rfl (by decide +kernel) (rfl) (rfl) (Nat.le_of_ble_eq_true rfl) rfl dX11_readsPlan_43 (fun H locs f76 hf77 ho78 hP hD hS => ?_)
          have hfr : (∀ b, b ≠ (ad 255) → b ≠ (ad 259) → f76 b = f b) := fun b z0_ z1_ => (ho78 b z0_).trans (hfr b z0_ z1_)
          refine lv_aload_n hx hb dX11_readsPlan_46 rfl (lv_at hl 0 rfl) ?_
          have hT := TI.updMG (th' := (gset (gset (gset (gset (gset (gset th 40 zg19_zr) 41 zg19_zl) 42 zg19_ze) 36 zg19_zn) 37 zz66) 37 (x73.toInt))) hT hst (k := 0) (by decide) hf77 ho78 ⟨v0_71, v2_71, x73, v4_71, v5_71, v6_71, v8_71, v9_71, v12_71, v13_71, v14_71, v15_71, v16_71, v17_71, v18_71, v19_71, v20_71, v21_71, v22_71, v23_71, v25_71, v36_71, v37_71, v38_71, v39_71, v40_71, v45_71, v46_71, v47_71, v48_71, v50_71, v51_71, v53_71, v55_71, rfl, hv0_71, hv2_71, (by rw [hg2_71]; simp [gset]), (In.mk (by obtain ⟨o0a, o0b⟩ := (hb74 : In _ _ _); obtain ⟨o1a, o1b⟩ := (hv2_71 : In _ _ _); obtain ⟨o2a, o2b⟩ := (hv4_71 : In _ _ _); obtain ⟨o3a, o3b⟩ := (hv5_71 : In _ _ _); obtain ⟨o4a, o4b⟩ := (hv6_71 : In _ _ _); obtain ⟨o5a, o5b⟩ := (hv9_71 : In _ _ _); obtain ⟨o6a, o6b⟩ := (hv13_71 : In _ _ _); obtain ⟨o7a, o7b⟩ := (hv14_71 : In _ _ _); obtain ⟨o8a, o8b⟩ := (hv15_71 : In _ _ _); obtain ⟨o9a, o9b⟩ := (hv17_71 : In _ _ _); obtain ⟨o10a, o10b⟩ := (hv20_71 : In _ _ _); obtain ⟨o11a, o11b⟩ := (hv23_71 : In _ _ _); obtain ⟨o12a, o12b⟩ := (hv36_71 : In _ _ _); obtain ⟨o13a, o13b⟩ := (hv47_71 : In _ _ _); obtain ⟨o14a, o14b⟩ := (hv48_71 : In _ _ _); obtain ⟨o15a, o15b⟩ := (hv53_71 : In _ _ _); obtain ⟨o16a, o16b⟩ := (hv55_71 : In _ _ _); obtain ⟨o17a, o17b⟩ := (hv3_71 : In _ _ _); omega) (by obtain ⟨o0a, o0b⟩ := (hb74 : In _ _ _); obtain ⟨o1a, o1b⟩ := (hv2_71 : In _ _ _); obtain ⟨o2a, o2b⟩ := (hv4_71 : In _ _ _); obtain ⟨o3a, o3b⟩ := (hv5_71 : In _ _ _); obtain ⟨o4a, o4b⟩ := (hv6_71 : In _ _ _); obtain ⟨o5a, o5b⟩ := (hv9_71 : In _ _ _); obtain ⟨o6a, o6b⟩ := (hv13_71 : In _ _ _); obtain ⟨o7a, o7b⟩ := (hv14_71 : In _ _ _); obtain ⟨o8a, o8b⟩ := (hv15_71 : In _ _ _); obtain ⟨o9a, o9b⟩ := (hv17_71 : In _ _ _); obtain ⟨o10a, o10b⟩ := (hv20_71 : In _ _ _); obtain ⟨o11a, o11b⟩ := (hv23_71 : In _ _ _); obtain ⟨o12a, o12b⟩ := (hv36_71 : In _ _ _); obtain ⟨o13a, o13b⟩ := (hv47_71 : In _ _ _); obtain ⟨o14a, o14b⟩ := (hv48_71 : In _ _ _); obtain ⟨o15a, o15b⟩ := (hv53_71 : In _ _ _); obtain ⟨o16a, o16b⟩ := (hv55_71 : In _ _ _); obtain ⟨o17a, o17b⟩ := (hv3_71 : In _ _ _); omega)), (by simp [gset]), hv4_71, (by rw [hg4_71]; simp [gset]), hv5_71, (by rw [hg5_71]; simp [gset]), hv6_71, (by rw [hg6_71]; simp [gset]), hv8_71, hv9_71, (by rw [hg9_71]; simp [gset]), hv12_71, hv13_71, (by rw [hg13_71]; simp [gset]), hv14_71, (by rw [hg14_71]; simp [gset]), hv15_71, (by rw [hg15_71]; simp [gset]), hv17_71, (by rw [hg17_71]; simp [gset]), hv20_71, (by rw [hg20_71]; simp [gset]), hv23_71, (by rw [hg23_71]; simp [gset]), hv25_71, hv36_71, (by rw [hg36_71]; simp [gset]), hv47_71, (by rw [hg47_71]; simp [gset]), hv48_71, (by rw [hg48_71]; simp [gset]), hv53_71, (by rw [hg53_71]; simp [gset]), hv55_71, (by rw [hg55_71]; simp [gset]), hrel0_71⟩ (fun q hq => ((gset_ne (fun e => hq (by subst e; decide))).trans rfl))
          have hT : TI g ad (gset (gset (gset (gset (gset th 40 zg19_zr) 41 zg19_zl) 42 zg19_ze) 36 zg19_zn) 37 x73.toInt) f76 := TI.cast hT (by funext q; simp only [gset]; (repeat' split); all_goals first | rfl | omega | (subst_vars; rfl) | (exfalso; omega))
          obtain ⟨v0_79, v2_79, v3_79, v4_79, v5_79, v6_79, v8_79, v9_79, v12_79, v13_79, v14_79, v15_79, v16_79, v17_79, v18_79, v19_79, v20_79, v21_79, v22_79, v23_79, v25_79, v36_79, v37_79, v38_79, v39_79, v40_79, v45_79, v46_79, v47_79, v48_79, v50_79, v51_79, v53_79, v55_79, hf80, hv0_79, hv2_79, hg2_79, hv3_79, hg3_79, hv4_79, hg4_79, hv5_79, hg5_79, hv6_79, hg6_79, hv8_79, hv9_79, hg9_79, hv12_79, hv13_79, hg13_79, hv14_79, hg14_79, hv15_79, hg15_79, hv17_79, hg17_79, hv20_79, hg20_79, hv23_79, hg23_79, hv25_79, hv36_79, hg36_79, hv47_79, hg47_79, hv48_79, hg48_79, hv53_79, hg53_79, hv55_79, hg55_79, hrel0_79⟩ := hT.2.2 0 (by decide)
          have hg2_79 : v2_79.toInt = th 13 := hg2_79
          have hg3_79 : v3_79.toInt = x73.toInt := hg3_79
          have hg4_79 : v4_79.toInt = zg19_ze := hg4_79
          have hg5_79 : v5_79.toInt = zg19_zr := hg5_79
          have hg6_79 : v6_79.toInt = zg19_zl := hg6_79
          have hg9_79 : v9_79.toInt = th 35 := hg9_79
          have hg13_79 : v13_79.toInt = zg19_zn := hg13_79
          have hg14_79 : v14_79.toInt = th 10 := hg14_79
          have hg15_79 : v15_79.toInt = th 11 := hg15_79
          have hg17_79 : v17_79.toInt = th 12 := hg17_79
          have hg20_79 : v20_79.toInt = th 14 := hg20_79
          have hg23_79 : v23_79.toInt = th 15 := hg23_79
          have hg36_79 : v36_79.toInt = th 18 := hg36_79
          have hg47_79 : v47_79.toInt = th 16 := hg47_79
          have hg48_79 : v48_79.toInt = th 17 := hg48_79
          have hg53_79 : v53_79.toInt = th 38 := hg53_79
          have hg55_79 : v55_79.toInt = th 39 := hg55_79
          refine call_v (run_V (rm := rm_X11_planLine) hx hb hml hown hts (s_X11_planLine l g ad (gset (gset (gset (gset (gset th 40 zg19_zr) 41 zg19_zl) 42 zg19_ze) 36 zg19_zn) 37 x73.toInt) _ _ _  hst hT ) cV_X11_planLine wg_1596 ⟨Nat.le_of_ble_eq_true rfl, Nat.le_of_ble_eq_true rfl⟩ hG hE hA hP hD hS (hst.1 255 (by decide)) hf80 rfl rfl hl.1 (As := []) (rest := []) rfl (Nat.le_of_ble_eq_true rfl) dX11_readsPlan_47 ⟨Nat.le_of_ble_eq_true rfl, Nat.le_of_ble_eq_true rfl⟩) hA hD hS (fun L82 f83 H locs hp84 hP hD hS => ?_)
          obtain ⟨eL85L, eL85T, eL85F⟩ := hp84
          have eL85L : L82 = L := eL85L
          rw [eL85L] at hP hD
          obtain ⟨zz86, zz87, zz88, zz89, zz90, hzz86, eL85T⟩ := eL85T
          have hT : TI g ad (gset (gset (gset (gset (gset (gset (gset (gset (gset (gset th 40 zg19_zr) 41 zg19_zl) 42 zg19_ze) 36 zg19_zn) 37 x73.toInt) 37 zz86) 40 zz87) 41 zz88) 42 zz89) 36 zz90) f83 := eL85T
          have hT : TI g ad (gset (gset (gset (gset (gset th 37 zz86) 40 zz87) 41 zz88) 42 zz89) 36 zz90) f83 := TI.cast hT (by funext q; simp only [gset]; (repeat' split); all_goals first | rfl | omega | (subst_vars; rfl) | (exfalso; omega))
          have eL85F : ∀ b, b ≠ (ad 255) → b ≠ (ad 259) → f83 b = f76 b := eL85F
          have hfr : (∀ b, b ≠ (ad 255) → b ≠ (ad 259) → f83 b = f b) := fun b z0_ z1_ => (eL85F b z0_ z1_).trans (hfr b z0_ z1_)
          refine lv_goto (tgt := 19) hx hb dX11_readsPlan_50 (by decide) ?_
          exact ih19 zz86 zz87 zz88 zz89 zz90 _ _ _ _ (show (0 ≤ zz86 ∧ zz86 ≤ 500) from (by omega)) hP hD hS (TI.cast hT (by funext q; simp only [gset]; (repeat' split); all_goals first | rfl | omega | (subst_vars; rfl) | (exfalso; omega))) hfr (lv_sub hl [0] rfl) (show 500 - (zz86) < ((k19 : Nat) : Int) from (by omega))
  exact hJ19 ((500 - zz21).toNat + 1) zz21 zz22 zz23 zz24 zz25 _ _ _ _ (show (0 ≤ zz21 ∧ zz21 ≤ 500) from (by omega)) hP hD hS (TI.cast hT (by funext q; simp only [gset]; (repeat' split); all_goals first | rfl | omega | (subst_vars; rfl) | (exfalso; omega))) hfr (lv_sub hl [0] rfl) (msI _)
