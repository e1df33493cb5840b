abbrev rm_X11_isIn : Room := { frames := 0, cells := 0, slots := 0, locals := 0 }
abbrev po_X11_isIn (g : GG) (ad : Nat → Nat) (th : Nat → Int) (L : List Nat) (f : HP) (z0 : Int64) (z1 : Int64) (z2 : Int64) : Int32 → (List Nat × HP) → Prop := fun r u => u.1 = L ∧ u.2 = f ∧ In r 0 1
set_option maxHeartbeats 4000000 in
set_option maxRecDepth 100000 in
theorem s_X11_isIn (l : Launch) (g : GG) (ad : Nat → Nat) (th : Nat → Int) (L : List Nat) (f : HP) (sz : Nat) (z0 : Int64) (z1 : Int64) (z2 : Int64) (hst : ST ad L) (hT : TI g ad th f)  : MtI l g yX11_isIn cX11_isIn 6 (some .boolean) rm_X11_isIn [.long z0, .long z1, .long z2] L f sz (po_X11_isIn g ad th L f z0 z1 z2) := by
  refine MtI.of (by decide +kernel) (Nat.le_of_ble_eq_true rfl) ?_
  intro p e s m below meth c A hEn hP hD hS ls hl
  obtain ⟨hx, hb, hr, hml, hown, hlocks, hts, hG, hA, hE, hnm⟩ := hEn
  have hown : s.vm.findClass "RulerWordModel" = some m.cls := hown
  have hl : lv_has ls 6 [(0, .long z0), (2, .long z1), (4, .long z2)] := hl
  refine lv_lload_n hx hb dX11_isIn_0 rfl (lv_at hl 0 rfl) ?_
  refine lv_lload_n hx hb dX11_isIn_1 rfl (lv_at hl 1 rfl) ?_
  refine W.lcmp hx hb dX11_isIn_2 ?_
  refine lv_topi (fun x1 ex1 => ?_)
  have hb2 : In x1 (-1) 1 := ex1 ▸ In.lcmp _ _
  have hJ17 : ∀ (H : Heap) (locs : List Loc) (ls : Array Slot), va_P g.1 vwCl (va_pl L f) H → va_D A (va_pl L f) → va_S A s.heap H locs → lv_has ls 6 [(0, .long z0), (2, .long z1), (4, .long z2)] → W p l e rm_X11_isIn s m [.long z0, .long z1, .long z2].toArray below meth c H locs 0 0 (MQ below (va_Qi (po_X11_isIn g ad th L f z0 z1 z2) (PstB g A) A) [.long z0, .long z1, .long z2].toArray s rm_X11_isIn.cells rm_X11_isIn.slots A) (F0 m 17 ls []) := by
    intro H locs ls hP hD hS hl
    refine lv_iconst (v := 0) hx hb dX11_isIn_17 (by decide) ?_
    exact ret_i (ty := .boolean) hx hb hr hlocks (rfl) hP hD hS (Nat.le_of_ble_eq_true rfl) (Nat.le_of_ble_eq_true rfl) (⟨rfl, rfl, (⟨by decide, by decide⟩ : In 0 0 1)⟩) dX11_isIn_18
  refine lv_if_lt (tgt := 17) hx hb dX11_isIn_3 (by decide) (fun c3 => ?_) (fun c3 => ?_)
  ·
    have cc4 : x1.toInt < (0 : Int32).toInt := i32_lt.mp c3
    have hb5 : In x1 (-1) (-1) := In.lt1 hb2 (⟨by decide, by decide⟩ : In 0 0 0) cc4 (by omega) (by omega)
    exact hJ17 _ _ _ hP hD hS (lv_sub hl [0, 1, 2] rfl)
  ·
    have cc6 : (0 : Int32).toInt ≤ x1.toInt := i32_nlt c3
    have hb7 : In x1 0 1 := In.ge1 hb2 (⟨by decide, by decide⟩ : In 0 0 0) cc6 (by omega) (by omega)
    refine lv_lload_n hx hb dX11_isIn_6 rfl (lv_at hl 0 rfl) ?_
    refine lv_lload hx hb dX11_isIn_7 (lv_at hl 2 rfl) ?_
    refine W.lcmp hx hb dX11_isIn_9 ?_
    refine lv_topi (fun x8 ex8 => ?_)
    have hb9 : In x8 (-1) 1 := ex8 ▸ In.lcmp _ _
    refine lv_if_gt (tgt := 17) hx hb dX11_isIn_10 (by decide) (fun c10 => ?_) (fun c10 => ?_)
    ·
      have cc11 : (0 : Int32).toInt < x8.toInt := i32_lt.mp c10
      have hb12 : In x8 1 1 := In.gt1 hb9 (⟨by decide, by decide⟩ : In 0 0 0) cc11 (by omega) (by omega)
      exact hJ17 _ _ _ hP hD hS (lv_sub hl [0, 1, 2] rfl)
    ·
      have cc13 : x8.toInt ≤ (0 : Int32).toInt := i32_nlt c10
      have hb14 : In x8 (-1) 0 := In.le1 hb9 (⟨by decide, by decide⟩ : In 0 0 0) cc13 (by omega) (by omega)
      refine lv_iconst (v := 1) hx hb dX11_isIn_13 (by decide) ?_
      refine lv_goto (tgt := 18) hx hb dX11_isIn_14 (by decide) ?_
      exact ret_i (ty := .boolean) hx hb hr hlocks (rfl) hP hD hS (Nat.le_of_ble_eq_true rfl) (Nat.le_of_ble_eq_true rfl) (⟨rfl, rfl, (⟨by decide, by decide⟩ : In 1 0 1)⟩) dX11_isIn_18

abbrev rm_X11_has : Room := { frames := 0, cells := 0, slots := 0, locals := 0 }
abbrev po_X11_has (g : GG) (ad : Nat → Nat) (th : Nat → Int) (L : List Nat) (f : HP) (z0 : Int32) (z1 : Int32) : Int32 → (List Nat × HP) → Prop := fun r u => u.1 = L ∧ u.2 = f ∧ In r 0 1
set_option maxHeartbeats 4000000 in
set_option maxRecDepth 100000 in
theorem s_X11_has (l : Launch) (g : GG) (ad : Nat → Nat) (th : Nat → Int) (L : List Nat) (f : HP) (sz : Nat) (z0 : Int32) (z1 : Int32) (hst : ST ad L) (hT : TI g ad th f)  : MtI l g yX11_has cX11_has 2 (some .boolean) rm_X11_has [.int z0, .int z1] L f sz (po_X11_has g ad th L f z0 z1) := by
  refine MtI.of (by decide +kernel) (Nat.le_of_ble_eq_true rfl) ?_
  intro p e s m below meth c A hEn hP hD hS ls hl
  obtain ⟨hx, hb, hr, hml, hown, hlocks, hts, hG, hA, hE, hnm⟩ := hEn
  have hown : s.vm.findClass "RulerWordModel" = some m.cls := hown
  have hl : lv_has ls 2 [(0, .int z0), (1, .int z1)] := hl
  refine lv_iload_n hx hb dX11_has_0 rfl (lv_at hl 0 rfl) ?_
  refine lv_iload_n hx hb dX11_has_1 rfl (lv_at hl 1 rfl) ?_
  refine lv_ishr hx hb dX11_has_2 ?_
  refine lv_topi (fun x1 ex1 => ?_)
  refine lv_iconst (v := 1) hx hb dX11_has_3 (by decide) ?_
  refine lv_iand hx hb dX11_has_4 ?_
  refine lv_topi (fun x2 ex2 => ?_)
  have hb3 : In x2 0 1 := ex2 ▸ In.andr (⟨by decide, by decide⟩ : In 1 1 1) (by decide)
  refine lv_iconst (v := 1) hx hb dX11_has_5 (by decide) ?_
  refine lv_icmp_ne (tgt := 13) hx hb dX11_has_6 (by decide) (fun c4 => ?_) (fun c4 => ?_)
  ·
    have cc5 : x2.toInt ≠ (1 : Int32).toInt := i32_ne c4
    have hb6 : In x2 0 0 := In.ne1 hb3 (⟨by decide, by decide⟩ : In 1 1 1) cc5 (by omega) (by omega)
    refine lv_iconst (v := 0) hx hb dX11_has_13 (by decide) ?_
    exact ret_i (ty := .boolean) hx hb hr hlocks (rfl) hP hD hS (Nat.le_of_ble_eq_true rfl) (Nat.le_of_ble_eq_true rfl) (⟨rfl, rfl, (⟨by decide, by decide⟩ : In 0 0 1)⟩) dX11_has_14
  ·
    have cc7 : x2.toInt = (1 : Int32).toInt := congrArg Int32.toInt c4
    have hb8 : In x2 1 1 := In.eq1 hb3 (⟨by decide, by decide⟩ : In 1 1 1) cc7 (by omega) (by omega)
    refine lv_iconst (v := 1) hx hb dX11_has_9 (by decide) ?_
    refine lv_goto (tgt := 14) hx hb dX11_has_10 (by decide) ?_
    exact ret_i (ty := .boolean) hx hb hr hlocks (rfl) hP hD hS (Nat.le_of_ble_eq_true rfl) (Nat.le_of_ble_eq_true rfl) (⟨rfl, rfl, (⟨by decide, by decide⟩ : In 1 0 1)⟩) dX11_has_14

abbrev rm_X11_bitsIn : Room := { frames := 0, cells := 0, slots := 0, locals := 0 }
abbrev po_X11_bitsIn (g : GG) (ad : Nat → Nat) (th : Nat → Int) (L : List Nat) (f : HP) (z0 : Int32) : Int32 → (List Nat × HP) → Prop := fun r u => u.1 = L ∧ u.2 = f ∧ In r 0 9
set_option maxHeartbeats 4000000 in
set_option maxRecDepth 100000 in
theorem s_X11_bitsIn (l : Launch) (g : GG) (ad : Nat → Nat) (th : Nat → Int) (L : List Nat) (f : HP) (sz : Nat) (z0 : Int32) (hst : ST ad L) (hT : TI g ad th f)  : MtI l g yX11_bitsIn cX11_bitsIn 3 (some .int) rm_X11_bitsIn [.int z0] L f sz (po_X11_bitsIn g ad th L f z0) := by
  refine MtI.of (by decide +kernel) (Nat.le_of_ble_eq_true rfl) ?_
  intro p e s m below meth c A hEn hP hD hS ls hl
  obtain ⟨hx, hb, hr, hml, hown, hlocks, hts, hG, hA, hE, hnm⟩ := hEn
  have hown : s.vm.findClass "RulerWordModel" = some m.cls := hown
  have hl : lv_has ls 3 [(0, .int z0)] := hl
  refine lv_iconst (v := 0) hx hb dX11_bitsIn_0 (by decide) ?_
  refine lv_istore_n (lv' := [(1, .int 0), (0, .int z0)]) hx hb dX11_bitsIn_1 rfl hl (by decide) rfl (fun ls hl => ?_)
  refine lv_iconst (v := 0) hx hb dX11_bitsIn_2 (by decide) ?_
  refine lv_istore_n (lv' := [(2, .int 0), (1, .int 0), (0, .int z0)]) hx hb dX11_bitsIn_3 rfl hl (by decide) rfl (fun ls hl => ?_)
  have hJ4 : ∀ (k4 : Nat) (y4_l1 : Int32) (y4_l2 : Int32) (H : Heap) (locs : List Loc) (ls : Array Slot), In y4_l1 0 9 → In y4_l2 0 9 → va_P g.1 vwCl (va_pl L f) H → va_D A (va_pl L f) → va_S A s.heap H locs → (y4_l1.toInt ≤ y4_l2.toInt ∧ 0 ≤ y4_l1.toInt) → lv_has ls 3 [(0, .int z0), (1, .int y4_l1), (2, .int y4_l2)] → 9 - y4_l2.toInt < ((k4 : Nat) : Int) → W p l e rm_X11_bitsIn s m [.int z0].toArray below meth c H locs 0 0 (MQ below (va_Qi (po_X11_bitsIn g ad th L f z0) (PstB g A) A) [.int z0].toArray s rm_X11_bitsIn.cells rm_X11_bitsIn.slots A) (F0 m 4 ls []) := by
    intro k4
    induction k4 with
    | zero =>
      intro y4_l1 y4_l2 H locs ls hy4_l1 hy4_l2 hP hD hS hinv4_0 hl hmz4
      exact ms0 hy4_l2 hmz4
    | succ k4 ih4 =>
      intro y4_l1 y4_l2 H locs ls hy4_l1 hy4_l2 hP hD hS hinv4_0 hl hmz4
      refine lv_iload_n hx hb dX11_bitsIn_4 rfl (lv_at hl 2 rfl) ?_
      refine lv_bipush (v := 9) hx hb dX11_bitsIn_5 (by decide) ?_
      refine lv_icmp_ge (tgt := 24) hx hb dX11_bitsIn_7 (by decide) (fun c1 => ?_) (fun c1 => ?_)
      ·
        have cc2 : (9 : Int32).toInt ≤ y4_l2.toInt := i32_le.mp c1
        have hb3 : In y4_l2 9 9 := In.ge1 hy4_l2 (⟨by decide, by decide⟩ : In 9 9 9) cc2 (by omega) (by omega)
        refine lv_iload_n hx hb dX11_bitsIn_24 rfl (lv_at hl 1 rfl) ?_
        exact ret_i (ty := .int) hx hb hr hlocks (rfl) hP hD hS (Nat.le_of_ble_eq_true rfl) (Nat.le_of_ble_eq_true rfl) (⟨rfl, rfl, hy4_l1⟩) dX11_bitsIn_25
      ·
        have cc4 : y4_l2.toInt < (9 : Int32).toInt := i32_nle c1
        have hb5 : In y4_l2 0 8 := In.lt1 hy4_l2 (⟨by decide, by decide⟩ : In 9 9 9) cc4 (by omega) (by omega)
        refine lv_iload_n hx hb dX11_bitsIn_10 rfl (lv_at hl 1 rfl) ?_
        refine lv_iload_n hx hb dX11_bitsIn_11 rfl (lv_at hl 0 rfl) ?_
        refine lv_iload_n hx hb dX11_bitsIn_12 rfl (lv_at hl 2 rfl) ?_
        refine lv_ishr hx hb dX11_bitsIn_13 ?_
        refine lv_topi (fun x6 ex6 => ?_)
        refine lv_iconst (v := 1) hx hb dX11_bitsIn_14 (by decide) ?_
        refine lv_iand hx hb dX11_bitsIn_15 ?_
        refine lv_topi (fun x7 ex7 => ?_)
        have hb8 : In x7 0 1 := ex7 ▸ In.andr (⟨by decide, by decide⟩ : In 1 1 1) (by decide)
        refine lv_iadd hx hb dX11_bitsIn_16 ?_
        refine lv_topi (fun x9 ex9 => ?_)
        have hb10 : In x9 0 10 := ex9 ▸ In.add hy4_l1 hb8 (by decide) (by decide) (by decide) (by decide)
        have et11 : x9.toInt = y4_l1.toInt + x7.toInt := In.add2e ex9 hy4_l1 hb8 (by decide) (by decide)
        refine lv_istore_n (lv' := [(1, .int x9), (0, .int z0), (2, .int y4_l2)]) hx hb dX11_bitsIn_17 rfl hl (by decide) rfl (fun ls hl => ?_)
        obtain ⟨x12, ex12⟩ : ∃ y : Int32, y = y4_l2 + 1 := ⟨_, rfl⟩
        have hb13 : In x12 1 9 := ex12 ▸ In.add hb5 (⟨by decide, by decide⟩ : In 1 1 1) (by decide) (by decide) (by decide) (by decide)
        have et14 : x12.toInt = y4_l2.toInt + 1 := In.adde ex12 hb5 (k := 1) (by decide) (by decide) (by decide)
        refine lv_iinc (v := x12) (lv' := [(2, .int x12), (1, .int x9), (0, .int z0)]) hx hb dX11_bitsIn_18 hl (k := 2) rfl (by rw [ex12]; rfl) (by decide) rfl (fun ls hl => ?_)
        refine lv_goto (tgt := 4) hx hb dX11_bitsIn_21 (by decide) ?_
        exact ih4 x9 x12 _ _ _ (In.mk (by obtain ⟨o0a, o0b⟩ := (hb10 : In _ _ _); obtain ⟨o1a, o1b⟩ := (hy4_l1 : In _ _ _); obtain ⟨o2a, o2b⟩ := (hb8 : In _ _ _); obtain ⟨o3a, o3b⟩ := (hb5 : In _ _ _); omega) (by obtain ⟨o0a, o0b⟩ := (hb10 : In _ _ _); obtain ⟨o1a, o1b⟩ := (hy4_l1 : In _ _ _); obtain ⟨o2a, o2b⟩ := (hb8 : In _ _ _); obtain ⟨o3a, o3b⟩ := (hb5 : In _ _ _); omega)) (In.mono hb13 (by decide) (by decide)) hP hD hS (by obtain ⟨o0a, o0b⟩ := (hb10 : In _ _ _); obtain ⟨o1a, o1b⟩ := (hb13 : In _ _ _); obtain ⟨o2a, o2b⟩ := (hy4_l1 : In _ _ _); obtain ⟨o3a, o3b⟩ := (hb8 : In _ _ _); obtain ⟨o4a, o4b⟩ := (hb5 : In _ _ _); omega) (lv_sub hl [2, 1, 0] rfl) (msu et14 (by decide) hmz4)
  exact hJ4 ((9 - (0 : Int32).toInt).toNat + 1) 0 0 _ _ _ (⟨by decide, by decide⟩ : In 0 0 9) (⟨by decide, by decide⟩ : In 0 0 9) hP hD hS (by have oc0 : (0 : Int32).toInt = 0 := (by decide); omega) (lv_sub hl [2, 1, 0] rfl) (msI _)

abbrev rm_X11_bytesOf : Room := { frames := 0, cells := 0, slots := 0, locals := 0 }
abbrev po_X11_bytesOf (g : GG) (ad : Nat → Nat) (th : Nat → Int) (L : List Nat) (f : HP) (z0 : Int32) : Int32 → (List Nat × HP) → Prop := fun r u => u.1 = L ∧ u.2 = f ∧ In r 0 4
set_option maxHeartbeats 4000000 in
set_option maxRecDepth 100000 in
theorem s_X11_bytesOf (l : Launch) (g : GG) (ad : Nat → Nat) (th : Nat → Int) (L : List Nat) (f : HP) (sz : Nat) (z0 : Int32) (hst : ST ad L) (hT : TI g ad th f)  : MtI l g yX11_bytesOf cX11_bytesOf 3 (some .int) rm_X11_bytesOf [.int z0] L f sz (po_X11_bytesOf g ad th L f z0) := by
  refine MtI.of (by decide +kernel) (Nat.le_of_ble_eq_true rfl) ?_
  intro p e s m below meth c A hEn hP hD hS ls hl
  obtain ⟨hx, hb, hr, hml, hown, hlocks, hts, hG, hA, hE, hnm⟩ := hEn
  have hown : s.vm.findClass "RulerWordModel" = some m.cls := hown
  have hl : lv_has ls 3 [(0, .int z0)] := hl
  refine lv_iconst (v := 0) hx hb dX11_bytesOf_0 (by decide) ?_
  refine lv_istore_n (lv' := [(1, .int 0), (0, .int z0)]) hx hb dX11_bytesOf_1 rfl hl (by decide) rfl (fun ls hl => ?_)
  refine lv_iconst (v := 0) hx hb dX11_bytesOf_2 (by decide) ?_
  refine lv_istore_n (lv' := [(2, .int 0), (1, .int 0), (0, .int z0)]) hx hb dX11_bytesOf_3 rfl hl (by decide) rfl (fun ls hl => ?_)
  have hJ4 : ∀ (k4 : Nat) (y4_l1 : Int32) (y4_l2 : Int32) (H : Heap) (locs : List Loc) (ls : Array Slot), In y4_l1 0 4 → In y4_l2 0 4 → va_P g.1 vwCl (va_pl L f) H → va_D A (va_pl L f) → va_S A s.heap H locs → (y4_l1.toInt ≤ y4_l2.toInt ∧ 0 ≤ y4_l1.toInt) → lv_has ls 3 [(0, .int z0), (1, .int y4_l1), (2, .int y4_l2)] → 4 - y4_l2.toInt < ((k4 : Nat) : Int) → W p l e rm_X11_bytesOf s m [.int z0].toArray below meth c H locs 0 0 (MQ below (va_Qi (po_X11_bytesOf g ad th L f z0) (PstB g A) A) [.int z0].toArray s rm_X11_bytesOf.cells rm_X11_bytesOf.slots A) (F0 m 4 ls []) := by
    intro k4
    induction k4 with
    | zero =>
      intro y4_l1 y4_l2 H locs ls hy4_l1 hy4_l2 hP hD hS hinv4_0 hl hmz4
      exact ms0 hy4_l2 hmz4
    | succ k4 ih4 =>
      intro y4_l1 y4_l2 H locs ls hy4_l1 hy4_l2 hP hD hS hinv4_0 hl hmz4
      refine lv_iload_n hx hb dX11_bytesOf_4 rfl (lv_at hl 2 rfl) ?_
      refine lv_iconst (v := 4) hx hb dX11_bytesOf_5 (by decide) ?_
      refine lv_icmp_ge (tgt := 36) hx hb dX11_bytesOf_6 (by decide) (fun c1 => ?_) (fun c1 => ?_)
      ·
        have cc2 : (4 : Int32).toInt ≤ y4_l2.toInt := i32_le.mp c1
        have hb3 : In y4_l2 4 4 := In.ge1 hy4_l2 (⟨by decide, by decide⟩ : In 4 4 4) cc2 (by omega) (by omega)
        refine lv_iload_n hx hb dX11_bytesOf_36 rfl (lv_at hl 1 rfl) ?_
        exact ret_i (ty := .int) hx hb hr hlocks (rfl) hP hD hS (Nat.le_of_ble_eq_true rfl) (Nat.le_of_ble_eq_true rfl) (⟨rfl, rfl, hy4_l1⟩) dX11_bytesOf_37
      ·
        have cc4 : y4_l2.toInt < (4 : Int32).toInt := i32_nle c1
        have hb5 : In y4_l2 0 3 := In.lt1 hy4_l2 (⟨by decide, by decide⟩ : In 4 4 4) cc4 (by omega) (by omega)
        refine lv_iload_n hx hb dX11_bytesOf_9 rfl (lv_at hl 1 rfl) ?_
        refine lv_iload_n hx hb dX11_bytesOf_10 rfl (lv_at hl 0 rfl) ?_
        refine lv_bipush (v := 8) hx hb dX11_bytesOf_11 (by decide) ?_
        refine lv_iload_n hx hb dX11_bytesOf_13 rfl (lv_at hl 2 rfl) ?_
        refine lv_imul hx hb dX11_bytesOf_14 ?_
        refine lv_topi (fun x6 ex6 => ?_)
        have hb7 : In x6 0 24 := ex6 ▸ In.mul (⟨by decide, by decide⟩ : In 8 8 8) hb5 (by decide) (by decide) (by decide) (by decide) (by decide)
        refine lv_ishr hx hb dX11_bytesOf_15 ?_
        refine lv_topi (fun x8 ex8 => ?_)
        refine lv_sipush (v := 255) hx hb dX11_bytesOf_16 (by decide) ?_
        refine lv_iand hx hb dX11_bytesOf_19 ?_
        refine lv_topi (fun x9 ex9 => ?_)
        have hb10 : In x9 0 255 := ex9 ▸ In.andr (⟨by decide, by decide⟩ : In 255 255 255) (by decide)
        have hJ28 : ∀ (y28_s0 : Int32) (H : Heap) (locs : List Loc) (ls : Array Slot), In y28_s0 0 1 → va_P g.1 vwCl (va_pl L f) H → va_D A (va_pl L f) → va_S A s.heap H locs → lv_has ls 3 [(0, .int z0), (1, .int y4_l1), (2, .int y4_l2)] → W p l e rm_X11_bytesOf s m [.int z0].toArray below meth c H locs 0 0 (MQ below (va_Qi (po_X11_bytesOf g ad th L f z0) (PstB g A) A) [.int z0].toArray s rm_X11_bytesOf.cells rm_X11_bytesOf.slots A) (F0 m 28 ls [.int y28_s0, .int y4_l1]) := by
          intro y28_s0 H locs ls hy28_s0 hP hD hS hl
          refine lv_iadd hx hb dX11_bytesOf_28 ?_
          refine lv_topi (fun x11 ex11 => ?_)
          have hb12 : In x11 0 5 := ex11 ▸ In.add hy4_l1 hy28_s0 (by decide) (by decide) (by decide) (by decide)
          have et13 : x11.toInt = y4_l1.toInt + y28_s0.toInt := In.add2e ex11 hy4_l1 hy28_s0 (by decide) (by decide)
          refine lv_istore_n (lv' := [(1, .int x11), (0, .int z0), (2, .int y4_l2)]) hx hb dX11_bytesOf_29 rfl hl (by decide) rfl (fun ls hl => ?_)
          obtain ⟨x14, ex14⟩ : ∃ y : Int32, y = y4_l2 + 1 := ⟨_, rfl⟩
          have hb15 : In x14 1 4 := ex14 ▸ In.add hb5 (⟨by decide, by decide⟩ : In 1 1 1) (by decide) (by decide) (by decide) (by decide)
          have et16 : x14.toInt = y4_l2.toInt + 1 := In.adde ex14 hb5 (k := 1) (by decide) (by decide) (by decide)
          refine lv_iinc (v := x14) (lv' := [(2, .int x14), (1, .int x11), (0, .int z0)]) hx hb dX11_bytesOf_30 hl (k := 2) rfl (by rw [ex14]; rfl) (by decide) rfl (fun ls hl => ?_)
          refine lv_goto (tgt := 4) hx hb dX11_bytesOf_33 (by decide) ?_
          exact ih4 x11 x14 _ _ _ (In.mk (by obtain ⟨o0a, o0b⟩ := (hb12 : In _ _ _); obtain ⟨o1a, o1b⟩ := (hy4_l1 : In _ _ _); obtain ⟨o2a, o2b⟩ := (hy28_s0 : In _ _ _); obtain ⟨o3a, o3b⟩ := (hb5 : In _ _ _); omega) (by obtain ⟨o0a, o0b⟩ := (hb12 : In _ _ _); obtain ⟨o1a, o1b⟩ := (hy4_l1 : In _ _ _); obtain ⟨o2a, o2b⟩ := (hy28_s0 : In _ _ _); obtain ⟨o3a, o3b⟩ := (hb5 : In _ _ _); omega)) (In.mono hb15 (by decide) (by decide)) hP hD hS (by obtain ⟨o0a, o0b⟩ := (hb12 : In _ _ _); obtain ⟨o1a, o1b⟩ := (hb15 : In _ _ _); obtain ⟨o2a, o2b⟩ := (hy4_l1 : In _ _ _); obtain ⟨o3a, o3b⟩ := (hy28_s0 : In _ _ _); obtain ⟨o4a, o4b⟩ := (hb5 : In _ _ _); omega) (lv_sub hl [2, 1, 0] rfl) (msu et16 (by decide) hmz4)
        refine lv_if_ne (tgt := 27) hx hb dX11_bytesOf_20 (by decide) (fun c17 => ?_) (fun c17 => ?_)
        ·
          have cc18 : x9.toInt ≠ (0 : Int32).toInt := i32_ne c17
          have hb19 : In x9 1 255 := In.ne1 hb10 (⟨by decide, by decide⟩ : In 0 0 0) cc18 (by omega) (by omega)
          refine lv_iconst (v := 1) hx hb dX11_bytesOf_27 (by decide) ?_
          exact hJ28 1 _ _ _ (⟨by decide, by decide⟩ : In 1 0 1) hP hD hS (lv_sub hl [0, 1, 2] rfl)
        ·
          have cc20 : x9.toInt = (0 : Int32).toInt := congrArg Int32.toInt c17
          have hb21 : In x9 0 0 := In.eq1 hb10 (⟨by decide, by decide⟩ : In 0 0 0) cc20 (by omega) (by omega)
          refine lv_iconst (v := 0) hx hb dX11_bytesOf_23 (by decide) ?_
          refine lv_goto (tgt := 28) hx hb dX11_bytesOf_24 (by decide) ?_
          exact hJ28 0 _ _ _ (⟨by decide, by decide⟩ : In 0 0 1) hP hD hS (lv_sub hl [0, 1, 2] rfl)
  exact hJ4 ((4 - (0 : Int32).toInt).toNat + 1) 0 0 _ _ _ (⟨by decide, by decide⟩ : In 0 0 4) (⟨by decide, by decide⟩ : In 0 0 4) hP hD hS (by have oc0 : (0 : Int32).toInt = 0 := (by decide); omega) (lv_sub hl [2, 1, 0] rfl) (msI _)

abbrev rm_X11_end : Room := { frames := 0, cells := 0, slots := 0, locals := 0 }
abbrev po_X11_end (g : GG) (ad : Nat → Nat) (th : Nat → Int) (L : List Nat) (f : HP) (z1 : Int32) : Int32 → (List Nat × HP) → Prop := fun r u => u.1 = L ∧ TI g ad th u.2 ∧ (∀ b, b ≠ (ad 255) → u.2 b = f b) ∧ In r 0 1
set_option maxHeartbeats 4000000 in
set_option maxRecDepth 100000 in
theorem s_X11_end (l : Launch) (g : GG) (ad : Nat → Nat) (th : Nat → Int) (L : List Nat) (f : HP) (sz : Nat) (z1 : Int32) (hst : ST ad L) (hT : TI g ad th f)  : MtI l g yX11_end cX11_end 2 (some .boolean) rm_X11_end [.ref (ad 255), .int z1] L f sz (po_X11_end g ad th L f z1) := by
  refine MtI.of (by decide +kernel) (Nat.le_of_ble_eq_true rfl) ?_
  intro p e s m below meth c A hEn hP hD hS ls hl
  obtain ⟨hx, hb, hr, hml, hown, hlocks, hts, hG, hA, hE, hnm⟩ := hEn
  have hown : s.vm.findClass "RulerWordModel" = some m.cls := hown
  have hl : lv_has ls 2 [(0, .ref (ad 255)), (1, .int z1)] := hl
  have hfr : (∀ b, b ≠ (ad 255) → f b = f b) := fun b z0_ => rfl
  refine lv_aload_n hx hb dX11_end_0 rfl (lv_at hl 0 rfl) ?_
  refine lv_iconst (v := 0) hx hb dX11_end_1 (by decide) ?_
  obtain ⟨v0_1, v2_1, v3_1, v4_1, v5_1, v6_1, v8_1, v9_1, v12_1, v13_1, v14_1, v15_1, v16_1, v17_1, v18_1, v19_1, v20_1, v21_1, v22_1, v23_1, v25_1, v36_1, v37_1, v38_1, v39_1, v40_1, v45_1, v46_1, v47_1, v48_1, v50_1, v51_1, v53_1, v55_1, hf2, hv0_1, hv2_1, hv3_1, hv4_1, hv5_1, hv6_1, hv8_1, hv12_1, hv13_1, hv14_1, hg14_1, hv15_1, hg15_1, hv17_1, hg17_1, hv20_1, hv23_1, hg23_1, hv25_1, hv36_1, hv47_1, hv48_1, hv53_1, hv55_1⟩ := hT.2.2 0 (by decide)
  refine pl_put (ty := .int) (v := .int 0) (fs' := [.int 0, .ref (ad 256), .int v2_1, .int v3_1, .int v4_1, .int v5_1, .int v6_1, .ref (ad 257), .int v8_1, .int v9_1, .ref (ad 258), .ref (ad 259), .int v12_1, .int v13_1, .int v14_1, .int v15_1, .int v16_1, .int v17_1, .int v18_1, .int v19_1, .int v20_1, .long v21_1, .long v22_1, .int v23_1, .ref (ad 260), .int v25_1, .ref (ad 261), .ref (ad 262), .ref (ad 263), .ref (ad 264), .ref (ad 265), .ref (ad 266), .ref (ad 267), .ref (ad 268), .ref (ad 269), .ref (ad 270), .int v36_1, .int v37_1, .int v38_1, .int v39_1, .int v40_1, .ref (ad 271), .ref (ad 272), .ref (ad 273), .ref (ad 274), .long v45_1, .long v46_1, .int v47_1, .int v48_1, .ref (ad 275), .int v50_1, .int v51_1, .ref (ad 276), .int v53_1, .ref (ad 277), .int v55_1]) hx hb hts (fun w h => mT (inX11 w h)) tyX11 tyX11_ok nmX11 hown hG.1 hP hD hS (hst.1 255 (by decide)) hf2 rfl 0 (by decide) (hts _ (mT wg_1336)) (fun _ h => h) rfl (by decide +kernel) (rfl) (rfl) (Nat.le_of_ble_eq_true rfl) rfl dX11_end_2 (fun H locs f3 hf4 ho5 hP hD hS => ?_)
  have hfr : (∀ b, b ≠ (ad 255) → f3 b = f b) := fun b z0_ => (ho5 b z0_).trans (hfr b z0_)
  refine lv_iload_n hx hb dX11_end_5 rfl (lv_at hl 1 rfl) ?_
  have hT := TI.updM hT hst (k := 0) (by decide) hf4 ho5 ⟨0, v2_1, v3_1, v4_1, v5_1, v6_1, v8_1, v9_1, v12_1, v13_1, v14_1, v15_1, v16_1, v17_1, v18_1, v19_1, v20_1, v21_1, v22_1, v23_1, v25_1, v36_1, v37_1, v38_1, v39_1, v40_1, v45_1, v46_1, v47_1, v48_1, v50_1, v51_1, v53_1, v55_1, rfl, (⟨by decide, by decide⟩ : In 0 0 1), hv2_1, hv3_1, hv4_1, hv5_1, hv6_1, hv8_1, hv12_1, hv13_1, hv14_1, hg14_1, hv15_1, hg15_1, hv17_1, hg17_1, hv20_1, hv23_1, hg23_1, hv25_1, hv36_1, hv47_1, hv48_1, hv53_1, hv55_1⟩
  refine lv_if_lt (tgt := 17) hx hb dX11_end_6 (by decide) (fun c6 => ?_) (fun c6 => ?_)
  ·
    have cc7 : z1.toInt < (0 : Int32).toInt := i32_lt.mp c6
    have hb8 : In z1 (-2147483648) (-1) := In.lt1 (In.full z1) (⟨by decide, by decide⟩ : In 0 0 0) cc7 (by omega) (by omega)
    refine lv_iconst (v := 0) hx hb dX11_end_17 (by decide) ?_
    exact ret_i (ty := .boolean) hx hb hr hlocks (rfl) hP hD hS (Nat.le_of_ble_eq_true rfl) (Nat.le_of_ble_eq_true rfl) (⟨rfl, hT, hfr, (⟨by decide, by decide⟩ : In 0 0 1)⟩) dX11_end_18
  ·
    have cc9 : (0 : Int32).toInt ≤ z1.toInt := i32_nlt c6
    have hb10 : In z1 0 2147483647 := In.ge1 (In.full z1) (⟨by decide, by decide⟩ : In 0 0 0) cc9 (by omega) (by omega)
    refine lv_iload_n hx hb dX11_end_9 rfl (lv_at hl 1 rfl) ?_
    refine lv_aload_n hx hb dX11_end_10 rfl (lv_at hl 0 rfl) ?_
    refine pl_get (v := .int v2_1) hx hb hts (fun w h => mT (inX11 w h)) hown hG.1 hP (hst.1 255 (by decide)) hf4 rfl 2 (by decide) (hts _ (mT wg_1338)) (fun _ h => h) rfl dX11_end_11 ?_
    refine lv_icmp_le (tgt := 19) hx hb dX11_end_14 (by decide) (fun c11 => ?_) (fun c11 => ?_)
    ·
      have cc12 : z1.toInt ≤ v2_1.toInt := i32_le.mp c11
      have hb13 : In z1 0 500 := In.le1 hb10 hv2_1 cc12 (by omega) (by omega)
      refine lv_aload_n hx hb dX11_end_19 rfl (lv_at hl 0 rfl) ?_
      refine lv_iload_n hx hb dX11_end_20 rfl (lv_at hl 1 rfl) ?_
      refine pl_put (ty := .int) (v := .int z1) (fs' := [.int 0, .ref (ad 256), .int z1, .int v3_1, .int v4_1, .int v5_1, .int v6_1, .ref (ad 257), .int v8_1, .int v9_1, .ref (ad 258), .ref (ad 259), .int v12_1, .int v13_1, .int v14_1, .int v15_1, .int v16_1, .int v17_1, .int v18_1, .int v19_1, .int v20_1, .long v21_1, .long v22_1, .int v23_1, .ref (ad 260), .int v25_1, .ref (ad 261), .ref (ad 262), .ref (ad 263), .ref (ad 264), .ref (ad 265), .ref (ad 266), .ref (ad 267), .ref (ad 268), .ref (ad 269), .ref (ad 270), .int v36_1, .int v37_1, .int v38_1, .int v39_1, .int v40_1, .ref (ad 271), .ref (ad 272), .ref (ad 273), .ref (ad 274), .long v45_1, .long v46_1, .int v47_1, .int v48_1, .ref (ad 275), .int v50_1, .int v51_1, .ref (ad 276), .int v53_1, .ref (ad 277), .int v55_1]) hx hb hts (fun w h => mT (inX11 w h)) tyX11 tyX11_ok nmX11 hown hG.1 hP hD hS (hst.1 255 (by decide)) hf4 rfl 2 (by decide) (hts _ (mT wg_1338)) (fun _ h => h) rfl (by decide +kernel) (rfl) (rfl) (Nat.le_of_ble_eq_true rfl) rfl dX11_end_21 (fun H locs f14 hf15 ho16 hP hD hS => ?_)
      have hfr : (∀ b, b ≠ (ad 255) → f14 b = f b) := fun b z0_ => (ho16 b z0_).trans (hfr b z0_)
      refine lv_iconst (v := 1) hx hb dX11_end_24 (by decide) ?_
      have hT := TI.updM hT hst (k := 0) (by decide) hf15 ho16 ⟨0, z1, v3_1, v4_1, v5_1, v6_1, v8_1, v9_1, v12_1, v13_1, v14_1, v15_1, v16_1, v17_1, v18_1, v19_1, v20_1, v21_1, v22_1, v23_1, v25_1, v36_1, v37_1, v38_1, v39_1, v40_1, v45_1, v46_1, v47_1, v48_1, v50_1, v51_1, v53_1, v55_1, rfl, (⟨by decide, by decide⟩ : In 0 0 1), hb13, hv3_1, hv4_1, hv5_1, hv6_1, hv8_1, hv12_1, hv13_1, hv14_1, hg14_1, hv15_1, hg15_1, hv17_1, hg17_1, hv20_1, hv23_1, hg23_1, hv25_1, hv36_1, hv47_1, hv48_1, hv53_1, hv55_1⟩
      exact ret_i (ty := .boolean) hx hb hr hlocks (rfl) hP hD hS (Nat.le_of_ble_eq_true rfl) (Nat.le_of_ble_eq_true rfl) (⟨rfl, hT, hfr, (⟨by decide, by decide⟩ : In 1 0 1)⟩) dX11_end_25
    ·
      have cc17 : v2_1.toInt < z1.toInt := i32_nle c11
      have hb18 : In z1 1 2147483647 := In.gt1 hb10 hv2_1 cc17 (by omega) (by omega)
      refine lv_iconst (v := 0) hx hb dX11_end_17 (by decide) ?_
      exact ret_i (ty := .boolean) hx hb hr hlocks (rfl) hP hD hS (Nat.le_of_ble_eq_true rfl) (Nat.le_of_ble_eq_true rfl) (⟨rfl, hT, hfr, (⟨by decide, by decide⟩ : In 0 0 1)⟩) dX11_end_18

abbrev rm_X11_here : Room := { frames := 0, cells := 0, slots := 0, locals := 0 }
abbrev po_X11_here (g : GG) (ad : Nat → Nat) (th : Nat → Int) (L : List Nat) (f : HP)  : Int32 → (List Nat × HP) → Prop := fun r u => u.1 = L ∧ u.2 = f ∧ In r (-1) 255 ∧ (∀ a b : Int32, FLD f ad 3 a → FLD f ad 2 b → r.toInt = -1 ∨ a.toInt < b.toInt)
set_option maxHeartbeats 4000000 in
set_option maxRecDepth 100000 in
theorem s_X11_here (l : Launch) (g : GG) (ad : Nat → Nat) (th : Nat → Int) (L : List Nat) (f : HP) (sz : Nat)  (hst : ST ad L) (hT : TI g ad th f)  : MtI l g yX11_here cX11_here 1 (some .int) rm_X11_here [.ref (ad 255)] L f sz (po_X11_here g ad th L f ) := by
  refine MtI.of (by decide +kernel) (Nat.le_of_ble_eq_true rfl) ?_
  intro p e s m below meth c A hEn hP hD hS ls hl
  obtain ⟨hx, hb, hr, hml, hown, hlocks, hts, hG, hA, hE, hnm⟩ := hEn
  have hown : s.vm.findClass "RulerWordModel" = some m.cls := hown
  have hl : lv_has ls 1 [(0, .ref (ad 255))] := hl
  refine lv_aload_n hx hb dX11_here_0 rfl (lv_at hl 0 rfl) ?_
  obtain ⟨v0_1, v2_1, v3_1, v4_1, v5_1, v6_1, v8_1, v9_1, v12_1, v13_1, v14_1, v15_1, v16_1, v17_1, v18_1, v19_1, v20_1, v21_1, v22_1, v23_1, v25_1, v36_1, v37_1, v38_1, v39_1, v40_1, v45_1, v46_1, v47_1, v48_1, v50_1, v51_1, v53_1, v55_1, hf2, hv0_1, hv2_1, hv3_1, hv4_1, hv5_1, hv6_1, hv8_1, hv12_1, hv13_1, hv14_1, hg14_1, hv15_1, hg15_1, hv17_1, hg17_1, hv20_1, hv23_1, hg23_1, hv25_1, hv36_1, hv47_1, hv48_1, hv53_1, hv55_1⟩ := hT.2.2 0 (by decide)
  refine pl_get (v := .int v3_1) hx hb hts (fun w h => mT (inX11 w h)) hown hG.1 hP (hst.1 255 (by decide)) hf2 rfl 3 (by decide) (hts _ (mT wg_1339)) (fun _ h => h) rfl dX11_here_1 ?_
  refine lv_aload_n hx hb dX11_here_4 rfl (lv_at hl 0 rfl) ?_
  refine pl_get (v := .int v2_1) hx hb hts (fun w h => mT (inX11 w h)) hown hG.1 hP (hst.1 255 (by decide)) hf2 rfl 2 (by decide) (hts _ (mT wg_1338)) (fun _ h => h) rfl dX11_here_5 ?_
  refine lv_icmp_ge (tgt := 27) hx hb dX11_here_8 (by decide) (fun c3 => ?_) (fun c3 => ?_)
  ·
    have cc4 : v2_1.toInt ≤ v3_1.toInt := i32_le.mp c3
    refine lv_iconst (v := (-1)) hx hb dX11_here_27 (by decide) ?_
    exact ret_i (ty := .int) hx hb hr hlocks (rfl) hP hD hS (Nat.le_of_ble_eq_true rfl) (Nat.le_of_ble_eq_true rfl) (⟨rfl, rfl, (⟨by decide, by decide⟩ : In (-1) (-1) 255), (fun a b ha hb => Or.inl (by decide))⟩) dX11_here_28
  ·
    have cc5 : v3_1.toInt < v2_1.toInt := i32_nle c3
    have hb6 : In v3_1 0 499 := In.lt1 hv3_1 hv2_1 cc5 (by omega) (by omega)
    have hb7 : In v2_1 1 500 := In.lt2 hv3_1 hv2_1 cc5 (by omega) (by omega)
    refine lv_aload_n hx hb dX11_here_11 rfl (lv_at hl 0 rfl) ?_
    refine pl_get (v := .ref (ad 256)) hx hb hts (fun w h => mT (inX11 w h)) hown hG.1 hP (hst.1 255 (by decide)) hf2 rfl 1 (by decide) (hts _ (mT wg_1337)) (fun _ h => h) rfl dX11_here_12 ?_
    refine lv_aload_n hx hb dX11_here_15 rfl (lv_at hl 0 rfl) ?_
    refine pl_get (v := .int v3_1) hx hb hts (fun w h => mT (inX11 w h)) hown hG.1 hP (hst.1 255 (by decide)) hf2 rfl 3 (by decide) (hts _ (mT wg_1339)) (fun _ h => h) rfl dX11_here_16 ?_
    obtain ⟨rw8, hf9⟩ := hT.2.2 1 (by decide)
    have hin10 : vp_in v3_1 500 := In.inb hb6 (by decide) (by decide)
    refine pl_bald hx hb hG.1 hP (hst.1 256 (by decide)) 2 hf9 rfl hin10 dX11_here_19 ?_
    refine lv_topi (fun x11 ex11 => ?_)
    refine lv_sipush (v := 255) hx hb dX11_here_20 (by decide) ?_
    refine lv_iand hx hb dX11_here_23 ?_
    refine lv_topi (fun x12 ex12 => ?_)
    have hb13 : In x12 0 255 := ex12 ▸ In.andr (⟨by decide, by decide⟩ : In 255 255 255) (by decide)
    refine lv_goto (tgt := 28) hx hb dX11_here_24 (by decide) ?_
    exact ret_i (ty := .int) hx hb hr hlocks (rfl) hP hD hS (Nat.le_of_ble_eq_true rfl) (Nat.le_of_ble_eq_true rfl) (⟨rfl, rfl, (In.mono hb13 (by decide) (by decide)), (fun a b ha hb => by rw [FLD.eq ha hf2 rfl, FLD.eq hb hf2 rfl]; exact Or.inr cc5)⟩) dX11_here_28

abbrev rm_X11_look : Room := { frames := 1, cells := 0, slots := 0, locals := 20 }
abbrev po_X11_look (g : GG) (ad : Nat → Nat) (th : Nat → Int) (L : List Nat) (f : HP)  : Int32 → (List Nat × HP) → Prop := fun r u => u.1 = L ∧ TI g ad th u.2 ∧ (∀ b, b ≠ (ad 255) → u.2 b = f b) ∧ In r (-1) 255
set_option maxHeartbeats 4000000 in
set_option maxRecDepth 100000 in
theorem s_X11_look (l : Launch) (g : GG) (ad : Nat → Nat) (th : Nat → Int) (L : List Nat) (f : HP) (sz : Nat)  (hst : ST ad L) (hT : TI g ad th f)  : MtI l g yX11_look cX11_look 1 (some .int) rm_X11_look [.ref (ad 255)] L f sz (po_X11_look g ad th L f ) := by
  refine MtI.of (by decide +kernel) (Nat.le_of_ble_eq_true rfl) ?_
  intro p e s m below meth c A hEn hP hD hS ls hl
  obtain ⟨hx, hb, hr, hml, hown, hlocks, hts, hG, hA, hE, hnm⟩ := hEn
  have hown : s.vm.findClass "RulerWordModel" = some m.cls := hown
  have hl : lv_has ls 1 [(0, .ref (ad 255))] := hl
  have hfr : (∀ b, b ≠ (ad 255) → f b = f b) := fun b z0_ => rfl
  have hJ0 : ∀ (k0 : Nat) (f_0 : HP) (H : Heap) (locs : List Loc) (w0_0 : Int32) (w0_2 : Int32) (w0_3 : Int32) (w0_4 : Int32) (w0_5 : Int32) (w0_6 : Int32) (w0_8 : Int32) (w0_9 : Int32) (w0_12 : Int32) (w0_13 : Int32) (w0_14 : Int32) (w0_15 : Int32) (w0_16 : Int32) (w0_17 : Int32) (w0_18 : Int32) (w0_19 : Int32) (w0_20 : Int32) (w0_21 : Int64) (w0_22 : Int64) (w0_23 : Int32) (w0_25 : Int32) (w0_36 : Int32) (w0_37 : Int32) (w0_38 : Int32) (w0_39 : Int32) (w0_40 : Int32) (w0_45 : Int64) (w0_46 : Int64) (w0_47 : Int32) (w0_48 : Int32) (w0_50 : Int32) (w0_51 : Int32) (w0_53 : Int32) (w0_55 : Int32) (ls : Array Slot), va_P g.1 vwCl (va_pl L f_0) H → va_D A (va_pl L f_0) → va_S A s.heap H locs → TI g ad th f_0 → (∀ b, b ≠ (ad 255) → f_0 b = f b) → In w0_0 0 1 → In w0_2 0 500 → In w0_3 0 500 → In w0_4 (-1) 500 → In w0_5 0 500 → In w0_6 0 500 → In w0_8 (-1) 1 → In w0_12 0 20 → In w0_13 0 20 → In w0_14 0 1 → w0_14.toInt = th 10 → In w0_15 0 9 → w0_15.toInt = th 11 → In w0_17 0 6 → w0_17.toInt = th 12 → In w0_20 0 511 → In w0_23 0 1 → w0_23.toInt = th 15 → In w0_25 0 30 → In w0_36 0 100 → In w0_47 0 20 → In w0_48 0 1 → In w0_53 0 400 → In w0_55 0 200 → f_0 (ad 255) = .inr (10, [.int w0_0, .ref (ad 256), .int w0_2, .int w0_3, .int w0_4, .int w0_5, .int w0_6, .ref (ad 257), .int w0_8, .int w0_9, .ref (ad 258), .ref (ad 259), .int w0_12, .int w0_13, .int w0_14, .int w0_15, .int w0_16, .int w0_17, .int w0_18, .int w0_19, .int w0_20, .long w0_21, .long w0_22, .int w0_23, .ref (ad 260), .int w0_25, .ref (ad 261), .ref (ad 262), .ref (ad 263), .ref (ad 264), .ref (ad 265), .ref (ad 266), .ref (ad 267), .ref (ad 268), .ref (ad 269), .ref (ad 270), .int w0_36, .int w0_37, .int w0_38, .int w0_39, .int w0_40, .ref (ad 271), .ref (ad 272), .ref (ad 273), .ref (ad 274), .long w0_45, .long w0_46, .int w0_47, .int w0_48, .ref (ad 275), .int w0_50, .int w0_51, .ref (ad 276), .int w0_53, .ref (ad 277), .int w0_55]) → lv_has ls 1 [(0, .ref (ad 255))] → 500 - w0_3.toInt < ((k0 : Nat) : Int) → W p l e rm_X11_look s m [.ref (ad 255)].toArray below meth c H locs 0 0 (MQ below (va_Qi (po_X11_look g ad th L f ) (PstB g A) A) [.ref (ad 255)].toArray s rm_X11_look.cells rm_X11_look.slots A) (F0 m 0 ls []) := by
    intro k0
    induction k0 with
    | zero =>
      intro f_0 H locs w0_0 w0_2 w0_3 w0_4 w0_5 w0_6 w0_8 w0_9 w0_12 w0_13 w0_14 w0_15 w0_16 w0_17 w0_18 w0_19 w0_20 w0_21 w0_22 w0_23 w0_25 w0_36 w0_37 w0_38 w0_39 w0_40 w0_45 w0_46 w0_47 w0_48 w0_50 w0_51 w0_53 w0_55 ls hP hD hS hT hfr hw0_0 hw0_2 hw0_3 hw0_4 hw0_5 hw0_6 hw0_8 hw0_12 hw0_13 hw0_14 gw0_14 hw0_15 gw0_15 hw0_17 gw0_17 hw0_20 hw0_23 gw0_23 hw0_25 hw0_36 hw0_47 hw0_48 hw0_53 hw0_55 hfc0 hl hmz0
      exact ms0 hw0_3 hmz0
    | succ k0 ih0 =>
      intro f_0 H locs w0_0 w0_2 w0_3 w0_4 w0_5 w0_6 w0_8 w0_9 w0_12 w0_13 w0_14 w0_15 w0_16 w0_17 w0_18 w0_19 w0_20 w0_21 w0_22 w0_23 w0_25 w0_36 w0_37 w0_38 w0_39 w0_40 w0_45 w0_46 w0_47 w0_48 w0_50 w0_51 w0_53 w0_55 ls hP hD hS hT hfr hw0_0 hw0_2 hw0_3 hw0_4 hw0_5 hw0_6 hw0_8 hw0_12 hw0_13 hw0_14 gw0_14 hw0_15 gw0_15 hw0_17 gw0_17 hw0_20 hw0_23 gw0_23 hw0_25 hw0_36 hw0_47 hw0_48 hw0_53 hw0_55 hfc0 hl hmz0
      refine lv_aload_n hx hb dX11_look_0 rfl (lv_at hl 0 rfl) ?_
      refine call_i (run_V (rm := rm_X11_here) hx hb hml hown hts (s_X11_here l g ad th _ _ _  hst hT ) cV_X11_here wg_1533 ⟨Nat.le_of_ble_eq_true rfl, Nat.le_of_ble_eq_true rfl⟩ hG hE hA hP hD hS (hst.1 255 (by decide)) hfc0 rfl rfl hl.1 (As := []) (rest := []) rfl (Nat.le_of_ble_eq_true rfl) dX11_look_1 ⟨Nat.le_of_ble_eq_true rfl, Nat.le_of_ble_eq_true rfl⟩) hA hD hS (fun r1 L2 f3 H locs hp4 hP hD hS => ?_)
      obtain ⟨eL5L, eL5T, eL5R, eL5X0⟩ := hp4
      have eL5L : L2 = L := eL5L
      have eL5T : f3 = f_0 := eL5T
      rw [eL5L, eL5T] at hP hD
      have eL5R : In r1 (-1) 255 := eL5R
      have hh6 : r1.toInt = -1 ∨ w0_3.toInt < w0_2.toInt := eL5X0 _ _ ⟨_, hfc0, rfl⟩ ⟨_, hfc0, rfl⟩
      refine lv_bipush (v := 32) hx hb dX11_look_4 (by decide) ?_
      refine lv_icmp_ne (tgt := 22) hx hb dX11_look_6 (by decide) (fun c7 => ?_) (fun c7 => ?_)
      ·
        have cc8 : r1.toInt ≠ (32 : Int32).toInt := i32_ne c7
        refine lv_aload_n hx hb dX11_look_22 rfl (lv_at hl 0 rfl) ?_
        refine call_i (run_V (rm := rm_X11_here) hx hb hml hown hts (s_X11_here l g ad th _ _ _  hst hT ) cV_X11_here wg_1533 ⟨Nat.le_of_ble_eq_true rfl, Nat.le_of_ble_eq_true rfl⟩ hG hE hA hP hD hS (hst.1 255 (by decide)) hfc0 rfl rfl hl.1 (As := []) (rest := []) rfl (Nat.le_of_ble_eq_true rfl) dX11_look_23 ⟨Nat.le_of_ble_eq_true rfl, Nat.le_of_ble_eq_true rfl⟩) hA hD hS (fun r9 L10 f11 H locs hp12 hP hD hS => ?_)
        obtain ⟨eL13L, eL13T, eL13R, eL13X0⟩ := hp12
        have eL13L : L10 = L := eL13L
        have eL13T : f11 = f_0 := eL13T
        rw [eL13L, eL13T] at hP hD
        have eL13R : In r9 (-1) 255 := eL13R
        have hh14 : r9.toInt = -1 ∨ w0_3.toInt < w0_2.toInt := eL13X0 _ _ ⟨_, hfc0, rfl⟩ ⟨_, hfc0, rfl⟩
        exact ret_i (ty := .int) hx hb hr hlocks (rfl) hP hD hS (Nat.le_of_ble_eq_true rfl) (Nat.le_of_ble_eq_true rfl) (⟨rfl, hT, hfr, eL13R⟩) dX11_look_26
      ·
        have cc15 : r1.toInt = (32 : Int32).toInt := congrArg Int32.toInt c7
        have hb16 : In r1 32 32 := In.eq1 eL5R (⟨by decide, by decide⟩ : In 32 32 32) cc15 (by omega) (by omega)
        refine lv_aload_n hx hb dX11_look_9 rfl (lv_at hl 0 rfl) ?_
        refine lv_dup hx hb dX11_look_10 rfl ?_
        refine pl_get (v := .int w0_3) hx hb hts (fun w h => mT (inX11 w h)) hown hG.1 hP (hst.1 255 (by decide)) hfc0 rfl 3 (by decide) (hts _ (mT wg_1339)) (fun _ h => h) rfl dX11_look_11 ?_
        refine lv_iconst (v := 1) hx hb dX11_look_14 (by decide) ?_
        refine lv_iadd hx hb dX11_look_15 ?_
        refine lv_topi (fun x17 ex17 => ?_)
        have hb18 : In x17 1 501 := ex17 ▸ In.add hw0_3 (⟨by decide, by decide⟩ : In 1 1 1) (by decide) (by decide) (by decide) (by decide)
        have et19 : x17.toInt = w0_3.toInt + 1 := In.adde ex17 hw0_3 (k := 1) (by decide) (by decide) (by decide)
        refine pl_put (ty := .int) (v := .int x17) (fs' := [.int w0_0, .ref (ad 256), .int w0_2, .int x17, .int w0_4, .int w0_5, .int w0_6, .ref (ad 257), .int w0_8, .int w0_9, .ref (ad 258), .ref (ad 259), .int w0_12, .int w0_13, .int w0_14, .int w0_15, .int w0_16, .int w0_17, .int w0_18, .int w0_19, .int w0_20, .long w0_21, .long w0_22, .int w0_23, .ref (ad 260), .int w0_25, .ref (ad 261), .ref (ad 262), .ref (ad 263), .ref (ad 264), .ref (ad 265), .ref (ad 266), .ref (ad 267), .ref (ad 268), .ref (ad 269), .ref (ad 270), .int w0_36, .int w0_37, .int w0_38, .int w0_39, .int w0_40, .ref (ad 271), .ref (ad 272), .ref (ad 273), .ref (ad 274), .long w0_45, .long w0_46, .int w0_47, .int w0_48, .ref (ad 275), .int w0_50, .int w0_51, .ref (ad 276), .int w0_53, .ref (ad 277), .int w0_55]) hx hb hts (fun w h => mT (inX11 w h)) tyX11 tyX11_ok nmX11 hown hG.1 hP hD hS (hst.1 255 (by decide)) hfc0 rfl 3 (by decide) (hts _ (mT wg_1339)) (fun _ h => h) rfl (by decide +kernel) (rfl) (rfl) (Nat.le_of_ble_eq_true rfl) rfl dX11_look_16 (fun H locs f20 hf21 ho22 hP hD hS => ?_)
        have hfr : (∀ b, b ≠ (ad 255) → f20 b = f b) := fun b z0_ => (ho22 b z0_).trans (hfr b z0_)
        have hT := TI.updM hT hst (k := 0) (by decide) hf21 ho22 ⟨w0_0, w0_2, x17, w0_4, w0_5, w0_6, w0_8, w0_9, w0_12, w0_13, w0_14, w0_15, w0_16, w0_17, w0_18, w0_19, w0_20, w0_21, w0_22, w0_23, w0_25, w0_36, w0_37, w0_38, w0_39, w0_40, w0_45, w0_46, w0_47, w0_48, w0_50, w0_51, w0_53, w0_55, rfl, hw0_0, hw0_2, (In.mk (by obtain ⟨o0a, o0b⟩ := (hb18 : In _ _ _); obtain ⟨o1a, o1b⟩ := (hw0_3 : In _ _ _); obtain ⟨o2a, o2b⟩ := (hb16 : In _ _ _); obtain ⟨o3a, o3b⟩ := (hw0_2 : In _ _ _); omega) (by obtain ⟨o0a, o0b⟩ := (hb18 : In _ _ _); obtain ⟨o1a, o1b⟩ := (hw0_3 : In _ _ _); obtain ⟨o2a, o2b⟩ := (hb16 : In _ _ _); obtain ⟨o3a, o3b⟩ := (hw0_2 : In _ _ _); omega)), hw0_4, hw0_5, hw0_6, hw0_8, hw0_12, hw0_13, hw0_14, gw0_14, hw0_15, gw0_15, hw0_17, gw0_17, hw0_20, hw0_23, gw0_23, hw0_25, hw0_36, hw0_47, hw0_48, hw0_53, hw0_55⟩
        refine lv_goto (tgt := 0) hx hb dX11_look_19 (by decide) ?_
        exact ih0 _ _ _ w0_0 w0_2 x17 w0_4 w0_5 w0_6 w0_8 w0_9 w0_12 w0_13 w0_14 w0_15 w0_16 w0_17 w0_18 w0_19 w0_20 w0_21 w0_22 w0_23 w0_25 w0_36 w0_37 w0_38 w0_39 w0_40 w0_45 w0_46 w0_47 w0_48 w0_50 w0_51 w0_53 w0_55 _ hP hD hS hT hfr hw0_0 hw0_2 (In.mk (by obtain ⟨o0a, o0b⟩ := (hb18 : In _ _ _); obtain ⟨o1a, o1b⟩ := (hw0_3 : In _ _ _); obtain ⟨o2a, o2b⟩ := (hb16 : In _ _ _); obtain ⟨o3a, o3b⟩ := (hw0_2 : In _ _ _); omega) (by obtain ⟨o0a, o0b⟩ := (hb18 : In _ _ _); obtain ⟨o1a, o1b⟩ := (hw0_3 : In _ _ _); obtain ⟨o2a, o2b⟩ := (hb16 : In _ _ _); obtain ⟨o3a, o3b⟩ := (hw0_2 : In _ _ _); omega)) hw0_4 hw0_5 hw0_6 hw0_8 hw0_12 hw0_13 hw0_14 gw0_14 hw0_15 gw0_15 hw0_17 gw0_17 hw0_20 hw0_23 gw0_23 hw0_25 hw0_36 hw0_47 hw0_48 hw0_53 hw0_55 hf21 (lv_sub hl [0] rfl) (msu et19 (by decide) hmz0)
  obtain ⟨v0_23, v2_23, v3_23, v4_23, v5_23, v6_23, v8_23, v9_23, v12_23, v13_23, v14_23, v15_23, v16_23, v17_23, v18_23, v19_23, v20_23, v21_23, v22_23, v23_23, v25_23, v36_23, v37_23, v38_23, v39_23, v40_23, v45_23, v46_23, v47_23, v48_23, v50_23, v51_23, v53_23, v55_23, hf24, hv0_23, hv2_23, hv3_23, hv4_23, hv5_23, hv6_23, hv8_23, hv12_23, hv13_23, hv14_23, hg14_23, hv15_23, hg15_23, hv17_23, hg17_23, hv20_23, hv23_23, hg23_23, hv25_23, hv36_23, hv47_23, hv48_23, hv53_23, hv55_23⟩ := hT.2.2 0 (by decide)
  exact hJ0 ((500 - v3_23.toInt).toNat + 1) _ _ _ v0_23 v2_23 v3_23 v4_23 v5_23 v6_23 v8_23 v9_23 v12_23 v13_23 v14_23 v15_23 v16_23 v17_23 v18_23 v19_23 v20_23 v21_23 v22_23 v23_23 v25_23 v36_23 v37_23 v38_23 v39_23 v40_23 v45_23 v46_23 v47_23 v48_23 v50_23 v51_23 v53_23 v55_23 _ hP hD hS hT hfr hv0_23 hv2_23 hv3_23 hv4_23 hv5_23 hv6_23 hv8_23 hv12_23 hv13_23 hv14_23 hg14_23 hv15_23 hg15_23 hv17_23 hg17_23 hv20_23 hv23_23 hg23_23 hv25_23 hv36_23 hv47_23 hv48_23 hv53_23 hv55_23 hf24 (lv_sub hl [0] rfl) (msI _)

abbrev rm_X11_fails : Room := { frames := 0, cells := 0, slots := 0, locals := 0 }
abbrev po_X11_fails (g : GG) (ad : Nat → Nat) (th : Nat → Int) (L : List Nat) (f : HP) (z1 : Int32) : (List Nat × HP) → Prop := fun u => u.1 = L ∧ TI g ad th u.2 ∧ (∀ b, b ≠ (ad 255) → u.2 b = f b)
set_option maxHeartbeats 4000000 in
set_option maxRecDepth 100000 in
theorem s_X11_fails (l : Launch) (g : GG) (ad : Nat → Nat) (th : Nat → Int) (L : List Nat) (f : HP) (sz : Nat) (z1 : Int32) (hst : ST ad L) (hT : TI g ad th f) (hz1 : In z1 0 500) : MtV l g yX11_fails cX11_fails 2 rm_X11_fails [.ref (ad 255), .int z1] L f sz (po_X11_fails g ad th L f z1) := by
  refine MtV.of (by decide +kernel) (Nat.le_of_ble_eq_true rfl) ?_
  intro p e s m below meth c A hEn hP hD hS ls hl
  obtain ⟨hx, hb, hr, hml, hown, hlocks, hts, hG, hA, hE, hnm⟩ := hEn
  have hown : s.vm.findClass "RulerWordModel" = some m.cls := hown
  have hl : lv_has ls 2 [(0, .ref (ad 255)), (1, .int z1)] := hl
  have hfr : (∀ b, b ≠ (ad 255) → f b = f b) := fun b z0_ => rfl
  refine lv_aload_n hx hb dX11_fails_0 rfl (lv_at hl 0 rfl) ?_
  obtain ⟨v0_1, v2_1, v3_1, v4_1, v5_1, v6_1, v8_1, v9_1, v12_1, v13_1, v14_1, v15_1, v16_1, v17_1, v18_1, v19_1, v20_1, v21_1, v22_1, v23_1, v25_1, v36_1, v37_1, v38_1, v39_1, v40_1, v45_1, v46_1, v47_1, v48_1, v50_1, v51_1, v53_1, v55_1, hf2, hv0_1, hv2_1, hv3_1, hv4_1, hv5_1, hv6_1, hv8_1, hv12_1, hv13_1, hv14_1, hg14_1, hv15_1, hg15_1, hv17_1, hg17_1, hv20_1, hv23_1, hg23_1, hv25_1, hv36_1, hv47_1, hv48_1, hv53_1, hv55_1⟩ := hT.2.2 0 (by decide)
  refine pl_get (v := .int v4_1) hx hb hts (fun w h => mT (inX11 w h)) hown hG.1 hP (hst.1 255 (by decide)) hf2 rfl 4 (by decide) (hts _ (mT wg_1340)) (fun _ h => h) rfl dX11_fails_1 ?_
  refine lv_iconst (v := (-1)) hx hb dX11_fails_4 (by decide) ?_
  refine lv_icmp_ne (tgt := 13) hx hb dX11_fails_5 (by decide) (fun c3 => ?_) (fun c3 => ?_)
  ·
    have cc4 : v4_1.toInt ≠ ((-1) : Int32).toInt := i32_ne c3
    have hb5 : In v4_1 0 500 := In.ne1 hv4_1 (⟨by decide, by decide⟩ : In (-1) (-1) (-1)) cc4 (by omega) (by omega)
    exact ret_v hx hb hr hlocks hP hD hS (Nat.le_of_ble_eq_true rfl) (Nat.le_of_ble_eq_true rfl) (⟨rfl, hT, hfr⟩) dX11_fails_13
  ·
    have cc6 : v4_1.toInt = ((-1) : Int32).toInt := congrArg Int32.toInt c3
    have hb7 : In v4_1 (-1) (-1) := In.eq1 hv4_1 (⟨by decide, by decide⟩ : In (-1) (-1) (-1)) cc6 (by omega) (by omega)
    refine lv_aload_n hx hb dX11_fails_8 rfl (lv_at hl 0 rfl) ?_
    refine lv_iload_n hx hb dX11_fails_9 rfl (lv_at hl 1 rfl) ?_
    refine pl_put (ty := .int) (v := .int z1) (fs' := [.int v0_1, .ref (ad 256), .int v2_1, .int v3_1, .int z1, .int v5_1, .int v6_1, .ref (ad 257), .int v8_1, .int v9_1, .ref (ad 258), .ref (ad 259), .int v12_1, .int v13_1, .int v14_1, .int v15_1, .int v16_1, .int v17_1, .int v18_1, .int v19_1, .int v20_1, .long v21_1, .long v22_1, .int v23_1, .ref (ad 260), .int v25_1, .ref (ad 261), .ref (ad 262), .ref (ad 263), .ref (ad 264), .ref (ad 265), .ref (ad 266), .ref (ad 267), .ref (ad 268), .ref (ad 269), .ref (ad 270), .int v36_1, .int v37_1, .int v38_1, .int v39_1, .int v40_1, .ref (ad 271), .ref (ad 272), .ref (ad 273), .ref (ad 274), .long v45_1, .long v46_1, .int v47_1, .int v48_1, .ref (ad 275), .int v50_1, .int v51_1, .ref (ad 276), .int v53_1, .ref (ad 277), .int v55_1]) hx hb hts (fun w h => mT (inX11 w h)) tyX11 tyX11_ok nmX11 hown hG.1 hP hD hS (hst.1 255 (by decide)) hf2 rfl 4 (by decide) (hts _ (mT wg_1340)) (fun _ h => h) rfl (by decide +kernel) (rfl) (rfl) (Nat.le_of_ble_eq_true rfl) rfl dX11_fails_10 (fun H locs f8 hf9 ho10 hP hD hS => ?_)
    have hfr : (∀ b, b ≠ (ad 255) → f8 b = f b) := fun b z0_ => (ho10 b z0_).trans (hfr b z0_)
    have hT := TI.updM hT hst (k := 0) (by decide) hf9 ho10 ⟨v0_1, v2_1, v3_1, z1, v5_1, v6_1, v8_1, v9_1, v12_1, v13_1, v14_1, v15_1, v16_1, v17_1, v18_1, v19_1, v20_1, v21_1, v22_1, v23_1, v25_1, v36_1, v37_1, v38_1, v39_1, v40_1, v45_1, v46_1, v47_1, v48_1, v50_1, v51_1, v53_1, v55_1, rfl, hv0_1, hv2_1, hv3_1, (In.mono hz1 (by decide) (by decide)), hv5_1, hv6_1, hv8_1, hv12_1, hv13_1, hv14_1, hg14_1, hv15_1, hg15_1, hv17_1, hg17_1, hv20_1, hv23_1, hg23_1, hv25_1, hv36_1, hv47_1, hv48_1, hv53_1, hv55_1⟩
    exact ret_v hx hb hr hlocks hP hD hS (Nat.le_of_ble_eq_true rfl) (Nat.le_of_ble_eq_true rfl) (⟨rfl, hT, hfr⟩) dX11_fails_13

abbrev rm_X11_isDigit : Room := { frames := 0, cells := 0, slots := 0, locals := 0 }
abbrev po_X11_isDigit (g : GG) (ad : Nat → Nat) (th : Nat → Int) (L : List Nat) (f : HP) (z0 : Int32) : Int32 → (List Nat × HP) → Prop := fun r u => u.1 = L ∧ u.2 = f ∧ In r 0 1
set_option maxHeartbeats 4000000 in
set_option maxRecDepth 100000 in
theorem s_X11_isDigit (l : Launch) (g : GG) (ad : Nat → Nat) (th : Nat → Int) (L : List Nat) (f : HP) (sz : Nat) (z0 : Int32) (hst : ST ad L) (hT : TI g ad th f)  : MtI l g yX11_isDigit cX11_isDigit 1 (some .boolean) rm_X11_isDigit [.int z0] L f sz (po_X11_isDigit g ad th L f z0) := by
  refine MtI.of (by decide +kernel) (Nat.le_of_ble_eq_true rfl) ?_
  intro p e s m below meth c A hEn hP hD hS ls hl
  obtain ⟨hx, hb, hr, hml, hown, hlocks, hts, hG, hA, hE, hnm⟩ := hEn
  have hown : s.vm.findClass "RulerWordModel" = some m.cls := hown
  have hl : lv_has ls 1 [(0, .int z0)] := hl
  refine lv_iload_n hx hb dX11_isDigit_0 rfl (lv_at hl 0 rfl) ?_
  refine lv_bipush (v := 48) hx hb dX11_isDigit_1 (by decide) ?_
  have hJ16 : ∀ (H : Heap) (locs : List Loc) (ls : Array Slot), va_P g.1 vwCl (va_pl L f) H → va_D A (va_pl L f) → va_S A s.heap H locs → lv_has ls 1 [(0, .int z0)] → W p l e rm_X11_isDigit s m [.int z0].toArray below meth c H locs 0 0 (MQ below (va_Qi (po_X11_isDigit g ad th L f z0) (PstB g A) A) [.int z0].toArray s rm_X11_isDigit.cells rm_X11_isDigit.slots A) (F0 m 16 ls []) := by
    intro H locs ls hP hD hS hl
    refine lv_iconst (v := 0) hx hb dX11_isDigit_16 (by decide) ?_
    exact ret_i (ty := .boolean) hx hb hr hlocks (rfl) hP hD hS (Nat.le_of_ble_eq_true rfl) (Nat.le_of_ble_eq_true rfl) (⟨rfl, rfl, (⟨by decide, by decide⟩ : In 0 0 1)⟩) dX11_isDigit_17
  refine lv_icmp_lt (tgt := 16) hx hb dX11_isDigit_3 (by decide) (fun c1 => ?_) (fun c1 => ?_)
  ·
    have cc2 : z0.toInt < (48 : Int32).toInt := i32_lt.mp c1
    have hb3 : In z0 (-2147483648) 47 := In.lt1 (In.full z0) (⟨by decide, by decide⟩ : In 48 48 48) cc2 (by omega) (by omega)
    exact hJ16 _ _ _ hP hD hS (lv_sub hl [0] rfl)
  ·
    have cc4 : (48 : Int32).toInt ≤ z0.toInt := i32_nlt c1
    have hb5 : In z0 48 2147483647 := In.ge1 (In.full z0) (⟨by decide, by decide⟩ : In 48 48 48) cc4 (by omega) (by omega)
    refine lv_iload_n hx hb dX11_isDigit_6 rfl (lv_at hl 0 rfl) ?_
    refine lv_bipush (v := 57) hx hb dX11_isDigit_7 (by decide) ?_
    refine lv_icmp_gt (tgt := 16) hx hb dX11_isDigit_9 (by decide) (fun c6 => ?_) (fun c6 => ?_)
    ·
      have cc7 : (57 : Int32).toInt < z0.toInt := i32_lt.mp c6
      have hb8 : In z0 58 2147483647 := In.gt1 hb5 (⟨by decide, by decide⟩ : In 57 57 57) cc7 (by omega) (by omega)
      exact hJ16 _ _ _ hP hD hS (lv_sub hl [0] rfl)
    ·
      have cc9 : z0.toInt ≤ (57 : Int32).toInt := i32_nlt c6
      have hb10 : In z0 48 57 := In.le1 hb5 (⟨by decide, by decide⟩ : In 57 57 57) cc9 (by omega) (by omega)
      refine lv_iconst (v := 1) hx hb dX11_isDigit_12 (by decide) ?_
      refine lv_goto (tgt := 17) hx hb dX11_isDigit_13 (by decide) ?_
      exact ret_i (ty := .boolean) hx hb hr hlocks (rfl) hP hD hS (Nat.le_of_ble_eq_true rfl) (Nat.le_of_ble_eq_true rfl) (⟨rfl, rfl, (⟨by decide, by decide⟩ : In 1 0 1)⟩) dX11_isDigit_17

abbrev rm_X11_takes : Room := { frames := 4, cells := 0, slots := 0, locals := 85 }
abbrev po_X11_takes (g : GG) (ad : Nat → Nat) (th : Nat → Int) (L : List Nat) (f : HP) (z1 : Nat) : Int32 → (List Nat × HP) → Prop := fun r u => u.1 = L ∧ TI g ad th u.2 ∧ (∀ b, b ≠ (ad 255) → u.2 b = f b) ∧ In r 0 1
set_option maxHeartbeats 4000000 in
set_option maxRecDepth 100000 in
theorem s_X11_takes (l : Launch) (g : GG) (ad : Nat → Nat) (th : Nat → Int) (L : List Nat) (f : HP) (sz : Nat) (z1 : Nat) (hst : ST ad L) (hT : TI g ad th f) (hi_z1 : z1 < nS) : MtI l g yX11_takes cX11_takes 4 (some .boolean) rm_X11_takes [.ref (ad 255), .ref (g.2.2.1 z1)] L f sz (po_X11_takes g ad th L f z1) := by
  refine MtI.of (by decide +kernel) (Nat.le_of_ble_eq_true rfl) ?_
  intro p e s m below meth c A hEn hP hD hS ls hl
  obtain ⟨hx, hb, hr, hml, hown, hlocks, hts, hG, hA, hE, hnm⟩ := hEn
  have hown : s.vm.findClass "RulerWordModel" = some m.cls := hown
  have hl : lv_has ls 4 [(0, .ref (ad 255)), (1, .ref (g.2.2.1 z1))] := hl
  have hfr : (∀ b, b ≠ (ad 255) → f b = f b) := fun b z0_ => rfl
  refine lv_aload_n hx hb dX11_takes_0 rfl (lv_at hl 0 rfl) ?_
  obtain ⟨v0_1, v2_1, v3_1, v4_1, v5_1, v6_1, v8_1, v9_1, v12_1, v13_1, v14_1, v15_1, v16_1, v17_1, v18_1, v19_1, v20_1, v21_1, v22_1, v23_1, v25_1, v36_1, v37_1, v38_1, v39_1, v40_1, v45_1, v46_1, v47_1, v48_1, v50_1, v51_1, v53_1, v55_1, hf2, hv0_1, hv2_1, hv3_1, hv4_1, hv5_1, hv6_1, hv8_1, hv12_1, hv13_1, hv14_1, hg14_1, hv15_1, hg15_1, hv17_1, hg17_1, hv20_1, hv23_1, hg23_1, hv25_1, hv36_1, hv47_1, hv48_1, hv53_1, hv55_1⟩ := hT.2.2 0 (by decide)
  refine call_i (run_V (rm := rm_X11_look) hx hb hml hown hts (s_X11_look l g ad th _ _ _  hst hT ) cV_X11_look wg_1529 ⟨Nat.le_of_ble_eq_true rfl, Nat.le_of_ble_eq_true rfl⟩ hG hE hA hP hD hS (hst.1 255 (by decide)) hf2 rfl rfl hl.1 (As := []) (rest := []) rfl (Nat.le_of_ble_eq_true rfl) dX11_takes_1 ⟨Nat.le_of_ble_eq_true rfl, Nat.le_of_ble_eq_true rfl⟩) hA hD hS (fun r3 L4 f5 H locs hp6 hP hD hS => ?_)
  obtain ⟨eL7L, eL7T, eL7F, eL7R⟩ := hp6
  have eL7L : L4 = L := eL7L
  rw [eL7L] at hP hD
  have hT : TI g ad th f5 := eL7T
  have eL7F : ∀ b, b ≠ (ad 255) → f5 b = f b := eL7F
  have hfr : (∀ b, b ≠ (ad 255) → f5 b = f b) := fun b z0_ => (eL7F b z0_).trans (hfr b z0_)
  have eL7R : In r3 (-1) 255 := eL7R
  refine lv_istore_n (lv' := [(2, .int r3), (0, .ref (ad 255)), (1, .ref (g.2.2.1 z1))]) hx hb dX11_takes_4 rfl hl (by decide) rfl (fun ls hl => ?_)
  refine lv_iconst (v := 0) hx hb dX11_takes_5 (by decide) ?_
  refine lv_istore_n (lv' := [(3, .int 0), (2, .int r3), (0, .ref (ad 255)), (1, .ref (g.2.2.1 z1))]) hx hb dX11_takes_6 rfl hl (by decide) rfl (fun ls hl => ?_)
  have hJ7 : ∀ (k7 : Nat) (y7_l3 : Int32) (H : Heap) (locs : List Loc) (ls : Array Slot), In y7_l3 0 7 → va_P g.1 vwCl (va_pl L f5) H → va_D A (va_pl L f5) → va_S A s.heap H locs → lv_has ls 4 [(0, .ref (ad 255)), (1, .ref (g.2.2.1 z1)), (2, .int r3), (3, .int y7_l3)] → 7 - y7_l3.toInt < ((k7 : Nat) : Int) → W p l e rm_X11_takes s m [.ref (ad 255), .ref (g.2.2.1 z1)].toArray below meth c H locs 0 0 (MQ below (va_Qi (po_X11_takes g ad th L f z1) (PstB g A) A) [.ref (ad 255), .ref (g.2.2.1 z1)].toArray s rm_X11_takes.cells rm_X11_takes.slots A) (F0 m 7 ls []) := by
    intro k7
    induction k7 with
    | zero =>
      intro y7_l3 H locs ls hy7_l3 hP hD hS hl hmz7
      exact ms0 hy7_l3 hmz7
    | succ k7 ih7 =>
      intro y7_l3 H locs ls hy7_l3 hP hD hS hl hmz7
      refine lv_iload_n hx hb dX11_takes_7 rfl (lv_at hl 3 rfl) ?_
      refine lv_aload_n hx hb dX11_takes_8 rfl (lv_at hl 1 rfl) ?_
      refine call_i (run_VJ (rm := rm_J0_length) hx hb hml hown hts (i := z1) (hi_z1) (s_J0_length l g _ _ _ z1  hi_z1) cV_J0_length_8abf5 wg_1542 rfl ⟨Nat.le_of_ble_eq_true rfl, Nat.le_of_ble_eq_true rfl⟩ hG hE hA hP hD hS rfl hl.1 (As := []) (rest := [.int y7_l3]) rfl (Nat.le_of_ble_eq_true rfl) dX11_takes_9 ⟨Nat.le_of_ble_eq_true rfl, Nat.le_of_ble_eq_true rfl⟩) hA hD hS (fun r8 L9 f10 H locs hp11 hP hD hS => ?_)
      have eL12 : L9 = L := hp11.1
      have eL12f : f10 = f5 := hp11.2.1
      rw [eL12, eL12f] at hP hD
      have hb13 : In r8 0 7 := hp11.2.2.1
      have hle14 : r8.toInt = ((lenS.getD z1 0 : Nat) : Int) := hp11.2.2.2
      refine lv_icmp_ge (tgt := 55) hx hb dX11_takes_12 (by decide) (fun c15 => ?_) (fun c15 => ?_)
      ·
        have cc16 : r8.toInt ≤ y7_l3.toInt := i32_le.mp c15
        refine lv_aload_n hx hb dX11_takes_55 rfl (lv_at hl 0 rfl) ?_
        obtain ⟨v0_17, v2_17, v3_17, v4_17, v5_17, v6_17, v8_17, v9_17, v12_17, v13_17, v14_17, v15_17, v16_17, v17_17, v18_17, v19_17, v20_17, v21_17, v22_17, v23_17, v25_17, v36_17, v37_17, v38_17, v39_17, v40_17, v45_17, v46_17, v47_17, v48_17, v50_17, v51_17, v53_17, v55_17, hf18, hv0_17, hv2_17, hv3_17, hv4_17, hv5_17, hv6_17, hv8_17, hv12_17, hv13_17, hv14_17, hg14_17, hv15_17, hg15_17, hv17_17, hg17_17, hv20_17, hv23_17, hg23_17, hv25_17, hv36_17, hv47_17, hv48_17, hv53_17, hv55_17⟩ := hT.2.2 0 (by decide)
        refine pl_get (v := .int v3_17) hx hb hts (fun w h => mT (inX11 w h)) hown hG.1 hP (hst.1 255 (by decide)) hf18 rfl 3 (by decide) (hts _ (mT wg_1339)) (fun _ h => h) rfl dX11_takes_56 ?_
        refine lv_aload_n hx hb dX11_takes_59 rfl (lv_at hl 1 rfl) ?_
        refine call_i (run_VJ (rm := rm_J0_length) hx hb hml hown hts (i := z1) (hi_z1) (s_J0_length l g _ _ _ z1  hi_z1) cV_J0_length_8abf5 wg_1542 rfl ⟨Nat.le_of_ble_eq_true rfl, Nat.le_of_ble_eq_true rfl⟩ hG hE hA hP hD hS rfl hl.1 (As := []) (rest := [.int v3_17]) rfl (Nat.le_of_ble_eq_true rfl) dX11_takes_60 ⟨Nat.le_of_ble_eq_true rfl, Nat.le_of_ble_eq_true rfl⟩) hA hD hS (fun r19 L20 f21 H locs hp22 hP hD hS => ?_)
        have eL23 : L20 = L := hp22.1
        have eL23f : f21 = f5 := hp22.2.1
        rw [eL23, eL23f] at hP hD
        have hb24 : In r19 0 7 := hp22.2.2.1
        have hle25 : r19.toInt = ((lenS.getD z1 0 : Nat) : Int) := hp22.2.2.2
        refine lv_iadd hx hb dX11_takes_63 ?_
        refine lv_topi (fun x26 ex26 => ?_)
        have hb27 : In x26 0 507 := ex26 ▸ In.add hv3_17 hb24 (by decide) (by decide) (by decide) (by decide)
        have et28 : x26.toInt = v3_17.toInt + r19.toInt := In.add2e ex26 hv3_17 hb24 (by decide) (by decide)
        refine lv_istore_n (lv' := [(3, .int x26), (0, .ref (ad 255)), (1, .ref (g.2.2.1 z1)), (2, .int r3)]) hx hb dX11_takes_64 rfl hl (by decide) rfl (fun ls hl => ?_)
        refine lv_iload_n hx hb dX11_takes_65 rfl (lv_at hl 0 rfl) ?_
        refine lv_aload_n hx hb dX11_takes_66 rfl (lv_at hl 1 rfl) ?_
        refine pl_get (v := .int v2_17) hx hb hts (fun w h => mT (inX11 w h)) hown hG.1 hP (hst.1 255 (by decide)) hf18 rfl 2 (by decide) (hts _ (mT wg_1338)) (fun _ h => h) rfl dX11_takes_67 ?_
        have hJ97 : ∀ (H : Heap) (locs : List Loc) (ls : Array Slot), va_P g.1 vwCl (va_pl L f5) H → va_D A (va_pl L f5) → va_S A s.heap H locs → lv_has ls 4 [(0, .ref (ad 255)), (1, .ref (g.2.2.1 z1)), (2, .int r3), (3, .int x26)] → W p l e rm_X11_takes s m [.ref (ad 255), .ref (g.2.2.1 z1)].toArray below meth c H locs 0 0 (MQ below (va_Qi (po_X11_takes g ad th L f z1) (PstB g A) A) [.ref (ad 255), .ref (g.2.2.1 z1)].toArray s rm_X11_takes.cells rm_X11_takes.slots A) (F0 m 97 ls []) := by
          intro H locs ls hP hD hS hl
          refine lv_aload_n hx hb dX11_takes_97 rfl (lv_at hl 0 rfl) ?_
          refine lv_iload_n hx hb dX11_takes_98 rfl (lv_at hl 3 rfl) ?_
          refine pl_put (ty := .int) (v := .int x26) (fs' := [.int v0_17, .ref (ad 256), .int v2_17, .int x26, .int v4_17, .int v5_17, .int v6_17, .ref (ad 257), .int v8_17, .int v9_17, .ref (ad 258), .ref (ad 259), .int v12_17, .int v13_17, .int v14_17, .int v15_17, .int v16_17, .int v17_17, .int v18_17, .int v19_17, .int v20_17, .long v21_17, .long v22_17, .int v23_17, .ref (ad 260), .int v25_17, .ref (ad 261), .ref (ad 262), .ref (ad 263), .ref (ad 264), .ref (ad 265), .ref (ad 266), .ref (ad 267), .ref (ad 268), .ref (ad 269), .ref (ad 270), .int v36_17, .int v37_17, .int v38_17, .int v39_17, .int v40_17, .ref (ad 271), .ref (ad 272), .ref (ad 273), .ref (ad 274), .long v45_17, .long v46_17, .int v47_17, .int v48_17, .ref (ad 275), .int v50_17, .int v51_17, .ref (ad 276), .int v53_17, .ref (ad 277), .int v55_17]) hx hb hts (fun w h => mT (inX11 w h)) tyX11 tyX11_ok nmX11 hown hG.1 hP hD hS (hst.1 255 (by decide)) hf18 rfl 3 (by decide) (hts _ (mT wg_1339)) (fun _ h => h) rfl (by decide +kernel) (rfl) (rfl) (Nat.le_of_ble_eq_true rfl) rfl dX11_takes_99 (fun H locs f29 hf30 ho31 hP hD hS => ?_)
          have hfr : (∀ b, b ≠ (ad 255) → f29 b = f b) := fun b z0_ => (ho31 b z0_).trans (hfr b z0_)
          refine lv_iconst (v := 1) hx hb dX11_takes_102 (by decide) ?_
          have hT := TI.updM hT hst (k := 0) (by decide) hf30 ho31 ⟨v0_17, v2_17, x26, v4_17, v5_17, v6_17, v8_17, v9_17, v12_17, v13_17, v14_17, v15_17, v16_17, v17_17, v18_17, v19_17, v20_17, v21_17, v22_17, v23_17, v25_17, v36_17, v37_17, v38_17, v39_17, v40_17, v45_17, v46_17, v47_17, v48_17, v50_17, v51_17, v53_17, v55_17, rfl, hv0_17, hv2_17, (In.mk (by obtain ⟨o0a, o0b⟩ := (hb27 : In _ _ _); obtain ⟨o1a, o1b⟩ := (hv3_17 : In _ _ _); obtain ⟨o2a, o2b⟩ := (hb24 : In _ _ _); obtain ⟨o3a, o3b⟩ := (hb13 : In _ _ _); obtain ⟨o4a, o4b⟩ := (hy7_l3 : In _ _ _); omega) (by obtain ⟨o0a, o0b⟩ := (hb27 : In _ _ _); obtain ⟨o1a, o1b⟩ := (hv3_17 : In _ _ _); obtain ⟨o2a, o2b⟩ := (hb24 : In _ _ _); obtain ⟨o3a, o3b⟩ := (hb13 : In _ _ _); obtain ⟨o4a, o4b⟩ := (hy7_l3 : In _ _ _); omega)), hv4_17, hv5_17, hv6_17, hv8_17, hv12_17, hv13_17, hv14_17, hg14_17, hv15_17, hg15_17, hv17_17, hg17_17, hv20_17, hv23_17, hg23_17, hv25_17, hv36_17, hv47_17, hv48_17, hv53_17, hv55_17⟩
          exact ret_i (ty := .boolean) hx hb hr hlocks (rfl) hP hD hS (Nat.le_of_ble_eq_true rfl) (Nat.le_of_ble_eq_true rfl) (⟨rfl, hT, hfr, (⟨by decide, by decide⟩ : In 1 0 1)⟩) dX11_takes_103
        refine lv_icmp_ge (tgt := 97) hx hb dX11_takes_70 (by decide) (fun c32 => ?_) (fun c32 => ?_)
        ·
          have cc33 : v2_17.toInt ≤ x26.toInt := i32_le.mp c32
          exact hJ97 _ _ _ hP hD hS (lv_sub hl [1, 2, 3, 0] rfl)
        ·
          have cc34 : x26.toInt < v2_17.toInt := i32_nle c32
          have hb35 : In x26 0 499 := In.lt1 hb27 hv2_17 cc34 (by omega) (by omega)
          have hb36 : In v2_17 1 500 := In.lt2 hb27 hv2_17 cc34 (by omega) (by omega)
          refine lv_aload_n hx hb dX11_takes_73 rfl (lv_at hl 1 rfl) ?_
          refine pl_get (v := .ref (ad 256)) hx hb hts (fun w h => mT (inX11 w h)) hown hG.1 hP (hst.1 255 (by decide)) hf18 rfl 1 (by decide) (hts _ (mT wg_1337)) (fun _ h => h) rfl dX11_takes_74 ?_
          refine lv_iload_n hx hb dX11_takes_77 rfl (lv_at hl 0 rfl) ?_
          obtain ⟨rw37, hf38⟩ := hT.2.2 1 (by decide)
          have hin39 : vp_in x26 500 := In.inb hb35 (by decide) (by decide)
          refine pl_bald hx hb hG.1 hP (hst.1 256 (by decide)) 2 hf38 rfl hin39 dX11_takes_78 ?_
          refine lv_topi (fun x40 ex40 => ?_)
          refine lv_bipush (v := 97) hx hb dX11_takes_79 (by decide) ?_
          refine lv_icmp_lt (tgt := 97) hx hb dX11_takes_81 (by decide) (fun c41 => ?_) (fun c41 => ?_)
          ·
            have cc42 : x40.toInt < (97 : Int32).toInt := i32_lt.mp c41
            have hb43 : In x40 (-2147483648) 96 := In.lt1 (In.full x40) (⟨by decide, by decide⟩ : In 97 97 97) cc42 (by omega) (by omega)
            exact hJ97 _ _ _ hP hD hS (lv_sub hl [1, 2, 3, 0] rfl)
          ·
            have cc44 : (97 : Int32).toInt ≤ x40.toInt := i32_nlt c41
            have hb45 : In x40 97 2147483647 := In.ge1 (In.full x40) (⟨by decide, by decide⟩ : In 97 97 97) cc44 (by omega) (by omega)
            refine lv_aload_n hx hb dX11_takes_84 rfl (lv_at hl 1 rfl) ?_
            refine pl_get (v := .ref (ad 256)) hx hb hts (fun w h => mT (inX11 w h)) hown hG.1 hP (hst.1 255 (by decide)) hf18 rfl 1 (by decide) (hts _ (mT wg_1337)) (fun _ h => h) rfl dX11_takes_85 ?_
            refine lv_iload_n hx hb dX11_takes_88 rfl (lv_at hl 0 rfl) ?_
            have hin46 : vp_in x26 500 := In.inb hb35 (by decide) (by decide)
            refine pl_bald hx hb hG.1 hP (hst.1 256 (by decide)) 2 hf38 rfl hin46 dX11_takes_89 ?_
            refine lv_topi (fun x47 ex47 => ?_)
            obtain rfl : x40 = x47 := ex40.trans ex47.symm
            refine lv_bipush (v := 122) hx hb dX11_takes_90 (by decide) ?_
            refine lv_icmp_gt (tgt := 97) hx hb dX11_takes_92 (by decide) (fun c48 => ?_) (fun c48 => ?_)
            ·
              have cc49 : (122 : Int32).toInt < x40.toInt := i32_lt.mp c48
              have hb50 : In x40 123 2147483647 := In.gt1 hb45 (⟨by decide, by decide⟩ : In 122 122 122) cc49 (by omega) (by omega)
              exact hJ97 _ _ _ hP hD hS (lv_sub hl [1, 2, 3, 0] rfl)
            ·
              have cc51 : x40.toInt ≤ (122 : Int32).toInt := i32_nlt c48
              have hb52 : In x40 97 122 := In.le1 hb45 (⟨by decide, by decide⟩ : In 122 122 122) cc51 (by omega) (by omega)
              refine lv_iconst (v := 0) hx hb dX11_takes_95 (by decide) ?_
              exact ret_i (ty := .boolean) hx hb hr hlocks (rfl) hP hD hS (Nat.le_of_ble_eq_true rfl) (Nat.le_of_ble_eq_true rfl) (⟨rfl, hT, hfr, (⟨by decide, by decide⟩ : In 0 0 1)⟩) dX11_takes_96
      ·
        have cc53 : y7_l3.toInt < r8.toInt := i32_nle c15
        have hb54 : In y7_l3 0 6 := In.lt1 hy7_l3 hb13 cc53 (by omega) (by omega)
        have hb55 : In r8 1 7 := In.lt2 hy7_l3 hb13 cc53 (by omega) (by omega)
        refine lv_aload_n hx hb dX11_takes_15 rfl (lv_at hl 0 rfl) ?_
        obtain ⟨v0_56, v2_56, v3_56, v4_56, v5_56, v6_56, v8_56, v9_56, v12_56, v13_56, v14_56, v15_56, v16_56, v17_56, v18_56, v19_56, v20_56, v21_56, v22_56, v23_56, v25_56, v36_56, v37_56, v38_56, v39_56, v40_56, v45_56, v46_56, v47_56, v48_56, v50_56, v51_56, v53_56, v55_56, hf57, hv0_56, hv2_56, hv3_56, hv4_56, hv5_56, hv6_56, hv8_56, hv12_56, hv13_56, hv14_56, hg14_56, hv15_56, hg15_56, hv17_56, hg17_56, hv20_56, hv23_56, hg23_56, hv25_56, hv36_56, hv47_56, hv48_56, hv53_56, hv55_56⟩ := hT.2.2 0 (by decide)
        refine pl_get (v := .int v3_56) hx hb hts (fun w h => mT (inX11 w h)) hown hG.1 hP (hst.1 255 (by decide)) hf57 rfl 3 (by decide) (hts _ (mT wg_1339)) (fun _ h => h) rfl dX11_takes_16 ?_
        refine lv_iload_n hx hb dX11_takes_19 rfl (lv_at hl 3 rfl) ?_
        refine lv_iadd hx hb dX11_takes_20 ?_
        refine lv_topi (fun x58 ex58 => ?_)
        have hb59 : In x58 0 506 := ex58 ▸ In.add hv3_56 hb54 (by decide) (by decide) (by decide) (by decide)
        have et60 : x58.toInt = v3_56.toInt + y7_l3.toInt := In.add2e ex58 hv3_56 hb54 (by decide) (by decide)
        refine lv_aload_n hx hb dX11_takes_21 rfl (lv_at hl 0 rfl) ?_
        refine pl_get (v := .int v2_56) hx hb hts (fun w h => mT (inX11 w h)) hown hG.1 hP (hst.1 255 (by decide)) hf57 rfl 2 (by decide) (hts _ (mT wg_1338)) (fun _ h => h) rfl dX11_takes_22 ?_
        refine lv_icmp_ge (tgt := 47) hx hb dX11_takes_25 (by decide) (fun c61 => ?_) (fun c61 => ?_)
        ·
          have cc62 : v2_56.toInt ≤ x58.toInt := i32_le.mp c61
          refine lv_iconst (v := 0) hx hb dX11_takes_47 (by decide) ?_
          exact ret_i (ty := .boolean) hx hb hr hlocks (rfl) hP hD hS (Nat.le_of_ble_eq_true rfl) (Nat.le_of_ble_eq_true rfl) (⟨rfl, hT, hfr, (⟨by decide, by decide⟩ : In 0 0 1)⟩) dX11_takes_48
        ·
          have cc63 : x58.toInt < v2_56.toInt := i32_nle c61
          have hb64 : In x58 0 499 := In.lt1 hb59 hv2_56 cc63 (by omega) (by omega)
          have hb65 : In v2_56 1 500 := In.lt2 hb59 hv2_56 cc63 (by omega) (by omega)
          refine lv_aload_n hx hb dX11_takes_28 rfl (lv_at hl 0 rfl) ?_
          refine pl_get (v := .ref (ad 256)) hx hb hts (fun w h => mT (inX11 w h)) hown hG.1 hP (hst.1 255 (by decide)) hf57 rfl 1 (by decide) (hts _ (mT wg_1337)) (fun _ h => h) rfl dX11_takes_29 ?_
          refine lv_aload_n hx hb dX11_takes_32 rfl (lv_at hl 0 rfl) ?_
          refine pl_get (v := .int v3_56) hx hb hts (fun w h => mT (inX11 w h)) hown hG.1 hP (hst.1 255 (by decide)) hf57 rfl 3 (by decide) (hts _ (mT wg_1339)) (fun _ h => h) rfl dX11_takes_33 ?_
          refine lv_iload_n hx hb dX11_takes_36 rfl (lv_at hl 3 rfl) ?_
          refine lv_iadd hx hb dX11_takes_37 ?_
          refine lv_topi (fun x66 ex66 => ?_)
          obtain rfl : x58 = x66 := ex58.trans ex66.symm
          obtain ⟨rw67, hf68⟩ := hT.2.2 1 (by decide)
          have hin69 : vp_in x58 500 := In.inb hb64 (by decide) (by decide)
          refine pl_bald hx hb hG.1 hP (hst.1 256 (by decide)) 2 hf68 rfl hin69 dX11_takes_38 ?_
          refine lv_topi (fun x70 ex70 => ?_)
          refine lv_aload_n hx hb dX11_takes_39 rfl (lv_at hl 1 rfl) ?_
          refine lv_iload_n hx hb dX11_takes_40 rfl (lv_at hl 3 rfl) ?_
          refine call_i (run_VJ (rm := rm_J0_charAt) hx hb hml hown hts (i := z1) (hi_z1) (s_J0_charAt l g _ _ _ z1 y7_l3 hi_z1 (Int.le_trans (by decide) hb54.1) (by have q1 := cc53; have q2 := hle14; omega)) cV_J0_charAt_5068e wg_1543 rfl ⟨Nat.le_of_ble_eq_true rfl, Nat.le_of_ble_eq_true rfl⟩ hG hE hA hP hD hS rfl hl.1 (As := [.int y7_l3]) (rest := [.int x70]) rfl (Nat.le_of_ble_eq_true rfl) dX11_takes_41 ⟨Nat.le_of_ble_eq_true rfl, Nat.le_of_ble_eq_true rfl⟩) hA hD hS (fun r71 L72 f73 H locs hp74 hP hD hS => ?_)
          have eL75 : L72 = L := hp74.1
          have eL75f : f73 = f5 := hp74.2.1
          rw [eL75, eL75f] at hP hD
          have hb76 : In r71 0 65535 := hp74.2.2
          refine lv_icmp_eq (tgt := 49) hx hb dX11_takes_44 (by decide) (fun c77 => ?_) (fun c77 => ?_)
          ·
            have cc78 : x70.toInt = r71.toInt := congrArg Int32.toInt c77
            have hb79 : In x70 0 65535 := In.eq1 (In.full x70) hb76 cc78 (by omega) (by omega)
            obtain ⟨x80, ex80⟩ : ∃ y : Int32, y = y7_l3 + 1 := ⟨_, rfl⟩
            have hb81 : In x80 1 7 := ex80 ▸ In.add hb54 (⟨by decide, by decide⟩ : In 1 1 1) (by decide) (by decide) (by decide) (by decide)
            have et82 : x80.toInt = y7_l3.toInt + 1 := In.adde ex80 hb54 (k := 1) (by decide) (by decide) (by decide)
            refine lv_iinc (v := x80) (lv' := [(3, .int x80), (0, .ref (ad 255)), (1, .ref (g.2.2.1 z1)), (2, .int r3)]) hx hb dX11_takes_49 hl (k := 3) rfl (by rw [ex80]; rfl) (by decide) rfl (fun ls hl => ?_)
            refine lv_goto (tgt := 7) hx hb dX11_takes_52 (by decide) ?_
            exact ih7 x80 _ _ _ (In.mono hb81 (by decide) (by decide)) hP hD hS (lv_sub hl [1, 2, 3, 0] rfl) (msu et82 (by decide) hmz7)
          ·
            have cc83 : x70.toInt ≠ r71.toInt := i32_ne c77
            refine lv_iconst (v := 0) hx hb dX11_takes_47 (by decide) ?_
            exact ret_i (ty := .boolean) hx hb hr hlocks (rfl) hP hD hS (Nat.le_of_ble_eq_true rfl) (Nat.le_of_ble_eq_true rfl) (⟨rfl, hT, hfr, (⟨by decide, by decide⟩ : In 0 0 1)⟩) dX11_takes_48
  exact hJ7 ((7 - (0 : Int32).toInt).toNat + 1) 0 _ _ _ (⟨by decide, by decide⟩ : In 0 0 7) hP hD hS (lv_sub hl [2, 3, 1, 0] rfl) (msI _)

abbrev rm_X11_digits : Room := { frames := 2, cells := 0, slots := 0, locals := 40 }
abbrev po_X11_digits (g : GG) (ad : Nat → Nat) (th : Nat → Int) (L : List Nat) (f : HP)  : (List Nat × HP) → Prop := fun u => u.1 = L ∧ TI g ad th u.2 ∧ (∀ b, b ≠ (ad 255) → u.2 b = f b) ∧ (∀ a b : Int32, FLD u.2 ad 5 a → FLD u.2 ad 6 b → a.toInt + b.toInt ≤ 500)
set_option maxHeartbeats 4000000 in
set_option maxRecDepth 100000 in
theorem s_X11_digits (l : Launch) (g : GG) (ad : Nat → Nat) (th : Nat → Int) (L : List Nat) (f : HP) (sz : Nat)  (hst : ST ad L) (hT : TI g ad th f)  : MtV l g yX11_digits cX11_digits 2 rm_X11_digits [.ref (ad 255)] L f sz (po_X11_digits g ad th L f ) := by
  refine MtV.of (by decide +kernel) (Nat.le_of_ble_eq_true rfl) ?_
  intro p e s m below meth c A hEn hP hD hS ls hl
  obtain ⟨hx, hb, hr, hml, hown, hlocks, hts, hG, hA, hE, hnm⟩ := hEn
  have hown : s.vm.findClass "RulerWordModel" = some m.cls := hown
  have hl : lv_has ls 2 [(0, .ref (ad 255))] := hl
  have hfr : (∀ b, b ≠ (ad 255) → f b = f b) := fun b z0_ => rfl
  refine lv_aload_n hx hb dX11_digits_0 rfl (lv_at hl 0 rfl) ?_
  obtain ⟨v0_1, v2_1, v3_1, v4_1, v5_1, v6_1, v8_1, v9_1, v12_1, v13_1, v14_1, v15_1, v16_1, v17_1, v18_1, v19_1, v20_1, v21_1, v22_1, v23_1, v25_1, v36_1, v37_1, v38_1, v39_1, v40_1, v45_1, v46_1, v47_1, v48_1, v50_1, v51_1, v53_1, v55_1, hf2, hv0_1, hv2_1, hv3_1, hv4_1, hv5_1, hv6_1, hv8_1, hv12_1, hv13_1, hv14_1, hg14_1, hv15_1, hg15_1, hv17_1, hg17_1, hv20_1, hv23_1, hg23_1, hv25_1, hv36_1, hv47_1, hv48_1, hv53_1, hv55_1⟩ := hT.2.2 0 (by decide)
  refine call_i (run_V (rm := rm_X11_look) hx hb hml hown hts (s_X11_look l g ad th _ _ _  hst hT ) cV_X11_look wg_1529 ⟨Nat.le_of_ble_eq_true rfl, Nat.le_of_ble_eq_true rfl⟩ hG hE hA hP hD hS (hst.1 255 (by decide)) hf2 rfl rfl hl.1 (As := []) (rest := []) rfl (Nat.le_of_ble_eq_true rfl) dX11_digits_1 ⟨Nat.le_of_ble_eq_true rfl, Nat.le_of_ble_eq_true rfl⟩) hA hD hS (fun r3 L4 f5 H locs hp6 hP hD hS => ?_)
  obtain ⟨eL7L, eL7T, eL7F, eL7R⟩ := hp6
  have eL7L : L4 = L := eL7L
  rw [eL7L] at hP hD
  have hT : TI g ad th f5 := eL7T
  have eL7F : ∀ b, b ≠ (ad 255) → f5 b = f b := eL7F
  have hfr : (∀ b, b ≠ (ad 255) → f5 b = f b) := fun b z0_ => (eL7F b z0_).trans (hfr b z0_)
  have eL7R : In r3 (-1) 255 := eL7R
  refine lv_istore_n (lv' := [(1, .int r3), (0, .ref (ad 255))]) hx hb dX11_digits_4 rfl hl (by decide) rfl (fun ls hl => ?_)
  refine lv_aload_n hx hb dX11_digits_5 rfl (lv_at hl 1 rfl) ?_
  refine lv_aload_n hx hb dX11_digits_6 rfl (lv_at hl 1 rfl) ?_
  obtain ⟨v0_8, v2_8, v3_8, v4_8, v5_8, v6_8, v8_8, v9_8, v12_8, v13_8, v14_8, v15_8, v16_8, v17_8, v18_8, v19_8, v20_8, v21_8, v22_8, v23_8, v25_8, v36_8, v37_8, v38_8, v39_8, v40_8, v45_8, v46_8, v47_8, v48_8, v50_8, v51_8, v53_8, v55_8, hf9, hv0_8, hv2_8, hv3_8, hv4_8, hv5_8, hv6_8, hv8_8, hv12_8, hv13_8, hv14_8, hg14_8, hv15_8, hg15_8, hv17_8, hg17_8, hv20_8, hv23_8, hg23_8, hv25_8, hv36_8, hv47_8, hv48_8, hv53_8, hv55_8⟩ := hT.2.2 0 (by decide)
  refine pl_get (v := .int v3_8) hx hb hts (fun w h => mT (inX11 w h)) hown hG.1 hP (hst.1 255 (by decide)) hf9 rfl 3 (by decide) (hts _ (mT wg_1339)) (fun _ h => h) rfl dX11_digits_7 ?_
  refine pl_put (ty := .int) (v := .int v3_8) (fs' := [.int v0_8, .ref (ad 256), .int v2_8, .int v3_8, .int v4_8, .int v3_8, .int v6_8, .ref (ad 257), .int v8_8, .int v9_8, .ref (ad 258), .ref (ad 259), .int v12_8, .int v13_8, .int v14_8, .int v15_8, .int v16_8, .int v17_8, .int v18_8, .int v19_8, .int v20_8, .long v21_8, .long v22_8, .int v23_8, .ref (ad 260), .int v25_8, .ref (ad 261), .ref (ad 262), .ref (ad 263), .ref (ad 264), .ref (ad 265), .ref (ad 266), .ref (ad 267), .ref (ad 268), .ref (ad 269), .ref (ad 270), .int v36_8, .int v37_8, .int v38_8, .int v39_8, .int v40_8, .ref (ad 271), .ref (ad 272), .ref (ad 273), .ref (ad 274), .long v45_8, .long v46_8, .int v47_8, .int v48_8, .ref (ad 275), .int v50_8, .int v51_8, .ref (ad 276), .int v53_8, .ref (ad 277), .int v55_8]) hx hb hts (fun w h => mT (inX11 w h)) tyX11 tyX11_ok nmX11 hown hG.1 hP hD hS (hst.1 255 (by decide)) hf9 rfl 5 (by decide) (hts _ (mT wg_1341)) (fun _ h => h) rfl (by decide +kernel) (rfl) (rfl) (Nat.le_of_ble_eq_true rfl) rfl dX11_digits_10 (fun H locs f10 hf11 ho12 hP hD hS => ?_)
  have hfr : (∀ b, b ≠ (ad 255) → f10 b = f b) := fun b z0_ => (ho12 b z0_).trans (hfr b z0_)
  have hT := TI.updM hT hst (k := 0) (by decide) hf11 ho12 ⟨v0_8, v2_8, v3_8, v4_8, v3_8, v6_8, v8_8, v9_8, v12_8, v13_8, v14_8, v15_8, v16_8, v17_8, v18_8, v19_8, v20_8, v21_8, v22_8, v23_8, v25_8, v36_8, v37_8, v38_8, v39_8, v40_8, v45_8, v46_8, v47_8, v48_8, v50_8, v51_8, v53_8, v55_8, rfl, hv0_8, hv2_8, hv3_8, hv4_8, hv3_8, hv6_8, hv8_8, hv12_8, hv13_8, hv14_8, hg14_8, hv15_8, hg15_8, hv17_8, hg17_8, hv20_8, hv23_8, hg23_8, hv25_8, hv36_8, hv47_8, hv48_8, hv53_8, hv55_8⟩
  have hJ13 : ∀ (k13 : Nat) (f_13 : HP) (H : Heap) (locs : List Loc) (w13_0 : Int32) (w13_2 : Int32) (w13_3 : Int32) (w13_4 : Int32) (w13_5 : Int32) (w13_6 : Int32) (w13_8 : Int32) (w13_9 : Int32) (w13_12 : Int32) (w13_13 : Int32) (w13_14 : Int32) (w13_15 : Int32) (w13_16 : Int32) (w13_17 : Int32) (w13_18 : Int32) (w13_19 : Int32) (w13_20 : Int32) (w13_21 : Int64) (w13_22 : Int64) (w13_23 : Int32) (w13_25 : Int32) (w13_36 : Int32) (w13_37 : Int32) (w13_38 : Int32) (w13_39 : Int32) (w13_40 : Int32) (w13_45 : Int64) (w13_46 : Int64) (w13_47 : Int32) (w13_48 : Int32) (w13_50 : Int32) (w13_51 : Int32) (w13_53 : Int32) (w13_55 : Int32) (ls : Array Slot), va_P g.1 vwCl (va_pl L f_13) H → va_D A (va_pl L f_13) → va_S A s.heap H locs → TI g ad th f_13 → (∀ b, b ≠ (ad 255) → f_13 b = f b) → In w13_0 0 1 → In w13_2 0 500 → In w13_3 0 500 → In w13_4 (-1) 500 → In w13_5 0 500 → In w13_6 0 500 → In w13_8 (-1) 1 → In w13_12 0 20 → In w13_13 0 20 → In w13_14 0 1 → w13_14.toInt = th 10 → In w13_15 0 9 → w13_15.toInt = th 11 → In w13_17 0 6 → w13_17.toInt = th 12 → In w13_20 0 511 → In w13_23 0 1 → w13_23.toInt = th 15 → In w13_25 0 30 → In w13_36 0 100 → In w13_47 0 20 → In w13_48 0 1 → In w13_53 0 400 → In w13_55 0 200 → f_13 (ad 255) = .inr (10, [.int w13_0, .ref (ad 256), .int w13_2, .int w13_3, .int w13_4, .int w13_5, .int w13_6, .ref (ad 257), .int w13_8, .int w13_9, .ref (ad 258), .ref (ad 259), .int w13_12, .int w13_13, .int w13_14, .int w13_15, .int w13_16, .int w13_17, .int w13_18, .int w13_19, .int w13_20, .long w13_21, .long w13_22, .int w13_23, .ref (ad 260), .int w13_25, .ref (ad 261), .ref (ad 262), .ref (ad 263), .ref (ad 264), .ref (ad 265), .ref (ad 266), .ref (ad 267), .ref (ad 268), .ref (ad 269), .ref (ad 270), .int w13_36, .int w13_37, .int w13_38, .int w13_39, .int w13_40, .ref (ad 271), .ref (ad 272), .ref (ad 273), .ref (ad 274), .long w13_45, .long w13_46, .int w13_47, .int w13_48, .ref (ad 275), .int w13_50, .int w13_51, .ref (ad 276), .int w13_53, .ref (ad 277), .int w13_55]) → w13_5.toInt ≤ w13_3.toInt → lv_has ls 2 [(0, .ref (ad 255)), (1, .int r3)] → 500 - w13_3.toInt < ((k13 : Nat) : Int) → W p l e rm_X11_digits s m [.ref (ad 255)].toArray below meth c H locs 0 0 (MQ below (va_Qv (po_X11_digits g ad th L f ) (PstB g A) A) [.ref (ad 255)].toArray s rm_X11_digits.cells rm_X11_digits.slots A) (F0 m 13 ls []) := by
    intro k13
    induction k13 with
    | zero =>
      intro f_13 H locs w13_0 w13_2 w13_3 w13_4 w13_5 w13_6 w13_8 w13_9 w13_12 w13_13 w13_14 w13_15 w13_16 w13_17 w13_18 w13_19 w13_20 w13_21 w13_22 w13_23 w13_25 w13_36 w13_37 w13_38 w13_39 w13_40 w13_45 w13_46 w13_47 w13_48 w13_50 w13_51 w13_53 w13_55 ls hP hD hS hT hfr hw13_0 hw13_2 hw13_3 hw13_4 hw13_5 hw13_6 hw13_8 hw13_12 hw13_13 hw13_14 gw13_14 hw13_15 gw13_15 hw13_17 gw13_17 hw13_20 hw13_23 gw13_23 hw13_25 hw13_36 hw13_47 hw13_48 hw13_53 hw13_55 hfc13 hinv13_0 hl hmz13
      exact ms0 hw13_3 hmz13
    | succ k13 ih13 =>
      intro f_13 H locs w13_0 w13_2 w13_3 w13_4 w13_5 w13_6 w13_8 w13_9 w13_12 w13_13 w13_14 w13_15 w13_16 w13_17 w13_18 w13_19 w13_20 w13_21 w13_22 w13_23 w13_25 w13_36 w13_37 w13_38 w13_39 w13_40 w13_45 w13_46 w13_47 w13_48 w13_50 w13_51 w13_53 w13_55 ls hP hD hS hT hfr hw13_0 hw13_2 hw13_3 hw13_4 hw13_5 hw13_6 hw13_8 hw13_12 hw13_13 hw13_14 gw13_14 hw13_15 gw13_15 hw13_17 gw13_17 hw13_20 hw13_23 gw13_23 hw13_25 hw13_36 hw13_47 hw13_48 hw13_53 hw13_55 hfc13 hinv13_0 hl hmz13
      refine lv_aload_n hx hb dX11_digits_13 rfl (lv_at hl 0 rfl) ?_
      refine call_i (run_V (rm := rm_X11_here) hx hb hml hown hts (s_X11_here l g ad th _ _ _  hst hT ) cV_X11_here wg_1533 ⟨Nat.le_of_ble_eq_true rfl, Nat.le_of_ble_eq_true rfl⟩ hG hE hA hP hD hS (hst.1 255 (by decide)) hfc13 rfl rfl hl.1 (As := []) (rest := []) rfl (Nat.le_of_ble_eq_true rfl) dX11_digits_14 ⟨Nat.le_of_ble_eq_true rfl, Nat.le_of_ble_eq_true rfl⟩) hA hD hS (fun r13 L14 f15 H locs hp16 hP hD hS => ?_)
      obtain ⟨eL17L, eL17T, eL17R, eL17X0⟩ := hp16
      have eL17L : L14 = L := eL17L
      have eL17T : f15 = f_13 := eL17T
      rw [eL17L, eL17T] at hP hD
      have eL17R : In r13 (-1) 255 := eL17R
      have hh18 : r13.toInt = -1 ∨ w13_3.toInt < w13_2.toInt := eL17X0 _ _ ⟨_, hfc13, rfl⟩ ⟨_, hfc13, rfl⟩
      refine call_i (run_S (rm := rm_X11_isDigit) hx hb hml hown hts (s_X11_isDigit l g ad th _ _ _ r13 hst hT ) cS_X11_isDigit wg_1574 ⟨Nat.le_of_ble_eq_true rfl, Nat.le_of_ble_eq_true rfl⟩ hG hE hA hP hD hS rfl hl.1 (As := [.int r13]) (rest := []) rfl (Nat.le_of_ble_eq_true rfl) dX11_digits_17 ⟨Nat.le_of_ble_eq_true rfl, Nat.le_of_ble_eq_true rfl⟩) hA hD hS (fun r19 L20 f21 H locs hp22 hP hD hS => ?_)
      obtain ⟨eL23L, eL23T, eL23R⟩ := hp22
      have eL23L : L20 = L := eL23L
      have eL23T : f21 = f_13 := eL23T
      rw [eL23L, eL23T] at hP hD
      have eL23R : In r19 0 1 := eL23R
      refine lv_if_eq (tgt := 36) hx hb dX11_digits_20 (by decide) (fun c24 => ?_) (fun c24 => ?_)
      ·
        have cc25 : r19.toInt = (0 : Int32).toInt := congrArg Int32.toInt c24
        have hb26 : In r19 0 0 := In.eq1 eL23R (⟨by decide, by decide⟩ : In 0 0 0) cc25 (by omega) (by omega)
        refine lv_aload_n hx hb dX11_digits_36 rfl (lv_at hl 0 rfl) ?_
        refine lv_aload_n hx hb dX11_digits_37 rfl (lv_at hl 0 rfl) ?_
        refine pl_get (v := .int w13_3) hx hb hts (fun w h => mT (inX11 w h)) hown hG.1 hP (hst.1 255 (by decide)) hfc13 rfl 3 (by decide) (hts _ (mT wg_1339)) (fun _ h => h) rfl dX11_digits_38 ?_
        refine lv_aload_n hx hb dX11_digits_41 rfl (lv_at hl 0 rfl) ?_
        refine pl_get (v := .int w13_5) hx hb hts (fun w h => mT (inX11 w h)) hown hG.1 hP (hst.1 255 (by decide)) hfc13 rfl 5 (by decide) (hts _ (mT wg_1341)) (fun _ h => h) rfl dX11_digits_42 ?_
        refine lv_isub hx hb dX11_digits_45 ?_
        refine lv_topi (fun x27 ex27 => ?_)
        have hb28 : In x27 (-500) 500 := ex27 ▸ In.sub hw13_3 hw13_5 (by decide) (by decide) (by decide) (by decide)
        have et29 : x27.toInt = w13_3.toInt - w13_5.toInt := In.sub2e ex27 hw13_3 hw13_5 (by decide) (by decide)
        refine pl_put (ty := .int) (v := .int x27) (fs' := [.int w13_0, .ref (ad 256), .int w13_2, .int w13_3, .int w13_4, .int w13_5, .int x27, .ref (ad 257), .int w13_8, .int w13_9, .ref (ad 258), .ref (ad 259), .int w13_12, .int w13_13, .int w13_14, .int w13_15, .int w13_16, .int w13_17, .int w13_18, .int w13_19, .int w13_20, .long w13_21, .long w13_22, .int w13_23, .ref (ad 260), .int w13_25, .ref (ad 261), .ref (ad 262), .ref (ad 263), .ref (ad 264), .ref (ad 265), .ref (ad 266), .ref (ad 267), .ref (ad 268), .ref (ad 269), .ref (ad 270), .int w13_36, .int w13_37, .int w13_38, .int w13_39, .int w13_40, .ref (ad 271), .ref (ad 272), .ref (ad 273), .ref (ad 274), .long w13_45, .long w13_46, .int w13_47, .int w13_48, .ref (ad 275), .int w13_50, .int w13_51, .ref (ad 276), .int w13_53, .ref (ad 277), .int w13_55]) hx hb hts (fun w h => mT (inX11 w h)) tyX11 tyX11_ok nmX11 hown hG.1 hP hD hS (hst.1 255 (by decide)) hfc13 rfl 6 (by decide) (hts _ (mT wg_1342)) (fun _ h => h) rfl (by decide +kernel) (rfl) (rfl) (Nat.le_of_ble_eq_true rfl) rfl dX11_digits_46 (fun H locs f30 hf31 ho32 hP hD hS => ?_)
        have hfr : (∀ b, b ≠ (ad 255) → f30 b = f b) := fun b z0_ => (ho32 b z0_).trans (hfr b z0_)
        have hT := TI.updM hT hst (k := 0) (by decide) hf31 ho32 ⟨w13_0, w13_2, w13_3, w13_4, w13_5, x27, w13_8, w13_9, w13_12, w13_13, w13_14, w13_15, w13_16, w13_17, w13_18, w13_19, w13_20, w13_21, w13_22, w13_23, w13_25, w13_36, w13_37, w13_38, w13_39, w13_40, w13_45, w13_46, w13_47, w13_48, w13_50, w13_51, w13_53, w13_55, rfl, hw13_0, hw13_2, hw13_3, hw13_4, hw13_5, (In.mk (by obtain ⟨o0a, o0b⟩ := (hb28 : In _ _ _); obtain ⟨o1a, o1b⟩ := (hw13_3 : In _ _ _); obtain ⟨o2a, o2b⟩ := (hw13_5 : In _ _ _); obtain ⟨o3a, o3b⟩ := (eL17R : In _ _ _); obtain ⟨o4a, o4b⟩ := (hw13_2 : In _ _ _); omega) (by obtain ⟨o0a, o0b⟩ := (hb28 : In _ _ _); obtain ⟨o1a, o1b⟩ := (hw13_3 : In _ _ _); obtain ⟨o2a, o2b⟩ := (hw13_5 : In _ _ _); obtain ⟨o3a, o3b⟩ := (eL17R : In _ _ _); obtain ⟨o4a, o4b⟩ := (hw13_2 : In _ _ _); omega)), hw13_8, hw13_12, hw13_13, hw13_14, gw13_14, hw13_15, gw13_15, hw13_17, gw13_17, hw13_20, hw13_23, gw13_23, hw13_25, hw13_36, hw13_47, hw13_48, hw13_53, hw13_55⟩
        exact ret_v hx hb hr hlocks hP hD hS (Nat.le_of_ble_eq_true rfl) (Nat.le_of_ble_eq_true rfl) (⟨rfl, hT, hfr, (fun a b ha hb => by rw [FLD.eq ha hf31 rfl, FLD.eq hb hf31 rfl]; exact (by obtain ⟨o0a, o0b⟩ := (hw13_5 : In _ _ _); obtain ⟨o1a, o1b⟩ := (hb28 : In _ _ _); obtain ⟨o2a, o2b⟩ := (hw13_3 : In _ _ _); obtain ⟨o3a, o3b⟩ := (eL17R : In _ _ _); obtain ⟨o4a, o4b⟩ := (hw13_2 : In _ _ _); omega))⟩) dX11_digits_49
      ·
        have cc33 : r19.toInt ≠ (0 : Int32).toInt := i32_ne c24
        have hb34 : In r19 1 1 := In.ne1 eL23R (⟨by decide, by decide⟩ : In 0 0 0) cc33 (by omega) (by omega)
        refine lv_aload_n hx hb dX11_digits_23 rfl (lv_at hl 0 rfl) ?_
        refine lv_dup hx hb dX11_digits_24 rfl ?_
        refine pl_get (v := .int w13_3) hx hb hts (fun w h => mT (inX11 w h)) hown hG.1 hP (hst.1 255 (by decide)) hfc13 rfl 3 (by decide) (hts _ (mT wg_1339)) (fun _ h => h) rfl dX11_digits_25 ?_
        refine lv_iconst (v := 1) hx hb dX11_digits_28 (by decide) ?_
        refine lv_iadd hx hb dX11_digits_29 ?_
        refine lv_topi (fun x35 ex35 => ?_)
        have hb36 : In x35 1 501 := ex35 ▸ In.add hw13_3 (⟨by decide, by decide⟩ : In 1 1 1) (by decide) (by decide) (by decide) (by decide)
        have et37 : x35.toInt = w13_3.toInt + 1 := In.adde ex35 hw13_3 (k := 1) (by decide) (by decide) (by decide)
        refine pl_put (ty := .int) (v := .int x35) (fs' := [.int w13_0, .ref (ad 256), .int w13_2, .int x35, .int w13_4, .int w13_5, .int w13_6, .ref (ad 257), .int w13_8, .int w13_9, .ref (ad 258), .ref (ad 259), .int w13_12, .int w13_13, .int w13_14, .int w13_15, .int w13_16, .int w13_17, .int w13_18, .int w13_19, .int w13_20, .long w13_21, .long w13_22, .int w13_23, .ref (ad 260), .int w13_25, .ref (ad 261), .ref (ad 262), .ref (ad 263), .ref (ad 264), .ref (ad 265), .ref (ad 266), .ref (ad 267), .ref (ad 268), .ref (ad 269), .ref (ad 270), .int w13_36, .int w13_37, .int w13_38, .int w13_39, .int w13_40, .ref (ad 271), .ref (ad 272), .ref (ad 273), .ref (ad 274), .long w13_45, .long w13_46, .int w13_47, .int w13_48, .ref (ad 275), .int w13_50, .int w13_51, .ref (ad 276), .int w13_53, .ref (ad 277), .int w13_55]) hx hb hts (fun w h => mT (inX11 w h)) tyX11 tyX11_ok nmX11 hown hG.1 hP hD hS (hst.1 255 (by decide)) hfc13 rfl 3 (by decide) (hts _ (mT wg_1339)) (fun _ h => h) rfl (by decide +kernel) (rfl) (rfl) (Nat.le_of_ble_eq_true rfl) rfl dX11_digits_30 (fun H locs f38 hf39 ho40 hP hD hS => ?_)
        have hfr : (∀ b, b ≠ (ad 255) → f38 b = f b) := fun b z0_ => (ho40 b z0_).trans (hfr b z0_)
        have hT := TI.updM hT hst (k := 0) (by decide) hf39 ho40 ⟨w13_0, w13_2, x35, w13_4, w13_5, w13_6, w13_8, w13_9, w13_12, w13_13, w13_14, w13_15, w13_16, w13_17, w13_18, w13_19, w13_20, w13_21, w13_22, w13_23, w13_25, w13_36, w13_37, w13_38, w13_39, w13_40, w13_45, w13_46, w13_47, w13_48, w13_50, w13_51, w13_53, w13_55, rfl, hw13_0, hw13_2, (In.mk (by obtain ⟨o0a, o0b⟩ := (hb36 : In _ _ _); obtain ⟨o1a, o1b⟩ := (hw13_3 : In _ _ _); obtain ⟨o2a, o2b⟩ := (hw13_5 : In _ _ _); obtain ⟨o3a, o3b⟩ := (eL17R : In _ _ _); obtain ⟨o4a, o4b⟩ := (hw13_2 : In _ _ _); omega) (by obtain ⟨o0a, o0b⟩ := (hb36 : In _ _ _); obtain ⟨o1a, o1b⟩ := (hw13_3 : In _ _ _); obtain ⟨o2a, o2b⟩ := (hw13_5 : In _ _ _); obtain ⟨o3a, o3b⟩ := (eL17R : In _ _ _); obtain ⟨o4a, o4b⟩ := (hw13_2 : In _ _ _); omega)), hw13_4, hw13_5, hw13_6, hw13_8, hw13_12, hw13_13, hw13_14, gw13_14, hw13_15, gw13_15, hw13_17, gw13_17, hw13_20, hw13_23, gw13_23, hw13_25, hw13_36, hw13_47, hw13_48, hw13_53, hw13_55⟩
        refine lv_goto (tgt := 13) hx hb dX11_digits_33 (by decide) ?_
        exact ih13 _ _ _ w13_0 w13_2 x35 w13_4 w13_5 w13_6 w13_8 w13_9 w13_12 w13_13 w13_14 w13_15 w13_16 w13_17 w13_18 w13_19 w13_20 w13_21 w13_22 w13_23 w13_25 w13_36 w13_37 w13_38 w13_39 w13_40 w13_45 w13_46 w13_47 w13_48 w13_50 w13_51 w13_53 w13_55 _ hP hD hS hT hfr hw13_0 hw13_2 (In.mk (by obtain ⟨o0a, o0b⟩ := (hb36 : In _ _ _); obtain ⟨o1a, o1b⟩ := (hw13_3 : In _ _ _); obtain ⟨o2a, o2b⟩ := (hw13_5 : In _ _ _); obtain ⟨o3a, o3b⟩ := (eL17R : In _ _ _); obtain ⟨o4a, o4b⟩ := (hw13_2 : In _ _ _); omega) (by obtain ⟨o0a, o0b⟩ := (hb36 : In _ _ _); obtain ⟨o1a, o1b⟩ := (hw13_3 : In _ _ _); obtain ⟨o2a, o2b⟩ := (hw13_5 : In _ _ _); obtain ⟨o3a, o3b⟩ := (eL17R : In _ _ _); obtain ⟨o4a, o4b⟩ := (hw13_2 : In _ _ _); omega)) hw13_4 hw13_5 hw13_6 hw13_8 hw13_12 hw13_13 hw13_14 gw13_14 hw13_15 gw13_15 hw13_17 gw13_17 hw13_20 hw13_23 gw13_23 hw13_25 hw13_36 hw13_47 hw13_48 hw13_53 hw13_55 hf39 (by obtain ⟨o0a, o0b⟩ := (hw13_5 : In _ _ _); obtain ⟨o1a, o1b⟩ := (hb36 : In _ _ _); obtain ⟨o2a, o2b⟩ := (hw13_3 : In _ _ _); obtain ⟨o3a, o3b⟩ := (eL17R : In _ _ _); obtain ⟨o4a, o4b⟩ := (hw13_2 : In _ _ _); omega) (lv_sub hl [0, 1] rfl) (msu et37 (by decide) hmz13)
  exact hJ13 ((500 - v3_8.toInt).toNat + 1) _ _ _ v0_8 v2_8 v3_8 v4_8 v3_8 v6_8 v8_8 v9_8 v12_8 v13_8 v14_8 v15_8 v16_8 v17_8 v18_8 v19_8 v20_8 v21_8 v22_8 v23_8 v25_8 v36_8 v37_8 v38_8 v39_8 v40_8 v45_8 v46_8 v47_8 v48_8 v50_8 v51_8 v53_8 v55_8 _ hP hD hS hT hfr hv0_8 hv2_8 hv3_8 hv4_8 hv3_8 hv6_8 hv8_8 hv12_8 hv13_8 hv14_8 hg14_8 hv15_8 hg15_8 hv17_8 hg17_8 hv20_8 hv23_8 hg23_8 hv25_8 hv36_8 hv47_8 hv48_8 hv53_8 hv55_8 hf11 (by obtain ⟨o0a, o0b⟩ := (hv3_8 : In _ _ _); obtain ⟨o1a, o1b⟩ := (hv3_8 : In _ _ _); omega) (lv_sub hl [1, 0] rfl) (msI _)

abbrev rm_X11_digitAt : Room := { frames := 0, cells := 0, slots := 0, locals := 0 }
abbrev po_X11_digitAt (g : GG) (ad : Nat → Nat) (th : Nat → Int) (L : List Nat) (f : HP) (z1 : Int32) (w : Int32) : Int32 → (List Nat × HP) → Prop := fun r u => u.1 = L ∧ u.2 = f ∧ In r (-176) 79
set_option maxHeartbeats 4000000 in
set_option maxRecDepth 100000 in
theorem s_X11_digitAt (l : Launch) (g : GG) (ad : Nat → Nat) (th : Nat → Int) (L : List Nat) (f : HP) (sz : Nat) (z1 : Int32) (w : Int32) (hst : ST ad L) (hT : TI g ad th f) (hz1 : In z1 0 500) (hfw : FLD f ad 5 w) (hw1 : w.toInt + z1.toInt < 500) : MtI l g yX11_digitAt cX11_digitAt 2 (some .int) rm_X11_digitAt [.ref (ad 255), .int z1] L f sz (po_X11_digitAt g ad th L f z1 w) := by
  refine MtI.of (by decide +kernel) (Nat.le_of_ble_eq_true rfl) ?_
  intro p e s m below meth c A hEn hP hD hS ls hl
  obtain ⟨hx, hb, hr, hml, hown, hlocks, hts, hG, hA, hE, hnm⟩ := hEn
  have hown : s.vm.findClass "RulerWordModel" = some m.cls := hown
  have hl : lv_has ls 2 [(0, .ref (ad 255)), (1, .int z1)] := hl
  refine lv_aload_n hx hb dX11_digitAt_0 rfl (lv_at hl 0 rfl) ?_
  obtain ⟨v0_1, v2_1, v3_1, v4_1, v5_1, v6_1, v8_1, v9_1, v12_1, v13_1, v14_1, v15_1, v16_1, v17_1, v18_1, v19_1, v20_1, v21_1, v22_1, v23_1, v25_1, v36_1, v37_1, v38_1, v39_1, v40_1, v45_1, v46_1, v47_1, v48_1, v50_1, v51_1, v53_1, v55_1, hf2, hv0_1, hv2_1, hv3_1, hv4_1, hv5_1, hv6_1, hv8_1, hv12_1, hv13_1, hv14_1, hg14_1, hv15_1, hg15_1, hv17_1, hg17_1, hv20_1, hv23_1, hg23_1, hv25_1, hv36_1, hv47_1, hv48_1, hv53_1, hv55_1⟩ := hT.2.2 0 (by decide)
  have ew : w.toInt = v5_1.toInt := congrArg Int32.toInt (FLD.eq hfw hf2 rfl)
  refine pl_get (v := .ref (ad 256)) hx hb hts (fun w h => mT (inX11 w h)) hown hG.1 hP (hst.1 255 (by decide)) hf2 rfl 1 (by decide) (hts _ (mT wg_1337)) (fun _ h => h) rfl dX11_digitAt_1 ?_
  refine lv_aload_n hx hb dX11_digitAt_4 rfl (lv_at hl 0 rfl) ?_
  refine pl_get (v := .int v5_1) hx hb hts (fun w h => mT (inX11 w h)) hown hG.1 hP (hst.1 255 (by decide)) hf2 rfl 5 (by decide) (hts _ (mT wg_1341)) (fun _ h => h) rfl dX11_digitAt_5 ?_
  refine lv_iload_n hx hb dX11_digitAt_8 rfl (lv_at hl 1 rfl) ?_
  refine lv_iadd hx hb dX11_digitAt_9 ?_
  refine lv_topi (fun x3 ex3 => ?_)
  have hb4 : In x3 0 1000 := ex3 ▸ In.add hv5_1 hz1 (by decide) (by decide) (by decide) (by decide)
  have et5 : x3.toInt = v5_1.toInt + z1.toInt := In.add2e ex3 hv5_1 hz1 (by decide) (by decide)
  obtain ⟨rw6, hf7⟩ := hT.2.2 1 (by decide)
  have hin8 : vp_in x3 500 := vp_of (by obtain ⟨o0a, o0b⟩ := (hb4 : In _ _ _); obtain ⟨o1a, o1b⟩ := (hv5_1 : In _ _ _); obtain ⟨o2a, o2b⟩ := (hz1 : In _ _ _); omega) (by obtain ⟨o0a, o0b⟩ := (hb4 : In _ _ _); obtain ⟨o1a, o1b⟩ := (hv5_1 : In _ _ _); obtain ⟨o2a, o2b⟩ := (hz1 : In _ _ _); omega)
  refine pl_bald hx hb hG.1 hP (hst.1 256 (by decide)) 2 hf7 rfl hin8 dX11_digitAt_10 ?_
  refine lv_topi (fun x9 ex9 => ?_)
  refine lv_bipush (v := 48) hx hb dX11_digitAt_11 (by decide) ?_
  refine lv_isub hx hb dX11_digitAt_13 ?_
  refine lv_topi (fun x10 ex10 => ?_)
  exact ret_i (ty := .int) hx hb hr hlocks (rfl) hP hD hS (Nat.le_of_ble_eq_true rfl) (Nat.le_of_ble_eq_true rfl) (⟨rfl, rfl, (In.mk (by omega) (by omega))⟩) dX11_digitAt_14

abbrev rm_X11_digit_3_9 : Room := { frames := 3, cells := 0, slots := 0, locals := 61 }
abbrev po_X11_digit_3_9 (g : GG) (ad : Nat → Nat) (th : Nat → Int) (L : List Nat) (f : HP)  : Int32 → (List Nat × HP) → Prop := fun r u => u.1 = L ∧ TI g ad th u.2 ∧ (∀ b, b ≠ (ad 255) → u.2 b = f b)
set_option maxHeartbeats 4000000 in
set_option maxRecDepth 100000 in
theorem s_X11_digit_3_9 (l : Launch) (g : GG) (ad : Nat → Nat) (th : Nat → Int) (L : List Nat) (f : HP) (sz : Nat)  (hst : ST ad L) (hT : TI g ad th f)  : MtI l g yX11_digit cX11_digit 3 (some .int) rm_X11_digit_3_9 [.ref (ad 255), .int 3, .int 9] L f sz (po_X11_digit_3_9 g ad th L f ) := by
  refine MtI.of (by decide +kernel) (Nat.le_of_ble_eq_true rfl) ?_
  intro p e s m below meth c A hEn hP hD hS ls hl
  obtain ⟨hx, hb, hr, hml, hown, hlocks, hts, hG, hA, hE, hnm⟩ := hEn
  have hown : s.vm.findClass "RulerWordModel" = some m.cls := hown
  have hl : lv_has ls 3 [(0, .ref (ad 255)), (1, .int 3), (2, .int 9)] := hl
  have hfr : (∀ b, b ≠ (ad 255) → f b = f b) := fun b z0_ => rfl
  refine lv_aload_n hx hb dX11_digit_0 rfl (lv_at hl 0 rfl) ?_
  obtain ⟨v0_1, v2_1, v3_1, v4_1, v5_1, v6_1, v8_1, v9_1, v12_1, v13_1, v14_1, v15_1, v16_1, v17_1, v18_1, v19_1, v20_1, v21_1, v22_1, v23_1, v25_1, v36_1, v37_1, v38_1, v39_1, v40_1, v45_1, v46_1, v47_1, v48_1, v50_1, v51_1, v53_1, v55_1, hf2, hv0_1, hv2_1, hv3_1, hv4_1, hv5_1, hv6_1, hv8_1, hv12_1, hv13_1, hv14_1, hg14_1, hv15_1, hg15_1, hv17_1, hg17_1, hv20_1, hv23_1, hg23_1, hv25_1, hv36_1, hv47_1, hv48_1, hv53_1, hv55_1⟩ := hT.2.2 0 (by decide)
  refine call_v (run_V (rm := rm_X11_digits) hx hb hml hown hts (s_X11_digits l g ad th _ _ _  hst hT ) cV_X11_digits wg_1570 ⟨Nat.le_of_ble_eq_true rfl, Nat.le_of_ble_eq_true rfl⟩ hG hE hA hP hD hS (hst.1 255 (by decide)) hf2 rfl rfl hl.1 (As := []) (rest := []) rfl (Nat.le_of_ble_eq_true rfl) dX11_digit_1 ⟨Nat.le_of_ble_eq_true rfl, Nat.le_of_ble_eq_true rfl⟩) hA hD hS (fun L4 f5 H locs hp6 hP hD hS => ?_)
  obtain ⟨eL7L, eL7T, eL7F, eL7X0⟩ := hp6
  have eL7L : L4 = L := eL7L
  rw [eL7L] at hP hD
  have hT : TI g ad th f5 := eL7T
  have eL7F : ∀ b, b ≠ (ad 255) → f5 b = f b := eL7F
  have hfr : (∀ b, b ≠ (ad 255) → f5 b = f b) := fun b z0_ => (eL7F b z0_).trans (hfr b z0_)
  obtain ⟨v0_8, v2_8, v3_8, v4_8, v5_8, v6_8, v8_8, v9_8, v12_8, v13_8, v14_8, v15_8, v16_8, v17_8, v18_8, v19_8, v20_8, v21_8, v22_8, v23_8, v25_8, v36_8, v37_8, v38_8, v39_8, v40_8, v45_8, v46_8, v47_8, v48_8, v50_8, v51_8, v53_8, v55_8, hf9, hv0_8, hv2_8, hv3_8, hv4_8, hv5_8, hv6_8, hv8_8, hv12_8, hv13_8, hv14_8, hg14_8, hv15_8, hg15_8, hv17_8, hg17_8, hv20_8, hv23_8, hg23_8, hv25_8, hv36_8, hv47_8, hv48_8, hv53_8, hv55_8⟩ := hT.2.2 0 (by decide)
  have hg10 : v5_8.toInt + v6_8.toInt ≤ 500 := eL7X0 _ _ ⟨_, hf9, rfl⟩ ⟨_, hf9, rfl⟩
  refine lv_aload_n hx hb dX11_digit_4 rfl (lv_at hl 0 rfl) ?_
  refine pl_get (v := .int v6_8) hx hb hts (fun w h => mT (inX11 w h)) hown hG.1 hP (hst.1 255 (by decide)) hf9 rfl 6 (by decide) (hts _ (mT wg_1342)) (fun _ h => h) rfl dX11_digit_5 ?_
  refine lv_iconst (v := 1) hx hb dX11_digit_8 (by decide) ?_
  have hJ28 : ∀ (H : Heap) (locs : List Loc) (ls : Array Slot), va_P g.1 vwCl (va_pl L f5) H → va_D A (va_pl L f5) → va_S A s.heap H locs → lv_has ls 3 [(0, .ref (ad 255)), (1, .int 3), (2, .int 9)] → W p l e rm_X11_digit_3_9 s m [.ref (ad 255), .int 3, .int 9].toArray below meth c H locs 0 0 (MQ below (va_Qi (po_X11_digit_3_9 g ad th L f ) (PstB g A) A) [.ref (ad 255), .int 3, .int 9].toArray s rm_X11_digit_3_9.cells rm_X11_digit_3_9.slots A) (F0 m 28 ls []) := by
    intro H locs ls hP hD hS hl
    refine lv_aload_n hx hb dX11_digit_28 rfl (lv_at hl 0 rfl) ?_
    refine lv_aload_n hx hb dX11_digit_29 rfl (lv_at hl 0 rfl) ?_
    refine pl_get (v := .int v5_8) hx hb hts (fun w h => mT (inX11 w h)) hown hG.1 hP (hst.1 255 (by decide)) hf9 rfl 5 (by decide) (hts _ (mT wg_1341)) (fun _ h => h) rfl dX11_digit_30 ?_
    refine call_v (run_V (rm := rm_X11_fails) hx hb hml hown hts (s_X11_fails l g ad th _ _ _ v5_8 hst hT hv5_8) cV_X11_fails wg_1545 ⟨Nat.le_of_ble_eq_true rfl, Nat.le_of_ble_eq_true rfl⟩ hG hE hA hP hD hS (hst.1 255 (by decide)) hf9 rfl rfl hl.1 (As := [.int v5_8]) (rest := []) rfl (Nat.le_of_ble_eq_true rfl) dX11_digit_33 ⟨Nat.le_of_ble_eq_true rfl, Nat.le_of_ble_eq_true rfl⟩) hA hD hS (fun L12 f13 H locs hp14 hP hD hS => ?_)
    obtain ⟨eL15L, eL15T, eL15F⟩ := hp14
    have eL15L : L12 = L := eL15L
    rw [eL15L] at hP hD
    have hT : TI g ad th f13 := eL15T
    have eL15F : ∀ b, b ≠ (ad 255) → f13 b = f5 b := eL15F
    have hfr : (∀ b, b ≠ (ad 255) → f13 b = f b) := fun b z0_ => (eL15F b z0_).trans (hfr b z0_)
    refine lv_iload_n hx hb dX11_digit_36 rfl (lv_at hl 1 rfl) ?_
    exact ret_i (ty := .int) hx hb hr hlocks (rfl) hP hD hS (Nat.le_of_ble_eq_true rfl) (Nat.le_of_ble_eq_true rfl) (⟨rfl, hT, hfr⟩) dX11_digit_37
  refine lv_icmp_ne (tgt := 28) hx hb dX11_digit_9 (by decide) (fun c16 => ?_) (fun c16 => ?_)
  ·
    have cc17 : v6_8.toInt ≠ (1 : Int32).toInt := i32_ne c16
    exact hJ28 _ _ _ hP hD hS (lv_sub hl [0, 1, 2] rfl)
  ·
    have cc18 : v6_8.toInt = (1 : Int32).toInt := congrArg Int32.toInt c16
    have hb19 : In v6_8 1 1 := In.eq1 hv6_8 (⟨by decide, by decide⟩ : In 1 1 1) cc18 (by omega) (by omega)
    refine lv_aload_n hx hb dX11_digit_12 rfl (lv_at hl 0 rfl) ?_
    refine lv_iconst (v := 0) hx hb dX11_digit_13 (by decide) ?_
    refine call_i (run_V (rm := rm_X11_digitAt) hx hb hml hown hts (s_X11_digitAt l g ad th _ _ _ 0 v5_8 hst hT (⟨by decide, by decide⟩ : In 0 0 500) (⟨_, hf9, rfl⟩) (by have oc0 : (0 : Int32).toInt = 0 := (by decide); obtain ⟨o0a, o0b⟩ := (hv5_8 : In _ _ _); obtain ⟨o1a, o1b⟩ := (hb19 : In _ _ _); omega)) cV_X11_digitAt wg_1577 ⟨Nat.le_of_ble_eq_true rfl, Nat.le_of_ble_eq_true rfl⟩ hG hE hA hP hD hS (hst.1 255 (by decide)) hf9 rfl rfl hl.1 (As := [.int 0]) (rest := []) rfl (Nat.le_of_ble_eq_true rfl) dX11_digit_14 ⟨Nat.le_of_ble_eq_true rfl, Nat.le_of_ble_eq_true rfl⟩) hA hD hS (fun r20 L21 f22 H locs hp23 hP hD hS => ?_)
    obtain ⟨eL24L, eL24T, eL24R⟩ := hp23
    have eL24L : L21 = L := eL24L
    have eL24T : f22 = f5 := eL24T
    rw [eL24L, eL24T] at hP hD
    have eL24R : In r20 (-176) 79 := eL24R
    refine lv_i2l hx hb dX11_digit_17 rfl ?_
    refine lv_iload_n hx hb dX11_digit_18 rfl (lv_at hl 1 rfl) ?_
    refine lv_i2l (v := 3) hx hb dX11_digit_19 (by decide) ?_
    refine lv_iload_n hx hb dX11_digit_20 rfl (lv_at hl 2 rfl) ?_
    refine lv_i2l (v := 9) hx hb dX11_digit_21 (by decide) ?_
    refine call_i (run_S (rm := rm_X11_isIn) hx hb hml hown hts (s_X11_isIn l g ad th _ _ _ (r20.toInt64) 3 9 hst hT ) cS_X11_isIn wg_1581 ⟨Nat.le_of_ble_eq_true rfl, Nat.le_of_ble_eq_true rfl⟩ hG hE hA hP hD hS rfl hl.1 (As := [.long (r20.toInt64), .long 3, .long 9]) (rest := []) rfl (Nat.le_of_ble_eq_true rfl) dX11_digit_22 ⟨Nat.le_of_ble_eq_true rfl, Nat.le_of_ble_eq_true rfl⟩) hA hD hS (fun r25 L26 f27 H locs hp28 hP hD hS => ?_)
    obtain ⟨eL29L, eL29T, eL29R⟩ := hp28
    have eL29L : L26 = L := eL29L
    have eL29T : f27 = f5 := eL29T
    rw [eL29L, eL29T] at hP hD
    have eL29R : In r25 0 1 := eL29R
    refine lv_if_ne (tgt := 38) hx hb dX11_digit_25 (by decide) (fun c30 => ?_) (fun c30 => ?_)
    ·
      have cc31 : r25.toInt ≠ (0 : Int32).toInt := i32_ne c30
      have hb32 : In r25 1 1 := In.ne1 eL29R (⟨by decide, by decide⟩ : In 0 0 0) cc31 (by omega) (by omega)
      refine lv_aload_n hx hb dX11_digit_38 rfl (lv_at hl 0 rfl) ?_
      refine lv_iconst (v := 0) hx hb dX11_digit_39 (by decide) ?_
      refine call_i (run_V (rm := rm_X11_digitAt) hx hb hml hown hts (s_X11_digitAt l g ad th _ _ _ 0 v5_8 hst hT (⟨by decide, by decide⟩ : In 0 0 500) (⟨_, hf9, rfl⟩) (by have oc0 : (0 : Int32).toInt = 0 := (by decide); obtain ⟨o0a, o0b⟩ := (hv5_8 : In _ _ _); obtain ⟨o1a, o1b⟩ := (hb19 : In _ _ _); omega)) cV_X11_digitAt wg_1577 ⟨Nat.le_of_ble_eq_true rfl, Nat.le_of_ble_eq_true rfl⟩ hG hE hA hP hD hS (hst.1 255 (by decide)) hf9 rfl rfl hl.1 (As := [.int 0]) (rest := []) rfl (Nat.le_of_ble_eq_true rfl) dX11_digit_40 ⟨Nat.le_of_ble_eq_true rfl, Nat.le_of_ble_eq_true rfl⟩) hA hD hS (fun r33 L34 f35 H locs hp36 hP hD hS => ?_)
      obtain ⟨eL37L, eL37T, eL37R⟩ := hp36
      have eL37L : L34 = L := eL37L
      have eL37T : f35 = f5 := eL37T
      rw [eL37L, eL37T] at hP hD
      have eL37R : In r33 (-176) 79 := eL37R
      exact ret_i (ty := .int) hx hb hr hlocks (rfl) hP hD hS (Nat.le_of_ble_eq_true rfl) (Nat.le_of_ble_eq_true rfl) (⟨rfl, hT, hfr⟩) dX11_digit_43
    ·
      have cc38 : r25.toInt = (0 : Int32).toInt := congrArg Int32.toInt c30
      have hb39 : In r25 0 0 := In.eq1 eL29R (⟨by decide, by decide⟩ : In 0 0 0) cc38 (by omega) (by omega)
      exact hJ28 _ _ _ hP hD hS (lv_sub hl [0, 1, 2] rfl)

abbrev rm_X11_digit_0_4 : Room := { frames := 3, cells := 0, slots := 0, locals := 61 }
abbrev po_X11_digit_0_4 (g : GG) (ad : Nat → Nat) (th : Nat → Int) (L : List Nat) (f : HP)  : Int32 → (List Nat × HP) → Prop := fun r u => u.1 = L ∧ TI g ad th u.2 ∧ (∀ b, b ≠ (ad 255) → u.2 b = f b)
set_option maxHeartbeats 4000000 in
set_option maxRecDepth 100000 in
theorem s_X11_digit_0_4 (l : Launch) (g : GG) (ad : Nat → Nat) (th : Nat → Int) (L : List Nat) (f : HP) (sz : Nat)  (hst : ST ad L) (hT : TI g ad th f)  : MtI l g yX11_digit cX11_digit 3 (some .int) rm_X11_digit_0_4 [.ref (ad 255), .int 0, .int 4] L f sz (po_X11_digit_0_4 g ad th L f ) := by
  refine MtI.of (by decide +kernel) (Nat.le_of_ble_eq_true rfl) ?_
  intro p e s m below meth c A hEn hP hD hS ls hl
  obtain ⟨hx, hb, hr, hml, hown, hlocks, hts, hG, hA, hE, hnm⟩ := hEn
  have hown : s.vm.findClass "RulerWordModel" = some m.cls := hown
  have hl : lv_has ls 3 [(0, .ref (ad 255)), (1, .int 0), (2, .int 4)] := hl
  have hfr : (∀ b, b ≠ (ad 255) → f b = f b) := fun b z0_ => rfl
  refine lv_aload_n hx hb dX11_digit_0 rfl (lv_at hl 0 rfl) ?_
  obtain ⟨v0_1, v2_1, v3_1, v4_1, v5_1, v6_1, v8_1, v9_1, v12_1, v13_1, v14_1, v15_1, v16_1, v17_1, v18_1, v19_1, v20_1, v21_1, v22_1, v23_1, v25_1, v36_1, v37_1, v38_1, v39_1, v40_1, v45_1, v46_1, v47_1, v48_1, v50_1, v51_1, v53_1, v55_1, hf2, hv0_1, hv2_1, hv3_1, hv4_1, hv5_1, hv6_1, hv8_1, hv12_1, hv13_1, hv14_1, hg14_1, hv15_1, hg15_1, hv17_1, hg17_1, hv20_1, hv23_1, hg23_1, hv25_1, hv36_1, hv47_1, hv48_1, hv53_1, hv55_1⟩ := hT.2.2 0 (by decide)
  refine call_v (run_V (rm := rm_X11_digits) hx hb hml hown hts (s_X11_digits l g ad th _ _ _  hst hT ) cV_X11_digits wg_1570 ⟨Nat.le_of_ble_eq_true rfl, Nat.le_of_ble_eq_true rfl⟩ hG hE hA hP hD hS (hst.1 255 (by decide)) hf2 rfl rfl hl.1 (As := []) (rest := []) rfl (Nat.le_of_ble_eq_true rfl) dX11_digit_1 ⟨Nat.le_of_ble_eq_true rfl, Nat.le_of_ble_eq_true rfl⟩) hA hD hS (fun L4 f5 H locs hp6 hP hD hS => ?_)
  obtain ⟨eL7L, eL7T, eL7F, eL7X0⟩ := hp6
  have eL7L : L4 = L := eL7L
  rw [eL7L] at hP hD
  have hT : TI g ad th f5 := eL7T
  have eL7F : ∀ b, b ≠ (ad 255) → f5 b = f b := eL7F
  have hfr : (∀ b, b ≠ (ad 255) → f5 b = f b) := fun b z0_ => (eL7F b z0_).trans (hfr b z0_)
  obtain ⟨v0_8, v2_8, v3_8, v4_8, v5_8, v6_8, v8_8, v9_8, v12_8, v13_8, v14_8, v15_8, v16_8, v17_8, v18_8, v19_8, v20_8, v21_8, v22_8, v23_8, v25_8, v36_8, v37_8, v38_8, v39_8, v40_8, v45_8, v46_8, v47_8, v48_8, v50_8, v51_8, v53_8, v55_8, hf9, hv0_8, hv2_8, hv3_8, hv4_8, hv5_8, hv6_8, hv8_8, hv12_8, hv13_8, hv14_8, hg14_8, hv15_8, hg15_8, hv17_8, hg17_8, hv20_8, hv23_8, hg23_8, hv25_8, hv36_8, hv47_8, hv48_8, hv53_8, hv55_8⟩ := hT.2.2 0 (by decide)
  have hg10 : v5_8.toInt + v6_8.toInt ≤ 500 := eL7X0 _ _ ⟨_, hf9, rfl⟩ ⟨_, hf9, rfl⟩
  refine lv_aload_n hx hb dX11_digit_4 rfl (lv_at hl 0 rfl) ?_
  refine pl_get (v := .int v6_8) hx hb hts (fun w h => mT (inX11 w h)) hown hG.1 hP (hst.1 255 (by decide)) hf9 rfl 6 (by decide) (hts _ (mT wg_1342)) (fun _ h => h) rfl dX11_digit_5 ?_
  refine lv_iconst (v := 1) hx hb dX11_digit_8 (by decide) ?_
  have hJ28 : ∀ (H : Heap) (locs : List Loc) (ls : Array Slot), va_P g.1 vwCl (va_pl L f5) H → va_D A (va_pl L f5) → va_S A s.heap H locs → lv_has ls 3 [(0, .ref (ad 255)), (1, .int 0), (2, .int 4)] → W p l e rm_X11_digit_0_4 s m [.ref (ad 255), .int 0, .int 4].toArray below meth c H locs 0 0 (MQ below (va_Qi (po_X11_digit_0_4 g ad th L f ) (PstB g A) A) [.ref (ad 255), .int 0, .int 4].toArray s rm_X11_digit_0_4.cells rm_X11_digit_0_4.slots A) (F0 m 28 ls []) := by
    intro H locs ls hP hD hS hl
    refine lv_aload_n hx hb dX11_digit_28 rfl (lv_at hl 0 rfl) ?_
    refine lv_aload_n hx hb dX11_digit_29 rfl (lv_at hl 0 rfl) ?_
    refine pl_get (v := .int v5_8) hx hb hts (fun w h => mT (inX11 w h)) hown hG.1 hP (hst.1 255 (by decide)) hf9 rfl 5 (by decide) (hts _ (mT wg_1341)) (fun _ h => h) rfl dX11_digit_30 ?_
    refine call_v (run_V (rm := rm_X11_fails) hx hb hml hown hts (s_X11_fails l g ad th _ _ _ v5_8 hst hT hv5_8) cV_X11_fails wg_1545 ⟨Nat.le_of_ble_eq_true rfl, Nat.le_of_ble_eq_true rfl⟩ hG hE hA hP hD hS (hst.1 255 (by decide)) hf9 rfl rfl hl.1 (As := [.int v5_8]) (rest := []) rfl (Nat.le_of_ble_eq_true rfl) dX11_digit_33 ⟨Nat.le_of_ble_eq_true rfl, Nat.le_of_ble_eq_true rfl⟩) hA hD hS (fun L12 f13 H locs hp14 hP hD hS => ?_)
    obtain ⟨eL15L, eL15T, eL15F⟩ := hp14
    have eL15L : L12 = L := eL15L
    rw [eL15L] at hP hD
    have hT : TI g ad th f13 := eL15T
    have eL15F : ∀ b, b ≠ (ad 255) → f13 b = f5 b := eL15F
    have hfr : (∀ b, b ≠ (ad 255) → f13 b = f b) := fun b z0_ => (eL15F b z0_).trans (hfr b z0_)
    refine lv_iload_n hx hb dX11_digit_36 rfl (lv_at hl 1 rfl) ?_
    exact ret_i (ty := .int) hx hb hr hlocks (rfl) hP hD hS (Nat.le_of_ble_eq_true rfl) (Nat.le_of_ble_eq_true rfl) (⟨rfl, hT, hfr⟩) dX11_digit_37
  refine lv_icmp_ne (tgt := 28) hx hb dX11_digit_9 (by decide) (fun c16 => ?_) (fun c16 => ?_)
  ·
    have cc17 : v6_8.toInt ≠ (1 : Int32).toInt := i32_ne c16
    exact hJ28 _ _ _ hP hD hS (lv_sub hl [0, 1, 2] rfl)
  ·
    have cc18 : v6_8.toInt = (1 : Int32).toInt := congrArg Int32.toInt c16
    have hb19 : In v6_8 1 1 := In.eq1 hv6_8 (⟨by decide, by decide⟩ : In 1 1 1) cc18 (by omega) (by omega)
    refine lv_aload_n hx hb dX11_digit_12 rfl (lv_at hl 0 rfl) ?_
    refine lv_iconst (v := 0) hx hb dX11_digit_13 (by decide) ?_
    refine call_i (run_V (rm := rm_X11_digitAt) hx hb hml hown hts (s_X11_digitAt l g ad th _ _ _ 0 v5_8 hst hT (⟨by decide, by decide⟩ : In 0 0 500) (⟨_, hf9, rfl⟩) (by have oc0 : (0 : Int32).toInt = 0 := (by decide); obtain ⟨o0a, o0b⟩ := (hv5_8 : In _ _ _); obtain ⟨o1a, o1b⟩ := (hb19 : In _ _ _); omega)) cV_X11_digitAt wg_1577 ⟨Nat.le_of_ble_eq_true rfl, Nat.le_of_ble_eq_true rfl⟩ hG hE hA hP hD hS (hst.1 255 (by decide)) hf9 rfl rfl hl.1 (As := [.int 0]) (rest := []) rfl (Nat.le_of_ble_eq_true rfl) dX11_digit_14 ⟨Nat.le_of_ble_eq_true rfl, Nat.le_of_ble_eq_true rfl⟩) hA hD hS (fun r20 L21 f22 H locs hp23 hP hD hS => ?_)
    obtain ⟨eL24L, eL24T, eL24R⟩ := hp23
    have eL24L : L21 = L := eL24L
    have eL24T : f22 = f5 := eL24T
    rw [eL24L, eL24T] at hP hD
    have eL24R : In r20 (-176) 79 := eL24R
    refine lv_i2l hx hb dX11_digit_17 rfl ?_
    refine lv_iload_n hx hb dX11_digit_18 rfl (lv_at hl 1 rfl) ?_
    refine lv_i2l (v := 0) hx hb dX11_digit_19 (by decide) ?_
    refine lv_iload_n hx hb dX11_digit_20 rfl (lv_at hl 2 rfl) ?_
    refine lv_i2l (v := 4) hx hb dX11_digit_21 (by decide) ?_
    refine call_i (run_S (rm := rm_X11_isIn) hx hb hml hown hts (s_X11_isIn l g ad th _ _ _ (r20.toInt64) 0 4 hst hT ) cS_X11_isIn wg_1581 ⟨Nat.le_of_ble_eq_true rfl, Nat.le_of_ble_eq_true rfl⟩ hG hE hA hP hD hS rfl hl.1 (As := [.long (r20.toInt64), .long 0, .long 4]) (rest := []) rfl (Nat.le_of_ble_eq_true rfl) dX11_digit_22 ⟨Nat.le_of_ble_eq_true rfl, Nat.le_of_ble_eq_true rfl⟩) hA hD hS (fun r25 L26 f27 H locs hp28 hP hD hS => ?_)
    obtain ⟨eL29L, eL29T, eL29R⟩ := hp28
    have eL29L : L26 = L := eL29L
    have eL29T : f27 = f5 := eL29T
    rw [eL29L, eL29T] at hP hD
    have eL29R : In r25 0 1 := eL29R
    refine lv_if_ne (tgt := 38) hx hb dX11_digit_25 (by decide) (fun c30 => ?_) (fun c30 => ?_)
    ·
      have cc31 : r25.toInt ≠ (0 : Int32).toInt := i32_ne c30
      have hb32 : In r25 1 1 := In.ne1 eL29R (⟨by decide, by decide⟩ : In 0 0 0) cc31 (by omega) (by omega)
      refine lv_aload_n hx hb dX11_digit_38 rfl (lv_at hl 0 rfl) ?_
      refine lv_iconst (v := 0) hx hb dX11_digit_39 (by decide) ?_
      refine call_i (run_V (rm := rm_X11_digitAt) hx hb hml hown hts (s_X11_digitAt l g ad th _ _ _ 0 v5_8 hst hT (⟨by decide, by decide⟩ : In 0 0 500) (⟨_, hf9, rfl⟩) (by have oc0 : (0 : Int32).toInt = 0 := (by decide); obtain ⟨o0a, o0b⟩ := (hv5_8 : In _ _ _); obtain ⟨o1a, o1b⟩ := (hb19 : In _ _ _); omega)) cV_X11_digitAt wg_1577 ⟨Nat.le_of_ble_eq_true rfl, Nat.le_of_ble_eq_true rfl⟩ hG hE hA hP hD hS (hst.1 255 (by decide)) hf9 rfl rfl hl.1 (As := [.int 0]) (rest := []) rfl (Nat.le_of_ble_eq_true rfl) dX11_digit_40 ⟨Nat.le_of_ble_eq_true rfl, Nat.le_of_ble_eq_true rfl⟩) hA hD hS (fun r33 L34 f35 H locs hp36 hP hD hS => ?_)
      obtain ⟨eL37L, eL37T, eL37R⟩ := hp36
      have eL37L : L34 = L := eL37L
      have eL37T : f35 = f5 := eL37T
      rw [eL37L, eL37T] at hP hD
      have eL37R : In r33 (-176) 79 := eL37R
      exact ret_i (ty := .int) hx hb hr hlocks (rfl) hP hD hS (Nat.le_of_ble_eq_true rfl) (Nat.le_of_ble_eq_true rfl) (⟨rfl, hT, hfr⟩) dX11_digit_43
    ·
      have cc38 : r25.toInt = (0 : Int32).toInt := congrArg Int32.toInt c30
      have hb39 : In r25 0 0 := In.eq1 eL29R (⟨by decide, by decide⟩ : In 0 0 0) cc38 (by omega) (by omega)
      exact hJ28 _ _ _ hP hD hS (lv_sub hl [0, 1, 2] rfl)

abbrev rm_X11_digit_1_6 : Room := { frames := 3, cells := 0, slots := 0, locals := 61 }
abbrev po_X11_digit_1_6 (g : GG) (ad : Nat → Nat) (th : Nat → Int) (L : List Nat) (f : HP)  : Int32 → (List Nat × HP) → Prop := fun r u => u.1 = L ∧ TI g ad th u.2 ∧ (∀ b, b ≠ (ad 255) → u.2 b = f b)
set_option maxHeartbeats 4000000 in
set_option maxRecDepth 100000 in
theorem s_X11_digit_1_6 (l : Launch) (g : GG) (ad : Nat → Nat) (th : Nat → Int) (L : List Nat) (f : HP) (sz : Nat)  (hst : ST ad L) (hT : TI g ad th f)  : MtI l g yX11_digit cX11_digit 3 (some .int) rm_X11_digit_1_6 [.ref (ad 255), .int 1, .int 6] L f sz (po_X11_digit_1_6 g ad th L f ) := by
  refine MtI.of (by decide +kernel) (Nat.le_of_ble_eq_true rfl) ?_
  intro p e s m below meth c A hEn hP hD hS ls hl
  obtain ⟨hx, hb, hr, hml, hown, hlocks, hts, hG, hA, hE, hnm⟩ := hEn
  have hown : s.vm.findClass "RulerWordModel" = some m.cls := hown
  have hl : lv_has ls 3 [(0, .ref (ad 255)), (1, .int 1), (2, .int 6)] := hl
  have hfr : (∀ b, b ≠ (ad 255) → f b = f b) := fun b z0_ => rfl
  refine lv_aload_n hx hb dX11_digit_0 rfl (lv_at hl 0 rfl) ?_
  obtain ⟨v0_1, v2_1, v3_1, v4_1, v5_1, v6_1, v8_1, v9_1, v12_1, v13_1, v14_1, v15_1, v16_1, v17_1, v18_1, v19_1, v20_1, v21_1, v22_1, v23_1, v25_1, v36_1, v37_1, v38_1, v39_1, v40_1, v45_1, v46_1, v47_1, v48_1, v50_1, v51_1, v53_1, v55_1, hf2, hv0_1, hv2_1, hv3_1, hv4_1, hv5_1, hv6_1, hv8_1, hv12_1, hv13_1, hv14_1, hg14_1, hv15_1, hg15_1, hv17_1, hg17_1, hv20_1, hv23_1, hg23_1, hv25_1, hv36_1, hv47_1, hv48_1, hv53_1, hv55_1⟩ := hT.2.2 0 (by decide)
  refine call_v (run_V (rm := rm_X11_digits) hx hb hml hown hts (s_X11_digits l g ad th _ _ _  hst hT ) cV_X11_digits wg_1570 ⟨Nat.le_of_ble_eq_true rfl, Nat.le_of_ble_eq_true rfl⟩ hG hE hA hP hD hS (hst.1 255 (by decide)) hf2 rfl rfl hl.1 (As := []) (rest := []) rfl (Nat.le_of_ble_eq_true rfl) dX11_digit_1 ⟨Nat.le_of_ble_eq_true rfl, Nat.le_of_ble_eq_true rfl⟩) hA hD hS (fun L4 f5 H locs hp6 hP hD hS => ?_)
  obtain ⟨eL7L, eL7T, eL7F, eL7X0⟩ := hp6
  have eL7L : L4 = L := eL7L
  rw [eL7L] at hP hD
  have hT : TI g ad th f5 := eL7T
  have eL7F : ∀ b, b ≠ (ad 255) → f5 b = f b := eL7F
  have hfr : (∀ b, b ≠ (ad 255) → f5 b = f b) := fun b z0_ => (eL7F b z0_).trans (hfr b z0_)
  obtain ⟨v0_8, v2_8, v3_8, v4_8, v5_8, v6_8, v8_8, v9_8, v12_8, v13_8, v14_8, v15_8, v16_8, v17_8, v18_8, v19_8, v20_8, v21_8, v22_8, v23_8, v25_8, v36_8, v37_8, v38_8, v39_8, v40_8, v45_8, v46_8, v47_8, v48_8, v50_8, v51_8, v53_8, v55_8, hf9, hv0_8, hv2_8, hv3_8, hv4_8, hv5_8, hv6_8, hv8_8, hv12_8, hv13_8, hv14_8, hg14_8, hv15_8, hg15_8, hv17_8, hg17_8, hv20_8, hv23_8, hg23_8, hv25_8, hv36_8, hv47_8, hv48_8, hv53_8, hv55_8⟩ := hT.2.2 0 (by decide)
  have hg10 : v5_8.toInt + v6_8.toInt ≤ 500 := eL7X0 _ _ ⟨_, hf9, rfl⟩ ⟨_, hf9, rfl⟩
  refine lv_aload_n hx hb dX11_digit_4 rfl (lv_at hl 0 rfl) ?_
  refine pl_get (v := .int v6_8) hx hb hts (fun w h => mT (inX11 w h)) hown hG.1 hP (hst.1 255 (by decide)) hf9 rfl 6 (by decide) (hts _ (mT wg_1342)) (fun _ h => h) rfl dX11_digit_5 ?_
  refine lv_iconst (v := 1) hx hb dX11_digit_8 (by decide) ?_
  have hJ28 : ∀ (H : Heap) (locs : List Loc) (ls : Array Slot), va_P g.1 vwCl (va_pl L f5) H → va_D A (va_pl L f5) → va_S A s.heap H locs → lv_has ls 3 [(0, .ref (ad 255)), (1, .int 1), (2, .int 6)] → W p l e rm_X11_digit_1_6 s m [.ref (ad 255), .int 1, .int 6].toArray below meth c H locs 0 0 (MQ below (va_Qi (po_X11_digit_1_6 g ad th L f ) (PstB g A) A) [.ref (ad 255), .int 1, .int 6].toArray s rm_X11_digit_1_6.cells rm_X11_digit_1_6.slots A) (F0 m 28 ls []) := by
    intro H locs ls hP hD hS hl
    refine lv_aload_n hx hb dX11_digit_28 rfl (lv_at hl 0 rfl) ?_
    refine lv_aload_n hx hb dX11_digit_29 rfl (lv_at hl 0 rfl) ?_
    refine pl_get (v := .int v5_8) hx hb hts (fun w h => mT (inX11 w h)) hown hG.1 hP (hst.1 255 (by decide)) hf9 rfl 5 (by decide) (hts _ (mT wg_1341)) (fun _ h => h) rfl dX11_digit_30 ?_
    refine call_v (run_V (rm := rm_X11_fails) hx hb hml hown hts (s_X11_fails l g ad th _ _ _ v5_8 hst hT hv5_8) cV_X11_fails wg_1545 ⟨Nat.le_of_ble_eq_true rfl, Nat.le_of_ble_eq_true rfl⟩ hG hE hA hP hD hS (hst.1 255 (by decide)) hf9 rfl rfl hl.1 (As := [.int v5_8]) (rest := []) rfl (Nat.le_of_ble_eq_true rfl) dX11_digit_33 ⟨Nat.le_of_ble_eq_true rfl, Nat.le_of_ble_eq_true rfl⟩) hA hD hS (fun L12 f13 H locs hp14 hP hD hS => ?_)
    obtain ⟨eL15L, eL15T, eL15F⟩ := hp14
    have eL15L : L12 = L := eL15L
    rw [eL15L] at hP hD
    have hT : TI g ad th f13 := eL15T
    have eL15F : ∀ b, b ≠ (ad 255) → f13 b = f5 b := eL15F
    have hfr : (∀ b, b ≠ (ad 255) → f13 b = f b) := fun b z0_ => (eL15F b z0_).trans (hfr b z0_)
    refine lv_iload_n hx hb dX11_digit_36 rfl (lv_at hl 1 rfl) ?_
    exact ret_i (ty := .int) hx hb hr hlocks (rfl) hP hD hS (Nat.le_of_ble_eq_true rfl) (Nat.le_of_ble_eq_true rfl) (⟨rfl, hT, hfr⟩) dX11_digit_37
  refine lv_icmp_ne (tgt := 28) hx hb dX11_digit_9 (by decide) (fun c16 => ?_) (fun c16 => ?_)
  ·
    have cc17 : v6_8.toInt ≠ (1 : Int32).toInt := i32_ne c16
    exact hJ28 _ _ _ hP hD hS (lv_sub hl [0, 1, 2] rfl)
  ·
    have cc18 : v6_8.toInt = (1 : Int32).toInt := congrArg Int32.toInt c16
    have hb19 : In v6_8 1 1 := In.eq1 hv6_8 (⟨by decide, by decide⟩ : In 1 1 1) cc18 (by omega) (by omega)
    refine lv_aload_n hx hb dX11_digit_12 rfl (lv_at hl 0 rfl) ?_
    refine lv_iconst (v := 0) hx hb dX11_digit_13 (by decide) ?_
    refine call_i (run_V (rm := rm_X11_digitAt) hx hb hml hown hts (s_X11_digitAt l g ad th _ _ _ 0 v5_8 hst hT (⟨by decide, by decide⟩ : In 0 0 500) (⟨_, hf9, rfl⟩) (by have oc0 : (0 : Int32).toInt = 0 := (by decide); obtain ⟨o0a, o0b⟩ := (hv5_8 : In _ _ _); obtain ⟨o1a, o1b⟩ := (hb19 : In _ _ _); omega)) cV_X11_digitAt wg_1577 ⟨Nat.le_of_ble_eq_true rfl, Nat.le_of_ble_eq_true rfl⟩ hG hE hA hP hD hS (hst.1 255 (by decide)) hf9 rfl rfl hl.1 (As := [.int 0]) (rest := []) rfl (Nat.le_of_ble_eq_true rfl) dX11_digit_14 ⟨Nat.le_of_ble_eq_true rfl, Nat.le_of_ble_eq_true rfl⟩) hA hD hS (fun r20 L21 f22 H locs hp23 hP hD hS => ?_)
    obtain ⟨eL24L, eL24T, eL24R⟩ := hp23
    have eL24L : L21 = L := eL24L
    have eL24T : f22 = f5 := eL24T
    rw [eL24L, eL24T] at hP hD
    have eL24R : In r20 (-176) 79 := eL24R
    refine lv_i2l hx hb dX11_digit_17 rfl ?_
    refine lv_iload_n hx hb dX11_digit_18 rfl (lv_at hl 1 rfl) ?_
    refine lv_i2l (v := 1) hx hb dX11_digit_19 (by decide) ?_
    refine lv_iload_n hx hb dX11_digit_20 rfl (lv_at hl 2 rfl) ?_
    refine lv_i2l (v := 6) hx hb dX11_digit_21 (by decide) ?_
    refine call_i (run_S (rm := rm_X11_isIn) hx hb hml hown hts (s_X11_isIn l g ad th _ _ _ (r20.toInt64) 1 6 hst hT ) cS_X11_isIn wg_1581 ⟨Nat.le_of_ble_eq_true rfl, Nat.le_of_ble_eq_true rfl⟩ hG hE hA hP hD hS rfl hl.1 (As := [.long (r20.toInt64), .long 1, .long 6]) (rest := []) rfl (Nat.le_of_ble_eq_true rfl) dX11_digit_22 ⟨Nat.le_of_ble_eq_true rfl, Nat.le_of_ble_eq_true rfl⟩) hA hD hS (fun r25 L26 f27 H locs hp28 hP hD hS => ?_)
    obtain ⟨eL29L, eL29T, eL29R⟩ := hp28
    have eL29L : L26 = L := eL29L
    have eL29T : f27 = f5 := eL29T
    rw [eL29L, eL29T] at hP hD
    have eL29R : In r25 0 1 := eL29R
    refine lv_if_ne (tgt := 38) hx hb dX11_digit_25 (by decide) (fun c30 => ?_) (fun c30 => ?_)
    ·
      have cc31 : r25.toInt ≠ (0 : Int32).toInt := i32_ne c30
      have hb32 : In r25 1 1 := In.ne1 eL29R (⟨by decide, by decide⟩ : In 0 0 0) cc31 (by omega) (by omega)
      refine lv_aload_n hx hb dX11_digit_38 rfl (lv_at hl 0 rfl) ?_
      refine lv_iconst (v := 0) hx hb dX11_digit_39 (by decide) ?_
      refine call_i (run_V (rm := rm_X11_digitAt) hx hb hml hown hts (s_X11_digitAt l g ad th _ _ _ 0 v5_8 hst hT (⟨by decide, by decide⟩ : In 0 0 500) (⟨_, hf9, rfl⟩) (by have oc0 : (0 : Int32).toInt = 0 := (by decide); obtain ⟨o0a, o0b⟩ := (hv5_8 : In _ _ _); obtain ⟨o1a, o1b⟩ := (hb19 : In _ _ _); omega)) cV_X11_digitAt wg_1577 ⟨Nat.le_of_ble_eq_true rfl, Nat.le_of_ble_eq_true rfl⟩ hG hE hA hP hD hS (hst.1 255 (by decide)) hf9 rfl rfl hl.1 (As := [.int 0]) (rest := []) rfl (Nat.le_of_ble_eq_true rfl) dX11_digit_40 ⟨Nat.le_of_ble_eq_true rfl, Nat.le_of_ble_eq_true rfl⟩) hA hD hS (fun r33 L34 f35 H locs hp36 hP hD hS => ?_)
      obtain ⟨eL37L, eL37T, eL37R⟩ := hp36
      have eL37L : L34 = L := eL37L
      have eL37T : f35 = f5 := eL37T
      rw [eL37L, eL37T] at hP hD
      have eL37R : In r33 (-176) 79 := eL37R
      exact ret_i (ty := .int) hx hb hr hlocks (rfl) hP hD hS (Nat.le_of_ble_eq_true rfl) (Nat.le_of_ble_eq_true rfl) (⟨rfl, hT, hfr⟩) dX11_digit_43
    ·
      have cc38 : r25.toInt = (0 : Int32).toInt := congrArg Int32.toInt c30
      have hb39 : In r25 0 0 := In.eq1 eL29R (⟨by decide, by decide⟩ : In 0 0 0) cc38 (by omega) (by omega)
      exact hJ28 _ _ _ hP hD hS (lv_sub hl [0, 1, 2] rfl)

abbrev rm_X11_digit_0_5 : Room := { frames := 3, cells := 0, slots := 0, locals := 61 }
abbrev po_X11_digit_0_5 (g : GG) (ad : Nat → Nat) (th : Nat → Int) (L : List Nat) (f : HP)  : Int32 → (List Nat × HP) → Prop := fun r u => u.1 = L ∧ TI g ad th u.2 ∧ (∀ b, b ≠ (ad 255) → u.2 b = f b)
set_option maxHeartbeats 4000000 in
set_option maxRecDepth 100000 in
theorem s_X11_digit_0_5 (l : Launch) (g : GG) (ad : Nat → Nat) (th : Nat → Int) (L : List Nat) (f : HP) (sz : Nat)  (hst : ST ad L) (hT : TI g ad th f)  : MtI l g yX11_digit cX11_digit 3 (some .int) rm_X11_digit_0_5 [.ref (ad 255), .int 0, .int 5] L f sz (po_X11_digit_0_5 g ad th L f ) := by
  refine MtI.of (by decide +kernel) (Nat.le_of_ble_eq_true rfl) ?_
  intro p e s m below meth c A hEn hP hD hS ls hl
  obtain ⟨hx, hb, hr, hml, hown, hlocks, hts, hG, hA, hE, hnm⟩ := hEn
  have hown : s.vm.findClass "RulerWordModel" = some m.cls := hown
  have hl : lv_has ls 3 [(0, .ref (ad 255)), (1, .int 0), (2, .int 5)] := hl
  have hfr : (∀ b, b ≠ (ad 255) → f b = f b) := fun b z0_ => rfl
  refine lv_aload_n hx hb dX11_digit_0 rfl (lv_at hl 0 rfl) ?_
  obtain ⟨v0_1, v2_1, v3_1, v4_1, v5_1, v6_1, v8_1, v9_1, v12_1, v13_1, v14_1, v15_1, v16_1, v17_1, v18_1, v19_1, v20_1, v21_1, v22_1, v23_1, v25_1, v36_1, v37_1, v38_1, v39_1, v40_1, v45_1, v46_1, v47_1, v48_1, v50_1, v51_1, v53_1, v55_1, hf2, hv0_1, hv2_1, hv3_1, hv4_1, hv5_1, hv6_1, hv8_1, hv12_1, hv13_1, hv14_1, hg14_1, hv15_1, hg15_1, hv17_1, hg17_1, hv20_1, hv23_1, hg23_1, hv25_1, hv36_1, hv47_1, hv48_1, hv53_1, hv55_1⟩ := hT.2.2 0 (by decide)
  refine call_v (run_V (rm := rm_X11_digits) hx hb hml hown hts (s_X11_digits l g ad th _ _ _  hst hT ) cV_X11_digits wg_1570 ⟨Nat.le_of_ble_eq_true rfl, Nat.le_of_ble_eq_true rfl⟩ hG hE hA hP hD hS (hst.1 255 (by decide)) hf2 rfl rfl hl.1 (As := []) (rest := []) rfl (Nat.le_of_ble_eq_true rfl) dX11_digit_1 ⟨Nat.le_of_ble_eq_true rfl, Nat.le_of_ble_eq_true rfl⟩) hA hD hS (fun L4 f5 H locs hp6 hP hD hS => ?_)
  obtain ⟨eL7L, eL7T, eL7F, eL7X0⟩ := hp6
  have eL7L : L4 = L := eL7L
  rw [eL7L] at hP hD
  have hT : TI g ad th f5 := eL7T
  have eL7F : ∀ b, b ≠ (ad 255) → f5 b = f b := eL7F
  have hfr : (∀ b, b ≠ (ad 255) → f5 b = f b) := fun b z0_ => (eL7F b z0_).trans (hfr b z0_)
  obtain ⟨v0_8, v2_8, v3_8, v4_8, v5_8, v6_8, v8_8, v9_8, v12_8, v13_8, v14_8, v15_8, v16_8, v17_8, v18_8, v19_8, v20_8, v21_8, v22_8, v23_8, v25_8, v36_8, v37_8, v38_8, v39_8, v40_8, v45_8, v46_8, v47_8, v48_8, v50_8, v51_8, v53_8, v55_8, hf9, hv0_8, hv2_8, hv3_8, hv4_8, hv5_8, hv6_8, hv8_8, hv12_8, hv13_8, hv14_8, hg14_8, hv15_8, hg15_8, hv17_8, hg17_8, hv20_8, hv23_8, hg23_8, hv25_8, hv36_8, hv47_8, hv48_8, hv53_8, hv55_8⟩ := hT.2.2 0 (by decide)
  have hg10 : v5_8.toInt + v6_8.toInt ≤ 500 := eL7X0 _ _ ⟨_, hf9, rfl⟩ ⟨_, hf9, rfl⟩
  refine lv_aload_n hx hb dX11_digit_4 rfl (lv_at hl 0 rfl) ?_
  refine pl_get (v := .int v6_8) hx hb hts (fun w h => mT (inX11 w h)) hown hG.1 hP (hst.1 255 (by decide)) hf9 rfl 6 (by decide) (hts _ (mT wg_1342)) (fun _ h => h) rfl dX11_digit_5 ?_
  refine lv_iconst (v := 1) hx hb dX11_digit_8 (by decide) ?_
  have hJ28 : ∀ (H : Heap) (locs : List Loc) (ls : Array Slot), va_P g.1 vwCl (va_pl L f5) H → va_D A (va_pl L f5) → va_S A s.heap H locs → lv_has ls 3 [(0, .ref (ad 255)), (1, .int 0), (2, .int 5)] → W p l e rm_X11_digit_0_5 s m [.ref (ad 255), .int 0, .int 5].toArray below meth c H locs 0 0 (MQ below (va_Qi (po_X11_digit_0_5 g ad th L f ) (PstB g A) A) [.ref (ad 255), .int 0, .int 5].toArray s rm_X11_digit_0_5.cells rm_X11_digit_0_5.slots A) (F0 m 28 ls []) := by
    intro H locs ls hP hD hS hl
    refine lv_aload_n hx hb dX11_digit_28 rfl (lv_at hl 0 rfl) ?_
    refine lv_aload_n hx hb dX11_digit_29 rfl (lv_at hl 0 rfl) ?_
    refine pl_get (v := .int v5_8) hx hb hts (fun w h => mT (inX11 w h)) hown hG.1 hP (hst.1 255 (by decide)) hf9 rfl 5 (by decide) (hts _ (mT wg_1341)) (fun _ h => h) rfl dX11_digit_30 ?_
    refine call_v (run_V (rm := rm_X11_fails) hx hb hml hown hts (s_X11_fails l g ad th _ _ _ v5_8 hst hT hv5_8) cV_X11_fails wg_1545 ⟨Nat.le_of_ble_eq_true rfl, Nat.le_of_ble_eq_true rfl⟩ hG hE hA hP hD hS (hst.1 255 (by decide)) hf9 rfl rfl hl.1 (As := [.int v5_8]) (rest := []) rfl (Nat.le_of_ble_eq_true rfl) dX11_digit_33 ⟨Nat.le_of_ble_eq_true rfl, Nat.le_of_ble_eq_true rfl⟩) hA hD hS (fun L12 f13 H locs hp14 hP hD hS => ?_)
    obtain ⟨eL15L, eL15T, eL15F⟩ := hp14
    have eL15L : L12 = L := eL15L
    rw [eL15L] at hP hD
    have hT : TI g ad th f13 := eL15T
    have eL15F : ∀ b, b ≠ (ad 255) → f13 b = f5 b := eL15F
    have hfr : (∀ b, b ≠ (ad 255) → f13 b = f b) := fun b z0_ => (eL15F b z0_).trans (hfr b z0_)
    refine lv_iload_n hx hb dX11_digit_36 rfl (lv_at hl 1 rfl) ?_
    exact ret_i (ty := .int) hx hb hr hlocks (rfl) hP hD hS (Nat.le_of_ble_eq_true rfl) (Nat.le_of_ble_eq_true rfl) (⟨rfl, hT, hfr⟩) dX11_digit_37
  refine lv_icmp_ne (tgt := 28) hx hb dX11_digit_9 (by decide) (fun c16 => ?_) (fun c16 => ?_)
  ·
    have cc17 : v6_8.toInt ≠ (1 : Int32).toInt := i32_ne c16
    exact hJ28 _ _ _ hP hD hS (lv_sub hl [0, 1, 2] rfl)
  ·
    have cc18 : v6_8.toInt = (1 : Int32).toInt := congrArg Int32.toInt c16
    have hb19 : In v6_8 1 1 := In.eq1 hv6_8 (⟨by decide, by decide⟩ : In 1 1 1) cc18 (by omega) (by omega)
    refine lv_aload_n hx hb dX11_digit_12 rfl (lv_at hl 0 rfl) ?_
    refine lv_iconst (v := 0) hx hb dX11_digit_13 (by decide) ?_
    refine call_i (run_V (rm := rm_X11_digitAt) hx hb hml hown hts (s_X11_digitAt l g ad th _ _ _ 0 v5_8 hst hT (⟨by decide, by decide⟩ : In 0 0 500) (⟨_, hf9, rfl⟩) (by have oc0 : (0 : Int32).toInt = 0 := (by decide); obtain ⟨o0a, o0b⟩ := (hv5_8 : In _ _ _); obtain ⟨o1a, o1b⟩ := (hb19 : In _ _ _); omega)) cV_X11_digitAt wg_1577 ⟨Nat.le_of_ble_eq_true rfl, Nat.le_of_ble_eq_true rfl⟩ hG hE hA hP hD hS (hst.1 255 (by decide)) hf9 rfl rfl hl.1 (As := [.int 0]) (rest := []) rfl (Nat.le_of_ble_eq_true rfl) dX11_digit_14 ⟨Nat.le_of_ble_eq_true rfl, Nat.le_of_ble_eq_true rfl⟩) hA hD hS (fun r20 L21 f22 H locs hp23 hP hD hS => ?_)
    obtain ⟨eL24L, eL24T, eL24R⟩ := hp23
    have eL24L : L21 = L := eL24L
    have eL24T : f22 = f5 := eL24T
    rw [eL24L, eL24T] at hP hD
    have eL24R : In r20 (-176) 79 := eL24R
    refine lv_i2l hx hb dX11_digit_17 rfl ?_
    refine lv_iload_n hx hb dX11_digit_18 rfl (lv_at hl 1 rfl) ?_
    refine lv_i2l (v := 0) hx hb dX11_digit_19 (by decide) ?_
    refine lv_iload_n hx hb dX11_digit_20 rfl (lv_at hl 2 rfl) ?_
    refine lv_i2l (v := 5) hx hb dX11_digit_21 (by decide) ?_
    refine call_i (run_S (rm := rm_X11_isIn) hx hb hml hown hts (s_X11_isIn l g ad th _ _ _ (r20.toInt64) 0 5 hst hT ) cS_X11_isIn wg_1581 ⟨Nat.le_of_ble_eq_true rfl, Nat.le_of_ble_eq_true rfl⟩ hG hE hA hP hD hS rfl hl.1 (As := [.long (r20.toInt64), .long 0, .long 5]) (rest := []) rfl (Nat.le_of_ble_eq_true rfl) dX11_digit_22 ⟨Nat.le_of_ble_eq_true rfl, Nat.le_of_ble_eq_true rfl⟩) hA hD hS (fun r25 L26 f27 H locs hp28 hP hD hS => ?_)
    obtain ⟨eL29L, eL29T, eL29R⟩ := hp28
    have eL29L : L26 = L := eL29L
    have eL29T : f27 = f5 := eL29T
    rw [eL29L, eL29T] at hP hD
    have eL29R : In r25 0 1 := eL29R
    refine lv_if_ne (tgt := 38) hx hb dX11_digit_25 (by decide) (fun c30 => ?_) (fun c30 => ?_)
    ·
      have cc31 : r25.toInt ≠ (0 : Int32).toInt := i32_ne c30
      have hb32 : In r25 1 1 := In.ne1 eL29R (⟨by decide, by decide⟩ : In 0 0 0) cc31 (by omega) (by omega)
      refine lv_aload_n hx hb dX11_digit_38 rfl (lv_at hl 0 rfl) ?_
      refine lv_iconst (v := 0) hx hb dX11_digit_39 (by decide) ?_
      refine call_i (run_V (rm := rm_X11_digitAt) hx hb hml hown hts (s_X11_digitAt l g ad th _ _ _ 0 v5_8 hst hT (⟨by decide, by decide⟩ : In 0 0 500) (⟨_, hf9, rfl⟩) (by have oc0 : (0 : Int32).toInt = 0 := (by decide); obtain ⟨o0a, o0b⟩ := (hv5_8 : In _ _ _); obtain ⟨o1a, o1b⟩ := (hb19 : In _ _ _); omega)) cV_X11_digitAt wg_1577 ⟨Nat.le_of_ble_eq_true rfl, Nat.le_of_ble_eq_true rfl⟩ hG hE hA hP hD hS (hst.1 255 (by decide)) hf9 rfl rfl hl.1 (As := [.int 0]) (rest := []) rfl (Nat.le_of_ble_eq_true rfl) dX11_digit_40 ⟨Nat.le_of_ble_eq_true rfl, Nat.le_of_ble_eq_true rfl⟩) hA hD hS (fun r33 L34 f35 H locs hp36 hP hD hS => ?_)
      obtain ⟨eL37L, eL37T, eL37R⟩ := hp36
      have eL37L : L34 = L := eL37L
      have eL37T : f35 = f5 := eL37T
      rw [eL37L, eL37T] at hP hD
      have eL37R : In r33 (-176) 79 := eL37R
      exact ret_i (ty := .int) hx hb hr hlocks (rfl) hP hD hS (Nat.le_of_ble_eq_true rfl) (Nat.le_of_ble_eq_true rfl) (⟨rfl, hT, hfr⟩) dX11_digit_43
    ·
      have cc38 : r25.toInt = (0 : Int32).toInt := congrArg Int32.toInt c30
      have hb39 : In r25 0 0 := In.eq1 eL29R (⟨by decide, by decide⟩ : In 0 0 0) cc38 (by omega) (by omega)
      exact hJ28 _ _ _ hP hD hS (lv_sub hl [0, 1, 2] rfl)

abbrev rm_X11_digit_0_2 : Room := { frames := 3, cells := 0, slots := 0, locals := 61 }
abbrev po_X11_digit_0_2 (g : GG) (ad : Nat → Nat) (th : Nat → Int) (L : List Nat) (f : HP)  : Int32 → (List Nat × HP) → Prop := fun r u => u.1 = L ∧ TI g ad th u.2 ∧ (∀ b, b ≠ (ad 255) → u.2 b = f b)
set_option maxHeartbeats 4000000 in
set_option maxRecDepth 100000 in
theorem s_X11_digit_0_2 (l : Launch) (g : GG) (ad : Nat → Nat) (th : Nat → Int) (L : List Nat) (f : HP) (sz : Nat)  (hst : ST ad L) (hT : TI g ad th f)  : MtI l g yX11_digit cX11_digit 3 (some .int) rm_X11_digit_0_2 [.ref (ad 255), .int 0, .int 2] L f sz (po_X11_digit_0_2 g ad th L f ) := by
  refine MtI.of (by decide +kernel) (Nat.le_of_ble_eq_true rfl) ?_
  intro p e s m below meth c A hEn hP hD hS ls hl
  obtain ⟨hx, hb, hr, hml, hown, hlocks, hts, hG, hA, hE, hnm⟩ := hEn
  have hown : s.vm.findClass "RulerWordModel" = some m.cls := hown
  have hl : lv_has ls 3 [(0, .ref (ad 255)), (1, .int 0), (2, .int 2)] := hl
  have hfr : (∀ b, b ≠ (ad 255) → f b = f b) := fun b z0_ => rfl
  refine lv_aload_n hx hb dX11_digit_0 rfl (lv_at hl 0 rfl) ?_
  obtain ⟨v0_1, v2_1, v3_1, v4_1, v5_1, v6_1, v8_1, v9_1, v12_1, v13_1, v14_1, v15_1, v16_1, v17_1, v18_1, v19_1, v20_1, v21_1, v22_1, v23_1, v25_1, v36_1, v37_1, v38_1, v39_1, v40_1, v45_1, v46_1, v47_1, v48_1, v50_1, v51_1, v53_1, v55_1, hf2, hv0_1, hv2_1, hv3_1, hv4_1, hv5_1, hv6_1, hv8_1, hv12_1, hv13_1, hv14_1, hg14_1, hv15_1, hg15_1, hv17_1, hg17_1, hv20_1, hv23_1, hg23_1, hv25_1, hv36_1, hv47_1, hv48_1, hv53_1, hv55_1⟩ := hT.2.2 0 (by decide)
  refine call_v (run_V (rm := rm_X11_digits) hx hb hml hown hts (s_X11_digits l g ad th _ _ _  hst hT ) cV_X11_digits wg_1570 ⟨Nat.le_of_ble_eq_true rfl, Nat.le_of_ble_eq_true rfl⟩ hG hE hA hP hD hS (hst.1 255 (by decide)) hf2 rfl rfl hl.1 (As := []) (rest := []) rfl (Nat.le_of_ble_eq_true rfl) dX11_digit_1 ⟨Nat.le_of_ble_eq_true rfl, Nat.le_of_ble_eq_true rfl⟩) hA hD hS (fun L4 f5 H locs hp6 hP hD hS => ?_)
  obtain ⟨eL7L, eL7T, eL7F, eL7X0⟩ := hp6
  have eL7L : L4 = L := eL7L
  rw [eL7L] at hP hD
  have hT : TI g ad th f5 := eL7T
  have eL7F : ∀ b, b ≠ (ad 255) → f5 b = f b := eL7F
  have hfr : (∀ b, b ≠ (ad 255) → f5 b = f b) := fun b z0_ => (eL7F b z0_).trans (hfr b z0_)
  obtain ⟨v0_8, v2_8, v3_8, v4_8, v5_8, v6_8, v8_8, v9_8, v12_8, v13_8, v14_8, v15_8, v16_8, v17_8, v18_8, v19_8, v20_8, v21_8, v22_8, v23_8, v25_8, v36_8, v37_8, v38_8, v39_8, v40_8, v45_8, v46_8, v47_8, v48_8, v50_8, v51_8, v53_8, v55_8, hf9, hv0_8, hv2_8, hv3_8, hv4_8, hv5_8, hv6_8, hv8_8, hv12_8, hv13_8, hv14_8, hg14_8, hv15_8, hg15_8, hv17_8, hg17_8, hv20_8, hv23_8, hg23_8, hv25_8, hv36_8, hv47_8, hv48_8, hv53_8, hv55_8⟩ := hT.2.2 0 (by decide)
  have hg10 : v5_8.toInt + v6_8.toInt ≤ 500 := eL7X0 _ _ ⟨_, hf9, rfl⟩ ⟨_, hf9, rfl⟩
  refine lv_aload_n hx hb dX11_digit_4 rfl (lv_at hl 0 rfl) ?_
  refine pl_get (v := .int v6_8) hx hb hts (fun w h => mT (inX11 w h)) hown hG.1 hP (hst.1 255 (by decide)) hf9 rfl 6 (by decide) (hts _ (mT wg_1342)) (fun _ h => h) rfl dX11_digit_5 ?_
  refine lv_iconst (v := 1) hx hb dX11_digit_8 (by decide) ?_
  have hJ28 : ∀ (H : Heap) (locs : List Loc) (ls : Array Slot), va_P g.1 vwCl (va_pl L f5) H → va_D A (va_pl L f5) → va_S A s.heap H locs → lv_has ls 3 [(0, .ref (ad 255)), (1, .int 0), (2, .int 2)] → W p l e rm_X11_digit_0_2 s m [.ref (ad 255), .int 0, .int 2].toArray below meth c H locs 0 0 (MQ below (va_Qi (po_X11_digit_0_2 g ad th L f ) (PstB g A) A) [.ref (ad 255), .int 0, .int 2].toArray s rm_X11_digit_0_2.cells rm_X11_digit_0_2.slots A) (F0 m 28 ls []) := by
    intro H locs ls hP hD hS hl
    refine lv_aload_n hx hb dX11_digit_28 rfl (lv_at hl 0 rfl) ?_
    refine lv_aload_n hx hb dX11_digit_29 rfl (lv_at hl 0 rfl) ?_
    refine pl_get (v := .int v5_8) hx hb hts (fun w h => mT (inX11 w h)) hown hG.1 hP (hst.1 255 (by decide)) hf9 rfl 5 (by decide) (hts _ (mT wg_1341)) (fun _ h => h) rfl dX11_digit_30 ?_
    refine call_v (run_V (rm := rm_X11_fails) hx hb hml hown hts (s_X11_fails l g ad th _ _ _ v5_8 hst hT hv5_8) cV_X11_fails wg_1545 ⟨Nat.le_of_ble_eq_true rfl, Nat.le_of_ble_eq_true rfl⟩ hG hE hA hP hD hS (hst.1 255 (by decide)) hf9 rfl rfl hl.1 (As := [.int v5_8]) (rest := []) rfl (Nat.le_of_ble_eq_true rfl) dX11_digit_33 ⟨Nat.le_of_ble_eq_true rfl, Nat.le_of_ble_eq_true rfl⟩) hA hD hS (fun L12 f13 H locs hp14 hP hD hS => ?_)
    obtain ⟨eL15L, eL15T, eL15F⟩ := hp14
    have eL15L : L12 = L := eL15L
    rw [eL15L] at hP hD
    have hT : TI g ad th f13 := eL15T
    have eL15F : ∀ b, b ≠ (ad 255) → f13 b = f5 b := eL15F
    have hfr : (∀ b, b ≠ (ad 255) → f13 b = f b) := fun b z0_ => (eL15F b z0_).trans (hfr b z0_)
    refine lv_iload_n hx hb dX11_digit_36 rfl (lv_at hl 1 rfl) ?_
    exact ret_i (ty := .int) hx hb hr hlocks (rfl) hP hD hS (Nat.le_of_ble_eq_true rfl) (Nat.le_of_ble_eq_true rfl) (⟨rfl, hT, hfr⟩) dX11_digit_37
  refine lv_icmp_ne (tgt := 28) hx hb dX11_digit_9 (by decide) (fun c16 => ?_) (fun c16 => ?_)
  ·
    have cc17 : v6_8.toInt ≠ (1 : Int32).toInt := i32_ne c16
    exact hJ28 _ _ _ hP hD hS (lv_sub hl [0, 1, 2] rfl)
  ·
    have cc18 : v6_8.toInt = (1 : Int32).toInt := congrArg Int32.toInt c16
    have hb19 : In v6_8 1 1 := In.eq1 hv6_8 (⟨by decide, by decide⟩ : In 1 1 1) cc18 (by omega) (by omega)
    refine lv_aload_n hx hb dX11_digit_12 rfl (lv_at hl 0 rfl) ?_
    refine lv_iconst (v := 0) hx hb dX11_digit_13 (by decide) ?_
    refine call_i (run_V (rm := rm_X11_digitAt) hx hb hml hown hts (s_X11_digitAt l g ad th _ _ _ 0 v5_8 hst hT (⟨by decide, by decide⟩ : In 0 0 500) (⟨_, hf9, rfl⟩) (by have oc0 : (0 : Int32).toInt = 0 := (by decide); obtain ⟨o0a, o0b⟩ := (hv5_8 : In _ _ _); obtain ⟨o1a, o1b⟩ := (hb19 : In _ _ _); omega)) cV_X11_digitAt wg_1577 ⟨Nat.le_of_ble_eq_true rfl, Nat.le_of_ble_eq_true rfl⟩ hG hE hA hP hD hS (hst.1 255 (by decide)) hf9 rfl rfl hl.1 (As := [.int 0]) (rest := []) rfl (Nat.le_of_ble_eq_true rfl) dX11_digit_14 ⟨Nat.le_of_ble_eq_true rfl, Nat.le_of_ble_eq_true rfl⟩) hA hD hS (fun r20 L21 f22 H locs hp23 hP hD hS => ?_)
    obtain ⟨eL24L, eL24T, eL24R⟩ := hp23
    have eL24L : L21 = L := eL24L
    have eL24T : f22 = f5 := eL24T
    rw [eL24L, eL24T] at hP hD
    have eL24R : In r20 (-176) 79 := eL24R
    refine lv_i2l hx hb dX11_digit_17 rfl ?_
    refine lv_iload_n hx hb dX11_digit_18 rfl (lv_at hl 1 rfl) ?_
    refine lv_i2l (v := 0) hx hb dX11_digit_19 (by decide) ?_
    refine lv_iload_n hx hb dX11_digit_20 rfl (lv_at hl 2 rfl) ?_
    refine lv_i2l (v := 2) hx hb dX11_digit_21 (by decide) ?_
    refine call_i (run_S (rm := rm_X11_isIn) hx hb hml hown hts (s_X11_isIn l g ad th _ _ _ (r20.toInt64) 0 2 hst hT ) cS_X11_isIn wg_1581 ⟨Nat.le_of_ble_eq_true rfl, Nat.le_of_ble_eq_true rfl⟩ hG hE hA hP hD hS rfl hl.1 (As := [.long (r20.toInt64), .long 0, .long 2]) (rest := []) rfl (Nat.le_of_ble_eq_true rfl) dX11_digit_22 ⟨Nat.le_of_ble_eq_true rfl, Nat.le_of_ble_eq_true rfl⟩) hA hD hS (fun r25 L26 f27 H locs hp28 hP hD hS => ?_)
    obtain ⟨eL29L, eL29T, eL29R⟩ := hp28
    have eL29L : L26 = L := eL29L
    have eL29T : f27 = f5 := eL29T
    rw [eL29L, eL29T] at hP hD
    have eL29R : In r25 0 1 := eL29R
    refine lv_if_ne (tgt := 38) hx hb dX11_digit_25 (by decide) (fun c30 => ?_) (fun c30 => ?_)
    ·
      have cc31 : r25.toInt ≠ (0 : Int32).toInt := i32_ne c30
      have hb32 : In r25 1 1 := In.ne1 eL29R (⟨by decide, by decide⟩ : In 0 0 0) cc31 (by omega) (by omega)
      refine lv_aload_n hx hb dX11_digit_38 rfl (lv_at hl 0 rfl) ?_
      refine lv_iconst (v := 0) hx hb dX11_digit_39 (by decide) ?_
      refine call_i (run_V (rm := rm_X11_digitAt) hx hb hml hown hts (s_X11_digitAt l g ad th _ _ _ 0 v5_8 hst hT (⟨by decide, by decide⟩ : In 0 0 500) (⟨_, hf9, rfl⟩) (by have oc0 : (0 : Int32).toInt = 0 := (by decide); obtain ⟨o0a, o0b⟩ := (hv5_8 : In _ _ _); obtain ⟨o1a, o1b⟩ := (hb19 : In _ _ _); omega)) cV_X11_digitAt wg_1577 ⟨Nat.le_of_ble_eq_true rfl, Nat.le_of_ble_eq_true rfl⟩ hG hE hA hP hD hS (hst.1 255 (by decide)) hf9 rfl rfl hl.1 (As := [.int 0]) (rest := []) rfl (Nat.le_of_ble_eq_true rfl) dX11_digit_40 ⟨Nat.le_of_ble_eq_true rfl, Nat.le_of_ble_eq_true rfl⟩) hA hD hS (fun r33 L34 f35 H locs hp36 hP hD hS => ?_)
      obtain ⟨eL37L, eL37T, eL37R⟩ := hp36
      have eL37L : L34 = L := eL37L
      have eL37T : f35 = f5 := eL37T
      rw [eL37L, eL37T] at hP hD
      have eL37R : In r33 (-176) 79 := eL37R
      exact ret_i (ty := .int) hx hb hr hlocks (rfl) hP hD hS (Nat.le_of_ble_eq_true rfl) (Nat.le_of_ble_eq_true rfl) (⟨rfl, hT, hfr⟩) dX11_digit_43
    ·
      have cc38 : r25.toInt = (0 : Int32).toInt := congrArg Int32.toInt c30
      have hb39 : In r25 0 0 := In.eq1 eL29R (⟨by decide, by decide⟩ : In 0 0 0) cc38 (by omega) (by omega)
      exact hJ28 _ _ _ hP hD hS (lv_sub hl [0, 1, 2] rfl)

abbrev rm_X11_digit_0_8 : Room := { frames := 3, cells := 0, slots := 0, locals := 61 }
abbrev po_X11_digit_0_8 (g : GG) (ad : Nat → Nat) (th : Nat → Int) (L : List Nat) (f : HP)  : Int32 → (List Nat × HP) → Prop := fun r u => u.1 = L ∧ TI g ad th u.2 ∧ (∀ b, b ≠ (ad 255) → u.2 b = f b)
set_option maxHeartbeats 4000000 in
set_option maxRecDepth 100000 in
theorem s_X11_digit_0_8 (l : Launch) (g : GG) (ad : Nat → Nat) (th : Nat → Int) (L : List Nat) (f : HP) (sz : Nat)  (hst : ST ad L) (hT : TI g ad th f)  : MtI l g yX11_digit cX11_digit 3 (some .int) rm_X11_digit_0_8 [.ref (ad 255), .int 0, .int 8] L f sz (po_X11_digit_0_8 g ad th L f ) := by
  refine MtI.of (by decide +kernel) (Nat.le_of_ble_eq_true rfl) ?_
  intro p e s m below meth c A hEn hP hD hS ls hl
  obtain ⟨hx, hb, hr, hml, hown, hlocks, hts, hG, hA, hE, hnm⟩ := hEn
  have hown : s.vm.findClass "RulerWordModel" = some m.cls := hown
  have hl : lv_has ls 3 [(0, .ref (ad 255)), (1, .int 0), (2, .int 8)] := hl
  have hfr : (∀ b, b ≠ (ad 255) → f b = f b) := fun b z0_ => rfl
  refine lv_aload_n hx hb dX11_digit_0 rfl (lv_at hl 0 rfl) ?_
  obtain ⟨v0_1, v2_1, v3_1, v4_1, v5_1, v6_1, v8_1, v9_1, v12_1, v13_1, v14_1, v15_1, v16_1, v17_1, v18_1, v19_1, v20_1, v21_1, v22_1, v23_1, v25_1, v36_1, v37_1, v38_1, v39_1, v40_1, v45_1, v46_1, v47_1, v48_1, v50_1, v51_1, v53_1, v55_1, hf2, hv0_1, hv2_1, hv3_1, hv4_1, hv5_1, hv6_1, hv8_1, hv12_1, hv13_1, hv14_1, hg14_1, hv15_1, hg15_1, hv17_1, hg17_1, hv20_1, hv23_1, hg23_1, hv25_1, hv36_1, hv47_1, hv48_1, hv53_1, hv55_1⟩ := hT.2.2 0 (by decide)
  refine call_v (run_V (rm := rm_X11_digits) hx hb hml hown hts (s_X11_digits l g ad th _ _ _  hst hT ) cV_X11_digits wg_1570 ⟨Nat.le_of_ble_eq_true rfl, Nat.le_of_ble_eq_true rfl⟩ hG hE hA hP hD hS (hst.1 255 (by decide)) hf2 rfl rfl hl.1 (As := []) (rest := []) rfl (Nat.le_of_ble_eq_true rfl) dX11_digit_1 ⟨Nat.le_of_ble_eq_true rfl, Nat.le_of_ble_eq_true rfl⟩) hA hD hS (fun L4 f5 H locs hp6 hP hD hS => ?_)
  obtain ⟨eL7L, eL7T, eL7F, eL7X0⟩ := hp6
  have eL7L : L4 = L := eL7L
  rw [eL7L] at hP hD
  have hT : TI g ad th f5 := eL7T
  have eL7F : ∀ b, b ≠ (ad 255) → f5 b = f b := eL7F
  have hfr : (∀ b, b ≠ (ad 255) → f5 b = f b) := fun b z0_ => (eL7F b z0_).trans (hfr b z0_)
  obtain ⟨v0_8, v2_8, v3_8, v4_8, v5_8, v6_8, v8_8, v9_8, v12_8, v13_8, v14_8, v15_8, v16_8, v17_8, v18_8, v19_8, v20_8, v21_8, v22_8, v23_8, v25_8, v36_8, v37_8, v38_8, v39_8, v40_8, v45_8, v46_8, v47_8, v48_8, v50_8, v51_8, v53_8, v55_8, hf9, hv0_8, hv2_8, hv3_8, hv4_8, hv5_8, hv6_8, hv8_8, hv12_8, hv13_8, hv14_8, hg14_8, hv15_8, hg15_8, hv17_8, hg17_8, hv20_8, hv23_8, hg23_8, hv25_8, hv36_8, hv47_8, hv48_8, hv53_8, hv55_8⟩ := hT.2.2 0 (by decide)
  have hg10 : v5_8.toInt + v6_8.toInt ≤ 500 := eL7X0 _ _ ⟨_, hf9, rfl⟩ ⟨_, hf9, rfl⟩
  refine lv_aload_n hx hb dX11_digit_4 rfl (lv_at hl 0 rfl) ?_
  refine pl_get (v := .int v6_8) hx hb hts (fun w h => mT (inX11 w h)) hown hG.1 hP (hst.1 255 (by decide)) hf9 rfl 6 (by decide) (hts _ (mT wg_1342)) (fun _ h => h) rfl dX11_digit_5 ?_
  refine lv_iconst (v := 1) hx hb dX11_digit_8 (by decide) ?_
  have hJ28 : ∀ (H : Heap) (locs : List Loc) (ls : Array Slot), va_P g.1 vwCl (va_pl L f5) H → va_D A (va_pl L f5) → va_S A s.heap H locs → lv_has ls 3 [(0, .ref (ad 255)), (1, .int 0), (2, .int 8)] → W p l e rm_X11_digit_0_8 s m [.ref (ad 255), .int 0, .int 8].toArray below meth c H locs 0 0 (MQ below (va_Qi (po_X11_digit_0_8 g ad th L f ) (PstB g A) A) [.ref (ad 255), .int 0, .int 8].toArray s rm_X11_digit_0_8.cells rm_X11_digit_0_8.slots A) (F0 m 28 ls []) := by
    intro H locs ls hP hD hS hl
    refine lv_aload_n hx hb dX11_digit_28 rfl (lv_at hl 0 rfl) ?_
    refine lv_aload_n hx hb dX11_digit_29 rfl (lv_at hl 0 rfl) ?_
    refine pl_get (v := .int v5_8) hx hb hts (fun w h => mT (inX11 w h)) hown hG.1 hP (hst.1 255 (by decide)) hf9 rfl 5 (by decide) (hts _ (mT wg_1341)) (fun _ h => h) rfl dX11_digit_30 ?_
    refine call_v (run_V (rm := rm_X11_fails) hx hb hml hown hts (s_X11_fails l g ad th _ _ _ v5_8 hst hT hv5_8) cV_X11_fails wg_1545 ⟨Nat.le_of_ble_eq_true rfl, Nat.le_of_ble_eq_true rfl⟩ hG hE hA hP hD hS (hst.1 255 (by decide)) hf9 rfl rfl hl.1 (As := [.int v5_8]) (rest := []) rfl (Nat.le_of_ble_eq_true rfl) dX11_digit_33 ⟨Nat.le_of_ble_eq_true rfl, Nat.le_of_ble_eq_true rfl⟩) hA hD hS (fun L12 f13 H locs hp14 hP hD hS => ?_)
    obtain ⟨eL15L, eL15T, eL15F⟩ := hp14
    have eL15L : L12 = L := eL15L
    rw [eL15L] at hP hD
    have hT : TI g ad th f13 := eL15T
    have eL15F : ∀ b, b ≠ (ad 255) → f13 b = f5 b := eL15F
    have hfr : (∀ b, b ≠ (ad 255) → f13 b = f b) := fun b z0_ => (eL15F b z0_).trans (hfr b z0_)
    refine lv_iload_n hx hb dX11_digit_36 rfl (lv_at hl 1 rfl) ?_
    exact ret_i (ty := .int) hx hb hr hlocks (rfl) hP hD hS (Nat.le_of_ble_eq_true rfl) (Nat.le_of_ble_eq_true rfl) (⟨rfl, hT, hfr⟩) dX11_digit_37
  refine lv_icmp_ne (tgt := 28) hx hb dX11_digit_9 (by decide) (fun c16 => ?_) (fun c16 => ?_)
  ·
    have cc17 : v6_8.toInt ≠ (1 : Int32).toInt := i32_ne c16
    exact hJ28 _ _ _ hP hD hS (lv_sub hl [0, 1, 2] rfl)
  ·
    have cc18 : v6_8.toInt = (1 : Int32).toInt := congrArg Int32.toInt c16
    have hb19 : In v6_8 1 1 := In.eq1 hv6_8 (⟨by decide, by decide⟩ : In 1 1 1) cc18 (by omega) (by omega)
    refine lv_aload_n hx hb dX11_digit_12 rfl (lv_at hl 0 rfl) ?_
    refine lv_iconst (v := 0) hx hb dX11_digit_13 (by decide) ?_
    refine call_i (run_V (rm := rm_X11_digitAt) hx hb hml hown hts (s_X11_digitAt l g ad th _ _ _ 0 v5_8 hst hT (⟨by decide, by decide⟩ : In 0 0 500) (⟨_, hf9, rfl⟩) (by have oc0 : (0 : Int32).toInt = 0 := (by decide); obtain ⟨o0a, o0b⟩ := (hv5_8 : In _ _ _); obtain ⟨o1a, o1b⟩ := (hb19 : In _ _ _); omega)) cV_X11_digitAt wg_1577 ⟨Nat.le_of_ble_eq_true rfl, Nat.le_of_ble_eq_true rfl⟩ hG hE hA hP hD hS (hst.1 255 (by decide)) hf9 rfl rfl hl.1 (As := [.int 0]) (rest := []) rfl (Nat.le_of_ble_eq_true rfl) dX11_digit_14 ⟨Nat.le_of_ble_eq_true rfl, Nat.le_of_ble_eq_true rfl⟩) hA hD hS (fun r20 L21 f22 H locs hp23 hP hD hS => ?_)
    obtain ⟨eL24L, eL24T, eL24R⟩ := hp23
    have eL24L : L21 = L := eL24L
    have eL24T : f22 = f5 := eL24T
    rw [eL24L, eL24T] at hP hD
    have eL24R : In r20 (-176) 79 := eL24R
    refine lv_i2l hx hb dX11_digit_17 rfl ?_
    refine lv_iload_n hx hb dX11_digit_18 rfl (lv_at hl 1 rfl) ?_
    refine lv_i2l (v := 0) hx hb dX11_digit_19 (by decide) ?_
    refine lv_iload_n hx hb dX11_digit_20 rfl (lv_at hl 2 rfl) ?_
    refine lv_i2l (v := 8) hx hb dX11_digit_21 (by decide) ?_
    refine call_i (run_S (rm := rm_X11_isIn) hx hb hml hown hts (s_X11_isIn l g ad th _ _ _ (r20.toInt64) 0 8 hst hT ) cS_X11_isIn wg_1581 ⟨Nat.le_of_ble_eq_true rfl, Nat.le_of_ble_eq_true rfl⟩ hG hE hA hP hD hS rfl hl.1 (As := [.long (r20.toInt64), .long 0, .long 8]) (rest := []) rfl (Nat.le_of_ble_eq_true rfl) dX11_digit_22 ⟨Nat.le_of_ble_eq_true rfl, Nat.le_of_ble_eq_true rfl⟩) hA hD hS (fun r25 L26 f27 H locs hp28 hP hD hS => ?_)
    obtain ⟨eL29L, eL29T, eL29R⟩ := hp28
    have eL29L : L26 = L := eL29L
    have eL29T : f27 = f5 := eL29T
    rw [eL29L, eL29T] at hP hD
    have eL29R : In r25 0 1 := eL29R
    refine lv_if_ne (tgt := 38) hx hb dX11_digit_25 (by decide) (fun c30 => ?_) (fun c30 => ?_)
    ·
      have cc31 : r25.toInt ≠ (0 : Int32).toInt := i32_ne c30
      have hb32 : In r25 1 1 := In.ne1 eL29R (⟨by decide, by decide⟩ : In 0 0 0) cc31 (by omega) (by omega)
      refine lv_aload_n hx hb dX11_digit_38 rfl (lv_at hl 0 rfl) ?_
      refine lv_iconst (v := 0) hx hb dX11_digit_39 (by decide) ?_
      refine call_i (run_V (rm := rm_X11_digitAt) hx hb hml hown hts (s_X11_digitAt l g ad th _ _ _ 0 v5_8 hst hT (⟨by decide, by decide⟩ : In 0 0 500) (⟨_, hf9, rfl⟩) (by have oc0 : (0 : Int32).toInt = 0 := (by decide); obtain ⟨o0a, o0b⟩ := (hv5_8 : In _ _ _); obtain ⟨o1a, o1b⟩ := (hb19 : In _ _ _); omega)) cV_X11_digitAt wg_1577 ⟨Nat.le_of_ble_eq_true rfl, Nat.le_of_ble_eq_true rfl⟩ hG hE hA hP hD hS (hst.1 255 (by decide)) hf9 rfl rfl hl.1 (As := [.int 0]) (rest := []) rfl (Nat.le_of_ble_eq_true rfl) dX11_digit_40 ⟨Nat.le_of_ble_eq_true rfl, Nat.le_of_ble_eq_true rfl⟩) hA hD hS (fun r33 L34 f35 H locs hp36 hP hD hS => ?_)
      obtain ⟨eL37L, eL37T, eL37R⟩ := hp36
      have eL37L : L34 = L := eL37L
      have eL37T : f35 = f5 := eL37T
      rw [eL37L, eL37T] at hP hD
      have eL37R : In r33 (-176) 79 := eL37R
      exact ret_i (ty := .int) hx hb hr hlocks (rfl) hP hD hS (Nat.le_of_ble_eq_true rfl) (Nat.le_of_ble_eq_true rfl) (⟨rfl, hT, hfr⟩) dX11_digit_43
    ·
      have cc38 : r25.toInt = (0 : Int32).toInt := congrArg Int32.toInt c30
      have hb39 : In r25 0 0 := In.eq1 eL29R (⟨by decide, by decide⟩ : In 0 0 0) cc38 (by omega) (by omega)
      exact hJ28 _ _ _ hP hD hS (lv_sub hl [0, 1, 2] rfl)

abbrev rm_X11_pieceHere : Room := { frames := 5, cells := 0, slots := 0, locals := 108 }
abbrev po_X11_pieceHere (g : GG) (ad : Nat → Nat) (th : Nat → Int) (L : List Nat) (f : HP)  : Int32 → (List Nat × HP) → Prop := fun r u => u.1 = L ∧ TI g ad th u.2 ∧ (∀ b, b ≠ (ad 255) → u.2 b = f b) ∧ In r (-1) 5
set_option maxHeartbeats 4000000 in
set_option maxRecDepth 100000 in
theorem s_X11_pieceHere (l : Launch) (g : GG) (ad : Nat → Nat) (th : Nat → Int) (L : List Nat) (f : HP) (sz : Nat)  (hst : ST ad L) (hT : TI g ad th f)  : MtI l g yX11_pieceHere cX11_pieceHere 1 (some .int) rm_X11_pieceHere [.ref (ad 255)] L f sz (po_X11_pieceHere g ad th L f ) := by
  refine MtI.of (by decide +kernel) (Nat.le_of_ble_eq_true rfl) ?_
  intro p e s m below meth c A hEn hP hD hS ls hl
  obtain ⟨hx, hb, hr, hml, hown, hlocks, hts, hG, hA, hE, hnm⟩ := hEn
  have hown : s.vm.findClass "RulerWordModel" = some m.cls := hown
  have hl : lv_has ls 1 [(0, .ref (ad 255))] := hl
  have hfr : (∀ b, b ≠ (ad 255) → f b = f b) := fun b z0_ => rfl
  refine lv_aload_n hx hb dX11_pieceHere_0 rfl (lv_at hl 0 rfl) ?_
  refine va_ldcS hx hb hown (hG.2.2.1 ("RulerWordModel", 139, "size", 2) (by decide +kernel)) dX11_pieceHere_1 ?_
  obtain ⟨v0_1, v2_1, v3_1, v4_1, v5_1, v6_1, v8_1, v9_1, v12_1, v13_1, v14_1, v15_1, v16_1, v17_1, v18_1, v19_1, v20_1, v21_1, v22_1, v23_1, v25_1, v36_1, v37_1, v38_1, v39_1, v40_1, v45_1, v46_1, v47_1, v48_1, v50_1, v51_1, v53_1, v55_1, hf2, hv0_1, hv2_1, hv3_1, hv4_1, hv5_1, hv6_1, hv8_1, hv12_1, hv13_1, hv14_1, hg14_1, hv15_1, hg15_1, hv17_1, hg17_1, hv20_1, hv23_1, hg23_1, hv25_1, hv36_1, hv47_1, hv48_1, hv53_1, hv55_1⟩ := hT.2.2 0 (by decide)
  refine call_i (run_V (rm := rm_X11_takes) hx hb hml hown hts (s_X11_takes l g ad th _ _ _ 2 hst hT (by decide)) cV_X11_takes wg_1538 ⟨Nat.le_of_ble_eq_true rfl, Nat.le_of_ble_eq_true rfl⟩ hG hE hA hP hD hS (hst.1 255 (by decide)) hf2 rfl rfl hl.1 (As := [.ref (g.2.2.1 2)]) (rest := []) rfl (Nat.le_of_ble_eq_true rfl) dX11_pieceHere_3 ⟨Nat.le_of_ble_eq_true rfl, Nat.le_of_ble_eq_true rfl⟩) hA hD hS (fun r3 L4 f5 H locs hp6 hP hD hS => ?_)
  obtain ⟨eL7L, eL7T, eL7F, eL7R⟩ := hp6
  have eL7L : L4 = L := eL7L
  rw [eL7L] at hP hD
  have hT : TI g ad th f5 := eL7T
  have eL7F : ∀ b, b ≠ (ad 255) → f5 b = f b := eL7F
  have hfr : (∀ b, b ≠ (ad 255) → f5 b = f b) := fun b z0_ => (eL7F b z0_).trans (hfr b z0_)
  have eL7R : In r3 0 1 := eL7R
  refine lv_if_eq (tgt := 11) hx hb dX11_pieceHere_6 (by decide) (fun c8 => ?_) (fun c8 => ?_)
  ·
    have cc9 : r3.toInt = (0 : Int32).toInt := congrArg Int32.toInt c8
    have hb10 : In r3 0 0 := In.eq1 eL7R (⟨by decide, by decide⟩ : In 0 0 0) cc9 (by omega) (by omega)
    refine lv_aload_n hx hb dX11_pieceHere_11 rfl (lv_at hl 0 rfl) ?_
    refine va_ldcS hx hb hown (hG.2.2.1 ("RulerWordModel", 145, "bound", 3) (by decide +kernel)) dX11_pieceHere_12 ?_
    obtain ⟨v0_11, v2_11, v3_11, v4_11, v5_11, v6_11, v8_11, v9_11, v12_11, v13_11, v14_11, v15_11, v16_11, v17_11, v18_11, v19_11, v20_11, v21_11, v22_11, v23_11, v25_11, v36_11, v37_11, v38_11, v39_11, v40_11, v45_11, v46_11, v47_11, v48_11, v50_11, v51_11, v53_11, v55_11, hf12, hv0_11, hv2_11, hv3_11, hv4_11, hv5_11, hv6_11, hv8_11, hv12_11, hv13_11, hv14_11, hg14_11, hv15_11, hg15_11, hv17_11, hg17_11, hv20_11, hv23_11, hg23_11, hv25_11, hv36_11, hv47_11, hv48_11, hv53_11, hv55_11⟩ := hT.2.2 0 (by decide)
    refine call_i (run_V (rm := rm_X11_takes) hx hb hml hown hts (s_X11_takes l g ad th _ _ _ 3 hst hT (by decide)) cV_X11_takes wg_1538 ⟨Nat.le_of_ble_eq_true rfl, Nat.le_of_ble_eq_true rfl⟩ hG hE hA hP hD hS (hst.1 255 (by decide)) hf12 rfl rfl hl.1 (As := [.ref (g.2.2.1 3)]) (rest := []) rfl (Nat.le_of_ble_eq_true rfl) dX11_pieceHere_14 ⟨Nat.le_of_ble_eq_true rfl, Nat.le_of_ble_eq_true rfl⟩) hA hD hS (fun r13 L14 f15 H locs hp16 hP hD hS => ?_)
    obtain ⟨eL17L, eL17T, eL17F, eL17R⟩ := hp16
    have eL17L : L14 = L := eL17L
    rw [eL17L] at hP hD
    have hT : TI g ad th f15 := eL17T
    have eL17F : ∀ b, b ≠ (ad 255) → f15 b = f5 b := eL17F
    have hfr : (∀ b, b ≠ (ad 255) → f15 b = f b) := fun b z0_ => (eL17F b z0_).trans (hfr b z0_)
    have eL17R : In r13 0 1 := eL17R
    refine lv_if_eq (tgt := 22) hx hb dX11_pieceHere_17 (by decide) (fun c18 => ?_) (fun c18 => ?_)
    ·
      have cc19 : r13.toInt = (0 : Int32).toInt := congrArg Int32.toInt c18
      have hb20 : In r13 0 0 := In.eq1 eL17R (⟨by decide, by decide⟩ : In 0 0 0) cc19 (by omega) (by omega)
      refine lv_aload_n hx hb dX11_pieceHere_22 rfl (lv_at hl 0 rfl) ?_
      refine va_ldcS hx hb hown (hG.2.2.1 ("RulerWordModel", 147, "phases", 4) (by decide +kernel)) dX11_pieceHere_23 ?_
      obtain ⟨v0_21, v2_21, v3_21, v4_21, v5_21, v6_21, v8_21, v9_21, v12_21, v13_21, v14_21, v15_21, v16_21, v17_21, v18_21, v19_21, v20_21, v21_21, v22_21, v23_21, v25_21, v36_21, v37_21, v38_21, v39_21, v40_21, v45_21, v46_21, v47_21, v48_21, v50_21, v51_21, v53_21, v55_21, hf22, hv0_21, hv2_21, hv3_21, hv4_21, hv5_21, hv6_21, hv8_21, hv12_21, hv13_21, hv14_21, hg14_21, hv15_21, hg15_21, hv17_21, hg17_21, hv20_21, hv23_21, hg23_21, hv25_21, hv36_21, hv47_21, hv48_21, hv53_21, hv55_21⟩ := hT.2.2 0 (by decide)
      refine call_i (run_V (rm := rm_X11_takes) hx hb hml hown hts (s_X11_takes l g ad th _ _ _ 4 hst hT (by decide)) cV_X11_takes wg_1538 ⟨Nat.le_of_ble_eq_true rfl, Nat.le_of_ble_eq_true rfl⟩ hG hE hA hP hD hS (hst.1 255 (by decide)) hf22 rfl rfl hl.1 (As := [.ref (g.2.2.1 4)]) (rest := []) rfl (Nat.le_of_ble_eq_true rfl) dX11_pieceHere_25 ⟨Nat.le_of_ble_eq_true rfl, Nat.le_of_ble_eq_true rfl⟩) hA hD hS (fun r23 L24 f25 H locs hp26 hP hD hS => ?_)
      obtain ⟨eL27L, eL27T, eL27F, eL27R⟩ := hp26
      have eL27L : L24 = L := eL27L
      rw [eL27L] at hP hD
      have hT : TI g ad th f25 := eL27T
      have eL27F : ∀ b, b ≠ (ad 255) → f25 b = f15 b := eL27F
      have hfr : (∀ b, b ≠ (ad 255) → f25 b = f b) := fun b z0_ => (eL27F b z0_).trans (hfr b z0_)
      have eL27R : In r23 0 1 := eL27R
      refine lv_if_eq (tgt := 33) hx hb dX11_pieceHere_28 (by decide) (fun c28 => ?_) (fun c28 => ?_)
      ·
        have cc29 : r23.toInt = (0 : Int32).toInt := congrArg Int32.toInt c28
        have hb30 : In r23 0 0 := In.eq1 eL27R (⟨by decide, by decide⟩ : In 0 0 0) cc29 (by omega) (by omega)
        refine lv_aload_n hx hb dX11_pieceHere_33 rfl (lv_at hl 0 rfl) ?_
        refine va_ldcS hx hb hown (hG.2.2.1 ("RulerWordModel", 149, "starts", 5) (by decide +kernel)) dX11_pieceHere_34 ?_
        obtain ⟨v0_31, v2_31, v3_31, v4_31, v5_31, v6_31, v8_31, v9_31, v12_31, v13_31, v14_31, v15_31, v16_31, v17_31, v18_31, v19_31, v20_31, v21_31, v22_31, v23_31, v25_31, v36_31, v37_31, v38_31, v39_31, v40_31, v45_31, v46_31, v47_31, v48_31, v50_31, v51_31, v53_31, v55_31, hf32, hv0_31, hv2_31, hv3_31, hv4_31, hv5_31, hv6_31, hv8_31, hv12_31, hv13_31, hv14_31, hg14_31, hv15_31, hg15_31, hv17_31, hg17_31, hv20_31, hv23_31, hg23_31, hv25_31, hv36_31, hv47_31, hv48_31, hv53_31, hv55_31⟩ := hT.2.2 0 (by decide)
        refine call_i (run_V (rm := rm_X11_takes) hx hb hml hown hts (s_X11_takes l g ad th _ _ _ 5 hst hT (by decide)) cV_X11_takes wg_1538 ⟨Nat.le_of_ble_eq_true rfl, Nat.le_of_ble_eq_true rfl⟩ hG hE hA hP hD hS (hst.1 255 (by decide)) hf32 rfl rfl hl.1 (As := [.ref (g.2.2.1 5)]) (rest := []) rfl (Nat.le_of_ble_eq_true rfl) dX11_pieceHere_36 ⟨Nat.le_of_ble_eq_true rfl, Nat.le_of_ble_eq_true rfl⟩) hA hD hS (fun r33 L34 f35 H locs hp36 hP hD hS => ?_)
        obtain ⟨eL37L, eL37T, eL37F, eL37R⟩ := hp36
        have eL37L : L34 = L := eL37L
        rw [eL37L] at hP hD
        have hT : TI g ad th f35 := eL37T
        have eL37F : ∀ b, b ≠ (ad 255) → f35 b = f25 b := eL37F
        have hfr : (∀ b, b ≠ (ad 255) → f35 b = f b) := fun b z0_ => (eL37F b z0_).trans (hfr b z0_)
        have eL37R : In r33 0 1 := eL37R
        refine lv_if_eq (tgt := 44) hx hb dX11_pieceHere_39 (by decide) (fun c38 => ?_) (fun c38 => ?_)
        ·
          have cc39 : r33.toInt = (0 : Int32).toInt := congrArg Int32.toInt c38
          have hb40 : In r33 0 0 := In.eq1 eL37R (⟨by decide, by decide⟩ : In 0 0 0) cc39 (by omega) (by omega)
          refine lv_aload_n hx hb dX11_pieceHere_44 rfl (lv_at hl 0 rfl) ?_
          refine va_ldcS hx hb hown (hG.2.2.1 ("RulerWordModel", 151, "false", 6) (by decide +kernel)) dX11_pieceHere_45 ?_
          obtain ⟨v0_41, v2_41, v3_41, v4_41, v5_41, v6_41, v8_41, v9_41, v12_41, v13_41, v14_41, v15_41, v16_41, v17_41, v18_41, v19_41, v20_41, v21_41, v22_41, v23_41, v25_41, v36_41, v37_41, v38_41, v39_41, v40_41, v45_41, v46_41, v47_41, v48_41, v50_41, v51_41, v53_41, v55_41, hf42, hv0_41, hv2_41, hv3_41, hv4_41, hv5_41, hv6_41, hv8_41, hv12_41, hv13_41, hv14_41, hg14_41, hv15_41, hg15_41, hv17_41, hg17_41, hv20_41, hv23_41, hg23_41, hv25_41, hv36_41, hv47_41, hv48_41, hv53_41, hv55_41⟩ := hT.2.2 0 (by decide)
          refine call_i (run_V (rm := rm_X11_takes) hx hb hml hown hts (s_X11_takes l g ad th _ _ _ 6 hst hT (by decide)) cV_X11_takes wg_1538 ⟨Nat.le_of_ble_eq_true rfl, Nat.le_of_ble_eq_true rfl⟩ hG hE hA hP hD hS (hst.1 255 (by decide)) hf42 rfl rfl hl.1 (As := [.ref (g.2.2.1 6)]) (rest := []) rfl (Nat.le_of_ble_eq_true rfl) dX11_pieceHere_47 ⟨Nat.le_of_ble_eq_true rfl, Nat.le_of_ble_eq_true rfl⟩) hA hD hS (fun r43 L44 f45 H locs hp46 hP hD hS => ?_)
          obtain ⟨eL47L, eL47T, eL47F, eL47R⟩ := hp46
          have eL47L : L44 = L := eL47L
          rw [eL47L] at hP hD
          have hT : TI g ad th f45 := eL47T
          have eL47F : ∀ b, b ≠ (ad 255) → f45 b = f35 b := eL47F
          have hfr : (∀ b, b ≠ (ad 255) → f45 b = f b) := fun b z0_ => (eL47F b z0_).trans (hfr b z0_)
          have eL47R : In r43 0 1 := eL47R
          refine lv_if_eq (tgt := 55) hx hb dX11_pieceHere_50 (by decide) (fun c48 => ?_) (fun c48 => ?_)
          ·
            have cc49 : r43.toInt = (0 : Int32).toInt := congrArg Int32.toInt c48
            have hb50 : In r43 0 0 := In.eq1 eL47R (⟨by decide, by decide⟩ : In 0 0 0) cc49 (by omega) (by omega)
            refine lv_aload_n hx hb dX11_pieceHere_55 rfl (lv_at hl 0 rfl) ?_
            refine va_ldcS hx hb hown (hG.2.2.1 ("RulerWordModel", 153, "skip", 7) (by decide +kernel)) dX11_pieceHere_56 ?_
            obtain ⟨v0_51, v2_51, v3_51, v4_51, v5_51, v6_51, v8_51, v9_51, v12_51, v13_51, v14_51, v15_51, v16_51, v17_51, v18_51, v19_51, v20_51, v21_51, v22_51, v23_51, v25_51, v36_51, v37_51, v38_51, v39_51, v40_51, v45_51, v46_51, v47_51, v48_51, v50_51, v51_51, v53_51, v55_51, hf52, hv0_51, hv2_51, hv3_51, hv4_51, hv5_51, hv6_51, hv8_51, hv12_51, hv13_51, hv14_51, hg14_51, hv15_51, hg15_51, hv17_51, hg17_51, hv20_51, hv23_51, hg23_51, hv25_51, hv36_51, hv47_51, hv48_51, hv53_51, hv55_51⟩ := hT.2.2 0 (by decide)
            refine call_i (run_V (rm := rm_X11_takes) hx hb hml hown hts (s_X11_takes l g ad th _ _ _ 7 hst hT (by decide)) cV_X11_takes wg_1538 ⟨Nat.le_of_ble_eq_true rfl, Nat.le_of_ble_eq_true rfl⟩ hG hE hA hP hD hS (hst.1 255 (by decide)) hf52 rfl rfl hl.1 (As := [.ref (g.2.2.1 7)]) (rest := []) rfl (Nat.le_of_ble_eq_true rfl) dX11_pieceHere_58 ⟨Nat.le_of_ble_eq_true rfl, Nat.le_of_ble_eq_true rfl⟩) hA hD hS (fun r53 L54 f55 H locs hp56 hP hD hS => ?_)
            obtain ⟨eL57L, eL57T, eL57F, eL57R⟩ := hp56
            have eL57L : L54 = L := eL57L
            rw [eL57L] at hP hD
            have hT : TI g ad th f55 := eL57T
            have eL57F : ∀ b, b ≠ (ad 255) → f55 b = f45 b := eL57F
            have hfr : (∀ b, b ≠ (ad 255) → f55 b = f b) := fun b z0_ => (eL57F b z0_).trans (hfr b z0_)
            have eL57R : In r53 0 1 := eL57R
            refine lv_if_eq (tgt := 68) hx hb dX11_pieceHere_61 (by decide) (fun c58 => ?_) (fun c58 => ?_)
            ·
              have cc59 : r53.toInt = (0 : Int32).toInt := congrArg Int32.toInt c58
              have hb60 : In r53 0 0 := In.eq1 eL57R (⟨by decide, by decide⟩ : In 0 0 0) cc59 (by omega) (by omega)
              refine lv_iconst (v := (-1)) hx hb dX11_pieceHere_68 (by decide) ?_
              exact ret_i (ty := .int) hx hb hr hlocks (rfl) hP hD hS (Nat.le_of_ble_eq_true rfl) (Nat.le_of_ble_eq_true rfl) (⟨rfl, hT, hfr, (⟨by decide, by decide⟩ : In (-1) (-1) 5)⟩) dX11_pieceHere_69
            ·
              have cc61 : r53.toInt ≠ (0 : Int32).toInt := i32_ne c58
              have hb62 : In r53 1 1 := In.ne1 eL57R (⟨by decide, by decide⟩ : In 0 0 0) cc61 (by omega) (by omega)
              refine lv_iconst (v := 5) hx hb dX11_pieceHere_64 (by decide) ?_
              refine lv_goto (tgt := 69) hx hb dX11_pieceHere_65 (by decide) ?_
              exact ret_i (ty := .int) hx hb hr hlocks (rfl) hP hD hS (Nat.le_of_ble_eq_true rfl) (Nat.le_of_ble_eq_true rfl) (⟨rfl, hT, hfr, (⟨by decide, by decide⟩ : In 5 (-1) 5)⟩) dX11_pieceHere_69
          ·
            have cc63 : r43.toInt ≠ (0 : Int32).toInt := i32_ne c48
            have hb64 : In r43 1 1 := In.ne1 eL47R (⟨by decide, by decide⟩ : In 0 0 0) cc63 (by omega) (by omega)
            refine lv_iconst (v := 4) hx hb dX11_pieceHere_53 (by decide) ?_
            exact ret_i (ty := .int) hx hb hr hlocks (rfl) hP hD hS (Nat.le_of_ble_eq_true rfl) (Nat.le_of_ble_eq_true rfl) (⟨rfl, hT, hfr, (⟨by decide, by decide⟩ : In 4 (-1) 5)⟩) dX11_pieceHere_54
        ·
          have cc65 : r33.toInt ≠ (0 : Int32).toInt := i32_ne c38
          have hb66 : In r33 1 1 := In.ne1 eL37R (⟨by decide, by decide⟩ : In 0 0 0) cc65 (by omega) (by omega)
          refine lv_iconst (v := 3) hx hb dX11_pieceHere_42 (by decide) ?_
          exact ret_i (ty := .int) hx hb hr hlocks (rfl) hP hD hS (Nat.le_of_ble_eq_true rfl) (Nat.le_of_ble_eq_true rfl) (⟨rfl, hT, hfr, (⟨by decide, by decide⟩ : In 3 (-1) 5)⟩) dX11_pieceHere_43
      ·
        have cc67 : r23.toInt ≠ (0 : Int32).toInt := i32_ne c28
        have hb68 : In r23 1 1 := In.ne1 eL27R (⟨by decide, by decide⟩ : In 0 0 0) cc67 (by omega) (by omega)
        refine lv_iconst (v := 2) hx hb dX11_pieceHere_31 (by decide) ?_
        exact ret_i (ty := .int) hx hb hr hlocks (rfl) hP hD hS (Nat.le_of_ble_eq_true rfl) (Nat.le_of_ble_eq_true rfl) (⟨rfl, hT, hfr, (⟨by decide, by decide⟩ : In 2 (-1) 5)⟩) dX11_pieceHere_32
    ·
      have cc69 : r13.toInt ≠ (0 : Int32).toInt := i32_ne c18
      have hb70 : In r13 1 1 := In.ne1 eL17R (⟨by decide, by decide⟩ : In 0 0 0) cc69 (by omega) (by omega)
      refine lv_iconst (v := 1) hx hb dX11_pieceHere_20 (by decide) ?_
      exact ret_i (ty := .int) hx hb hr hlocks (rfl) hP hD hS (Nat.le_of_ble_eq_true rfl) (Nat.le_of_ble_eq_true rfl) (⟨rfl, hT, hfr, (⟨by decide, by decide⟩ : In 1 (-1) 5)⟩) dX11_pieceHere_21
  ·
    have cc71 : r3.toInt ≠ (0 : Int32).toInt := i32_ne c8
    have hb72 : In r3 1 1 := In.ne1 eL7R (⟨by decide, by decide⟩ : In 0 0 0) cc71 (by omega) (by omega)
    refine lv_iconst (v := 0) hx hb dX11_pieceHere_9 (by decide) ?_
    exact ret_i (ty := .int) hx hb hr hlocks (rfl) hP hD hS (Nat.le_of_ble_eq_true rfl) (Nat.le_of_ble_eq_true rfl) (⟨rfl, hT, hfr, (⟨by decide, by decide⟩ : In 0 (-1) 5)⟩) dX11_pieceHere_10

abbrev rm_X11_starts : Room := { frames := 3, cells := 0, slots := 0, locals := 61 }
abbrev po_X11_starts (g : GG) (ad : Nat → Nat) (th : Nat → Int) (L : List Nat) (f : HP)  : (List Nat × HP) → Prop := fun u => u.1 = L ∧ TI g ad th u.2 ∧ (∀ b, b ≠ (ad 255) → b ≠ (ad 257) → u.2 b = f b)
set_option maxHeartbeats 4000000 in
set_option maxRecDepth 100000 in
theorem s_X11_starts (l : Launch) (g : GG) (ad : Nat → Nat) (th : Nat → Int) (L : List Nat) (f : HP) (sz : Nat)  (hst : ST ad L) (hT : TI g ad th f)  : MtV l g yX11_starts cX11_starts 3 rm_X11_starts [.ref (ad 255)] L f sz (po_X11_starts g ad th L f ) := by
  refine MtV.of (by decide +kernel) (Nat.le_of_ble_eq_true rfl) ?_
  intro p e s m below meth c A hEn hP hD hS ls hl
  obtain ⟨hx, hb, hr, hml, hown, hlocks, hts, hG, hA, hE, hnm⟩ := hEn
  have hown : s.vm.findClass "RulerWordModel" = some m.cls := hown
  have hl : lv_has ls 3 [(0, .ref (ad 255))] := hl
  have hfr : (∀ b, b ≠ (ad 255) → b ≠ (ad 257) → f b = f b) := fun b z0_ z1_ => rfl
  refine lv_aload_n hx hb dX11_starts_0 rfl (lv_at hl 0 rfl) ?_
  obtain ⟨v0_1, v2_1, v3_1, v4_1, v5_1, v6_1, v8_1, v9_1, v12_1, v13_1, v14_1, v15_1, v16_1, v17_1, v18_1, v19_1, v20_1, v21_1, v22_1, v23_1, v25_1, v36_1, v37_1, v38_1, v39_1, v40_1, v45_1, v46_1, v47_1, v48_1, v50_1, v51_1, v53_1, v55_1, hf2, hv0_1, hv2_1, hv3_1, hv4_1, hv5_1, hv6_1, hv8_1, hv12_1, hv13_1, hv14_1, hg14_1, hv15_1, hg15_1, hv17_1, hg17_1, hv20_1, hv23_1, hg23_1, hv25_1, hv36_1, hv47_1, hv48_1, hv53_1, hv55_1⟩ := hT.2.2 0 (by decide)
  refine call_v (run_V (rm := rm_X11_digits) hx hb hml hown hts (s_X11_digits l g ad th _ _ _  hst hT ) cV_X11_digits wg_1570 ⟨Nat.le_of_ble_eq_true rfl, Nat.le_of_ble_eq_true rfl⟩ hG hE hA hP hD hS (hst.1 255 (by decide)) hf2 rfl rfl hl.1 (As := []) (rest := []) rfl (Nat.le_of_ble_eq_true rfl) dX11_starts_1 ⟨Nat.le_of_ble_eq_true rfl, Nat.le_of_ble_eq_true rfl⟩) hA hD hS (fun L4 f5 H locs hp6 hP hD hS => ?_)
  obtain ⟨eL7L, eL7T, eL7F, eL7X0⟩ := hp6
  have eL7L : L4 = L := eL7L
  rw [eL7L] at hP hD
  have hT : TI g ad th f5 := eL7T
  have eL7F : ∀ b, b ≠ (ad 255) → f5 b = f b := eL7F
  have hfr : (∀ b, b ≠ (ad 255) → b ≠ (ad 257) → f5 b = f b) := fun b z0_ z1_ => (eL7F b z0_).trans (hfr b z0_ z1_)
  obtain ⟨v0_8, v2_8, v3_8, v4_8, v5_8, v6_8, v8_8, v9_8, v12_8, v13_8, v14_8, v15_8, v16_8, v17_8, v18_8, v19_8, v20_8, v21_8, v22_8, v23_8, v25_8, v36_8, v37_8, v38_8, v39_8, v40_8, v45_8, v46_8, v47_8, v48_8, v50_8, v51_8, v53_8, v55_8, hf9, hv0_8, hv2_8, hv3_8, hv4_8, hv5_8, hv6_8, hv8_8, hv12_8, hv13_8, hv14_8, hg14_8, hv15_8, hg15_8, hv17_8, hg17_8, hv20_8, hv23_8, hg23_8, hv25_8, hv36_8, hv47_8, hv48_8, hv53_8, hv55_8⟩ := hT.2.2 0 (by decide)
  have hg10 : v5_8.toInt + v6_8.toInt ≤ 500 := eL7X0 _ _ ⟨_, hf9, rfl⟩ ⟨_, hf9, rfl⟩
  refine lv_aload_n hx hb dX11_starts_4 rfl (lv_at hl 0 rfl) ?_
  refine pl_get (v := .int v6_8) hx hb hts (fun w h => mT (inX11 w h)) hown hG.1 hP (hst.1 255 (by decide)) hf9 rfl 6 (by decide) (hts _ (mT wg_1342)) (fun _ h => h) rfl dX11_starts_5 ?_
  refine lv_aload_n hx hb dX11_starts_8 rfl (lv_at hl 0 rfl) ?_
  refine pl_get (v := .ref (ad 257)) hx hb hts (fun w h => mT (inX11 w h)) hown hG.1 hP (hst.1 255 (by decide)) hf9 rfl 7 (by decide) (hts _ (mT wg_1343)) (fun _ h => h) rfl dX11_starts_9 ?_
  refine lv_iconst (v := 0) hx hb dX11_starts_12 (by decide) ?_
  obtain ⟨rw11, hf12⟩ := hT.2.2 2 (by decide)
  have hin13 : vp_in 0 6 := In.inb (⟨by decide, by decide⟩ : In 0 0 0) (by decide) (by decide)
  refine pl_iald hx hb hG.1 hP (hst.1 257 (by decide)) 0 hf12 rfl hin13 dX11_starts_13 ?_
  refine lv_topi (fun x14 ex14 => ?_)
  have hJ22 : ∀ (y22_s0 : Int32) (H : Heap) (locs : List Loc) (ls : Array Slot), In y22_s0 0 1 → va_P g.1 vwCl (va_pl L f5) H → va_D A (va_pl L f5) → va_S A s.heap H locs → lv_has ls 3 [(0, .ref (ad 255))] → W p l e rm_X11_starts s m [.ref (ad 255)].toArray below meth c H locs 0 0 (MQ below (va_Qv (po_X11_starts g ad th L f ) (PstB g A) A) [.ref (ad 255)].toArray s rm_X11_starts.cells rm_X11_starts.slots A) (F0 m 22 ls [.int y22_s0]) := by
    intro y22_s0 H locs ls hy22_s0 hP hD hS hl
    refine lv_istore_n (lv' := [(1, .int y22_s0), (0, .ref (ad 255))]) hx hb dX11_starts_22 rfl hl (by decide) rfl (fun ls hl => ?_)
    refine lv_iconst (v := 0) hx hb dX11_starts_23 (by decide) ?_
    refine lv_istore_n (lv' := [(2, .int 0), (1, .int y22_s0), (0, .ref (ad 255))]) hx hb dX11_starts_24 rfl hl (by decide) rfl (fun ls hl => ?_)
    have hJ25 : ∀ (k25 : Nat) (y25_l1 : Int32) (y25_l2 : Int32) (f_25 : HP) (H : Heap) (locs : List Loc) (ls : Array Slot), In y25_l1 0 1 → In y25_l2 0 2147483647 → va_P g.1 vwCl (va_pl L f_25) H → va_D A (va_pl L f_25) → va_S A s.heap H locs → TI g ad th f_25 → (∀ b, b ≠ (ad 255) → b ≠ (ad 257) → f_25 b = f b) → f_25 (ad 255) = .inr (10, [.int v0_8, .ref (ad 256), .int v2_8, .int v3_8, .int v4_8, .int v5_8, .int v6_8, .ref (ad 257), .int v8_8, .int v9_8, .ref (ad 258), .ref (ad 259), .int v12_8, .int v13_8, .int v14_8, .int v15_8, .int v16_8, .int v17_8, .int v18_8, .int v19_8, .int v20_8, .long v21_8, .long v22_8, .int v23_8, .ref (ad 260), .int v25_8, .ref (ad 261), .ref (ad 262), .ref (ad 263), .ref (ad 264), .ref (ad 265), .ref (ad 266), .ref (ad 267), .ref (ad 268), .ref (ad 269), .ref (ad 270), .int v36_8, .int v37_8, .int v38_8, .int v39_8, .int v40_8, .ref (ad 271), .ref (ad 272), .ref (ad 273), .ref (ad 274), .long v45_8, .long v46_8, .int v47_8, .int v48_8, .ref (ad 275), .int v50_8, .int v51_8, .ref (ad 276), .int v53_8, .ref (ad 277), .int v55_8]) → lv_has ls 3 [(0, .ref (ad 255)), (1, .int y25_l1), (2, .int y25_l2)] → 2147483647 - y25_l2.toInt < ((k25 : Nat) : Int) → W p l e rm_X11_starts s m [.ref (ad 255)].toArray below meth c H locs 0 0 (MQ below (va_Qv (po_X11_starts g ad th L f ) (PstB g A) A) [.ref (ad 255)].toArray s rm_X11_starts.cells rm_X11_starts.slots A) (F0 m 25 ls []) := by
      intro k25
      induction k25 with
      | zero =>
        intro y25_l1 y25_l2 f_25 H locs ls hy25_l1 hy25_l2 hP hD hS hT hfr hf15 hl hmz25
        exact ms0 hy25_l2 hmz25
      | succ k25 ih25 =>
        intro y25_l1 y25_l2 f_25 H locs ls hy25_l1 hy25_l2 hP hD hS hT hfr hf15 hl hmz25
        refine lv_iload_n hx hb dX11_starts_25 rfl (lv_at hl 2 rfl) ?_
        refine lv_aload_n hx hb dX11_starts_26 rfl (lv_at hl 0 rfl) ?_
        refine pl_get (v := .int v6_8) hx hb hts (fun w h => mT (inX11 w h)) hown hG.1 hP (hst.1 255 (by decide)) hf15 rfl 6 (by decide) (hts _ (mT wg_1342)) (fun _ h => h) rfl dX11_starts_27 ?_
        have hJ82 : ∀ (H : Heap) (locs : List Loc) (ls : Array Slot), va_P g.1 vwCl (va_pl L f_25) H → va_D A (va_pl L f_25) → va_S A s.heap H locs → lv_has ls 3 [(0, .ref (ad 255)), (1, .int y25_l1), (2, .int y25_l2)] → W p l e rm_X11_starts s m [.ref (ad 255)].toArray below meth c H locs 0 0 (MQ below (va_Qv (po_X11_starts g ad th L f ) (PstB g A) A) [.ref (ad 255)].toArray s rm_X11_starts.cells rm_X11_starts.slots A) (F0 m 82 ls []) := by
          intro H locs ls hP hD hS hl
          refine lv_iload_n hx hb dX11_starts_82 rfl (lv_at hl 1 rfl) ?_
          refine lv_if_ne (tgt := 94) hx hb dX11_starts_83 (by decide) (fun c16 => ?_) (fun c16 => ?_)
          ·
            have cc17 : y25_l1.toInt ≠ (0 : Int32).toInt := i32_ne c16
            have hb18 : In y25_l1 1 1 := In.ne1 hy25_l1 (⟨by decide, by decide⟩ : In 0 0 0) cc17 (by omega) (by omega)
            exact ret_v hx hb hr hlocks hP hD hS (Nat.le_of_ble_eq_true rfl) (Nat.le_of_ble_eq_true rfl) (⟨rfl, hT, hfr⟩) dX11_starts_94
          ·
            have cc19 : y25_l1.toInt = (0 : Int32).toInt := congrArg Int32.toInt c16
            have hb20 : In y25_l1 0 0 := In.eq1 hy25_l1 (⟨by decide, by decide⟩ : In 0 0 0) cc19 (by omega) (by omega)
            refine lv_aload_n hx hb dX11_starts_86 rfl (lv_at hl 0 rfl) ?_
            refine lv_aload_n hx hb dX11_starts_87 rfl (lv_at hl 0 rfl) ?_
            refine pl_get (v := .int v5_8) hx hb hts (fun w h => mT (inX11 w h)) hown hG.1 hP (hst.1 255 (by decide)) hf15 rfl 5 (by decide) (hts _ (mT wg_1341)) (fun _ h => h) rfl dX11_starts_88 ?_
            refine call_v (run_V (rm := rm_X11_fails) hx hb hml hown hts (s_X11_fails l g ad th _ _ _ v5_8 hst hT hv5_8) cV_X11_fails wg_1545 ⟨Nat.le_of_ble_eq_true rfl, Nat.le_of_ble_eq_true rfl⟩ hG hE hA hP hD hS (hst.1 255 (by decide)) hf15 rfl rfl hl.1 (As := [.int v5_8]) (rest := []) rfl (Nat.le_of_ble_eq_true rfl) dX11_starts_91 ⟨Nat.le_of_ble_eq_true rfl, Nat.le_of_ble_eq_true rfl⟩) hA hD hS (fun L22 f23 H locs hp24 hP hD hS => ?_)
            obtain ⟨eL25L, eL25T, eL25F⟩ := hp24
            have eL25L : L22 = L := eL25L
            rw [eL25L] at hP hD
            have hT : TI g ad th f23 := eL25T
            have eL25F : ∀ b, b ≠ (ad 255) → f23 b = f_25 b := eL25F
            have hfr : (∀ b, b ≠ (ad 255) → b ≠ (ad 257) → f23 b = f b) := fun b z0_ z1_ => (eL25F b z0_).trans (hfr b z0_ z1_)
            exact ret_v hx hb hr hlocks hP hD hS (Nat.le_of_ble_eq_true rfl) (Nat.le_of_ble_eq_true rfl) (⟨rfl, hT, hfr⟩) dX11_starts_94
        refine lv_icmp_ge (tgt := 82) hx hb dX11_starts_30 (by decide) (fun c26 => ?_) (fun c26 => ?_)
        ·
          have cc27 : v6_8.toInt ≤ y25_l2.toInt := i32_le.mp c26
          exact hJ82 _ _ _ hP hD hS (lv_sub hl [0, 1, 2] rfl)
        ·
          have cc28 : y25_l2.toInt < v6_8.toInt := i32_nle c26
          have hb29 : In y25_l2 0 499 := In.lt1 hy25_l2 hv6_8 cc28 (by omega) (by omega)
          have hb30 : In v6_8 1 500 := In.lt2 hy25_l2 hv6_8 cc28 (by omega) (by omega)
          refine lv_iload_n hx hb dX11_starts_33 rfl (lv_at hl 1 rfl) ?_
          refine lv_if_eq (tgt := 82) hx hb dX11_starts_34 (by decide) (fun c31 => ?_) (fun c31 => ?_)
          ·
            have cc32 : y25_l1.toInt = (0 : Int32).toInt := congrArg Int32.toInt c31
            have hb33 : In y25_l1 0 0 := In.eq1 hy25_l1 (⟨by decide, by decide⟩ : In 0 0 0) cc32 (by omega) (by omega)
            exact hJ82 _ _ _ hP hD hS (lv_sub hl [0, 1, 2] rfl)
          ·
            have cc34 : y25_l1.toInt ≠ (0 : Int32).toInt := i32_ne c31
            have hb35 : In y25_l1 1 1 := In.ne1 hy25_l1 (⟨by decide, by decide⟩ : In 0 0 0) cc34 (by omega) (by omega)
            refine lv_aload_n hx hb dX11_starts_37 rfl (lv_at hl 0 rfl) ?_
            refine lv_iload_n hx hb dX11_starts_38 rfl (lv_at hl 2 rfl) ?_
            refine call_i (run_V (rm := rm_X11_digitAt) hx hb hml hown hts (s_X11_digitAt l g ad th _ _ _ y25_l2 v5_8 hst hT (In.mono hb29 (by decide) (by decide)) (⟨_, hf15, rfl⟩) (by obtain ⟨o0a, o0b⟩ := (hv5_8 : In _ _ _); obtain ⟨o1a, o1b⟩ := (hb30 : In _ _ _); obtain ⟨o2a, o2b⟩ := (hb29 : In _ _ _); omega)) cV_X11_digitAt wg_1577 ⟨Nat.le_of_ble_eq_true rfl, Nat.le_of_ble_eq_true rfl⟩ hG hE hA hP hD hS (hst.1 255 (by decide)) hf15 rfl rfl hl.1 (As := [.int y25_l2]) (rest := []) rfl (Nat.le_of_ble_eq_true rfl) dX11_starts_39 ⟨Nat.le_of_ble_eq_true rfl, Nat.le_of_ble_eq_true rfl⟩) hA hD hS (fun r36 L37 f38 H locs hp39 hP hD hS => ?_)
            obtain ⟨eL40L, eL40T, eL40R⟩ := hp39
            have eL40L : L37 = L := eL40L
            have eL40T : f38 = f_25 := eL40T
            rw [eL40L, eL40T] at hP hD
            have eL40R : In r36 (-176) 79 := eL40R
            refine lv_iconst (v := 2) hx hb dX11_starts_42 (by decide) ?_
            have hJ51 : ∀ (y51_s0 : Int32) (H : Heap) (locs : List Loc) (ls : Array Slot), In y51_s0 0 1 → va_P g.1 vwCl (va_pl L f_25) H → va_D A (va_pl L f_25) → va_S A s.heap H locs → lv_has ls 3 [(0, .ref (ad 255)), (1, .int y25_l1), (2, .int y25_l2)] → W p l e rm_X11_starts s m [.ref (ad 255)].toArray below meth c H locs 0 0 (MQ below (va_Qv (po_X11_starts g ad th L f ) (PstB g A) A) [.ref (ad 255)].toArray s rm_X11_starts.cells rm_X11_starts.slots A) (F0 m 51 ls [.int y51_s0]) := by
              intro y51_s0 H locs ls hy51_s0 hP hD hS hl
              refine lv_istore_n (lv' := [(1, .int y51_s0), (0, .ref (ad 255)), (2, .int y25_l2)]) hx hb dX11_starts_51 rfl hl (by decide) rfl (fun ls hl => ?_)
              refine lv_aload_n hx hb dX11_starts_52 rfl (lv_at hl 1 rfl) ?_
              refine pl_get (v := .ref (ad 257)) hx hb hts (fun w h => mT (inX11 w h)) hown hG.1 hP (hst.1 255 (by decide)) hf15 rfl 7 (by decide) (hts _ (mT wg_1343)) (fun _ h => h) rfl dX11_starts_53 ?_
              refine lv_iconst (v := 3) hx hb dX11_starts_56 (by decide) ?_
              refine lv_dup2_11 hx hb dX11_starts_57 rfl rfl ?_
              obtain ⟨rw41, hf42⟩ := hT.2.2 2 (by decide)
              have hin43 : vp_in 3 6 := In.inb (⟨by decide, by decide⟩ : In 3 3 3) (by decide) (by decide)
              refine pl_iald hx hb hG.1 hP (hst.1 257 (by decide)) 0 hf42 rfl hin43 dX11_starts_58 ?_
              refine lv_topi (fun x44 ex44 => ?_)
              refine lv_iload_n hx hb dX11_starts_59 rfl (lv_at hl 0 rfl) ?_
              have hJ74 : ∀ (y74_s0 : Int32) (H : Heap) (locs : List Loc) (ls : Array Slot), In y74_s0 (-2147483648) 2147483647 → va_P g.1 vwCl (va_pl L f_25) H → va_D A (va_pl L f_25) → va_S A s.heap H locs → lv_has ls 3 [(0, .ref (ad 255)), (1, .int y51_s0), (2, .int y25_l2)] → W p l e rm_X11_starts s m [.ref (ad 255)].toArray below meth c H locs 0 0 (MQ below (va_Qv (po_X11_starts g ad th L f ) (PstB g A) A) [.ref (ad 255)].toArray s rm_X11_starts.cells rm_X11_starts.slots A) (F0 m 74 ls [.int y74_s0, .int x44, .int 3, .ref (ad 257)]) := by
                intro y74_s0 H locs ls hy74_s0 hP hD hS hl
                refine lv_ior hx hb dX11_starts_74 ?_
                refine lv_topi (fun x45 ex45 => ?_)
                refine pl_iastE hx hb hG.1 hP hD hS (hst.1 257 (by decide)) 0 hf42 rfl (In.inb (⟨by decide, by decide⟩ : In 3 3 3) (by decide) (by decide)) dX11_starts_75 (fun H locs f46 r49 er49 hf47 ho48 hP hD hS => ?_)
                have hf50 := (ho48 (ad 255) (hst.ne (by decide) (by decide) (by decide))).trans hf15
                have hfr : (∀ b, b ≠ (ad 255) → b ≠ (ad 257) → f46 b = f b) := fun b z0_ z1_ => (ho48 b z1_).trans (hfr b z0_ z1_)
                obtain ⟨x51, ex51⟩ : ∃ y : Int32, y = y25_l2 + 1 := ⟨_, rfl⟩
                have hb52 : In x51 1 500 := ex51 ▸ In.add hb29 (⟨by decide, by decide⟩ : In 1 1 1) (by decide) (by decide) (by decide) (by decide)
                have et53 : x51.toInt = y25_l2.toInt + 1 := In.adde ex51 hb29 (k := 1) (by decide) (by decide) (by decide)
                refine lv_iinc (v := x51) (lv' := [(2, .int x51), (0, .ref (ad 255)), (1, .int y51_s0)]) hx hb dX11_starts_76 hl (k := 2) rfl (by rw [ex51]; rfl) (by decide) rfl (fun ls hl => ?_)
                have hT := TI.updM hT hst (k := 2) (by decide) hf47 ho48 ⟨r49, rfl⟩
                refine lv_goto (tgt := 25) hx hb dX11_starts_79 (by decide) ?_
                exact ih25 y51_s0 x51 _ _ _ _ hy51_s0 (In.mono hb52 (by decide) (by decide)) hP hD hS hT hfr hf50 (lv_sub hl [1, 2, 0] rfl) (msu et53 (by decide) hmz25)
              refine lv_if_eq (tgt := 73) hx hb dX11_starts_60 (by decide) (fun c54 => ?_) (fun c54 => ?_)
              ·
                have cc55 : y51_s0.toInt = (0 : Int32).toInt := congrArg Int32.toInt c54
                have hb56 : In y51_s0 0 0 := In.eq1 hy51_s0 (⟨by decide, by decide⟩ : In 0 0 0) cc55 (by omega) (by omega)
                refine lv_iconst (v := 0) hx hb dX11_starts_73 (by decide) ?_
                exact hJ74 0 _ _ _ (⟨by decide, by decide⟩ : In 0 (-2147483648) 2147483647) hP hD hS (lv_sub hl [1, 0, 2] rfl)
              ·
                have cc57 : y51_s0.toInt ≠ (0 : Int32).toInt := i32_ne c54
                have hb58 : In y51_s0 1 1 := In.ne1 hy51_s0 (⟨by decide, by decide⟩ : In 0 0 0) cc57 (by omega) (by omega)
                refine lv_aload_n hx hb dX11_starts_63 rfl (lv_at hl 1 rfl) ?_
                refine lv_iload_n hx hb dX11_starts_64 rfl (lv_at hl 2 rfl) ?_
                refine call_i (run_V (rm := rm_X11_digitAt) hx hb hml hown hts (s_X11_digitAt l g ad th _ _ _ y25_l2 v5_8 hst hT (In.mono hb29 (by decide) (by decide)) (⟨_, hf15, rfl⟩) (by obtain ⟨o0a, o0b⟩ := (hv5_8 : In _ _ _); obtain ⟨o1a, o1b⟩ := (hb30 : In _ _ _); obtain ⟨o2a, o2b⟩ := (hb29 : In _ _ _); omega)) cV_X11_digitAt wg_1577 ⟨Nat.le_of_ble_eq_true rfl, Nat.le_of_ble_eq_true rfl⟩ hG hE hA hP hD hS (hst.1 255 (by decide)) hf15 rfl rfl hl.1 (As := [.int y25_l2]) (rest := [.int x44, .int 3, .ref (ad 257)]) rfl (Nat.le_of_ble_eq_true rfl) dX11_starts_65 ⟨Nat.le_of_ble_eq_true rfl, Nat.le_of_ble_eq_true rfl⟩) hA hD hS (fun r59 L60 f61 H locs hp62 hP hD hS => ?_)
                obtain ⟨eL63L, eL63T, eL63R⟩ := hp62
                have eL63L : L60 = L := eL63L
                have eL63T : f61 = f_25 := eL63T
                rw [eL63L, eL63T] at hP hD
                have eL63R : In r59 (-176) 79 := eL63R
                refine lv_iload_n hx hb dX11_starts_68 rfl (lv_at hl 2 rfl) ?_
                refine lv_ishl hx hb dX11_starts_69 ?_
                refine lv_topi (fun x64 ex64 => ?_)
                refine lv_goto (tgt := 74) hx hb dX11_starts_70 (by decide) ?_
                exact hJ74 x64 _ _ _ (In.full x64) hP hD hS (lv_sub hl [1, 0, 2] rfl)
            refine lv_icmp_ge (tgt := 50) hx hb dX11_starts_43 (by decide) (fun c65 => ?_) (fun c65 => ?_)
            ·
              have cc66 : (2 : Int32).toInt ≤ r36.toInt := i32_le.mp c65
              have hb67 : In r36 2 79 := In.ge1 eL40R (⟨by decide, by decide⟩ : In 2 2 2) cc66 (by omega) (by omega)
              refine lv_iconst (v := 0) hx hb dX11_starts_50 (by decide) ?_
              exact hJ51 0 _ _ _ (⟨by decide, by decide⟩ : In 0 0 1) hP hD hS (lv_sub hl [0, 1, 2] rfl)
            ·
              have cc68 : r36.toInt < (2 : Int32).toInt := i32_nle c65
              have hb69 : In r36 (-176) 1 := In.lt1 eL40R (⟨by decide, by decide⟩ : In 2 2 2) cc68 (by omega) (by omega)
              refine lv_iconst (v := 1) hx hb dX11_starts_46 (by decide) ?_
              refine lv_goto (tgt := 51) hx hb dX11_starts_47 (by decide) ?_
              exact hJ51 1 _ _ _ (⟨by decide, by decide⟩ : In 1 0 1) hP hD hS (lv_sub hl [0, 1, 2] rfl)
    exact hJ25 ((2147483647 - (0 : Int32).toInt).toNat + 1) y22_s0 0 _ _ _ _ hy22_s0 (⟨by decide, by decide⟩ : In 0 0 2147483647) hP hD hS hT hfr hf9 (lv_sub hl [2, 1, 0] rfl) (msI _)
  refine lv_icmp_ne (tgt := 21) hx hb dX11_starts_14 (by decide) (fun c70 => ?_) (fun c70 => ?_)
  ·
    have cc71 : v6_8.toInt ≠ x14.toInt := i32_ne c70
    refine lv_iconst (v := 0) hx hb dX11_starts_21 (by decide) ?_
    exact hJ22 0 _ _ _ (⟨by decide, by decide⟩ : In 0 0 1) hP hD hS (lv_sub hl [0] rfl)
  ·
    have cc72 : v6_8.toInt = x14.toInt := congrArg Int32.toInt c70
    have hb73 : In x14 0 500 := In.eq2 hv6_8 (In.full x14) cc72 (by omega) (by omega)
    refine lv_iconst (v := 1) hx hb dX11_starts_17 (by decide) ?_
    refine lv_goto (tgt := 22) hx hb dX11_starts_18 (by decide) ?_
    exact hJ22 1 _ _ _ (⟨by decide, by decide⟩ : In 1 0 1) hP hD hS (lv_sub hl [0] rfl)

abbrev rm_X11_liars : Room := { frames := 3, cells := 0, slots := 0, locals := 61 }
abbrev po_X11_liars (g : GG) (ad : Nat → Nat) (th : Nat → Int) (L : List Nat) (f : HP)  : (List Nat × HP) → Prop := fun u => u.1 = L ∧ TI g ad th u.2 ∧ (∀ b, b ≠ (ad 255) → b ≠ (ad 257) → u.2 b = f b)
set_option maxHeartbeats 4000000 in
set_option maxRecDepth 100000 in
theorem s_X11_liars (l : Launch) (g : GG) (ad : Nat → Nat) (th : Nat → Int) (L : List Nat) (f : HP) (sz : Nat)  (hst : ST ad L) (hT : TI g ad th f)  : MtV l g yX11_liars cX11_liars 3 rm_X11_liars [.ref (ad 255)] L f sz (po_X11_liars g ad th L f ) := by
  refine MtV.of (by decide +kernel) (Nat.le_of_ble_eq_true rfl) ?_
  intro p e s m below meth c A hEn hP hD hS ls hl
  obtain ⟨hx, hb, hr, hml, hown, hlocks, hts, hG, hA, hE, hnm⟩ := hEn
  have hown : s.vm.findClass "RulerWordModel" = some m.cls := hown
  have hl : lv_has ls 3 [(0, .ref (ad 255))] := hl
  have hfr : (∀ b, b ≠ (ad 255) → b ≠ (ad 257) → f b = f b) := fun b z0_ z1_ => rfl
  refine lv_aload_n hx hb dX11_liars_0 rfl (lv_at hl 0 rfl) ?_
  obtain ⟨v0_1, v2_1, v3_1, v4_1, v5_1, v6_1, v8_1, v9_1, v12_1, v13_1, v14_1, v15_1, v16_1, v17_1, v18_1, v19_1, v20_1, v21_1, v22_1, v23_1, v25_1, v36_1, v37_1, v38_1, v39_1, v40_1, v45_1, v46_1, v47_1, v48_1, v50_1, v51_1, v53_1, v55_1, hf2, hv0_1, hv2_1, hv3_1, hv4_1, hv5_1, hv6_1, hv8_1, hv12_1, hv13_1, hv14_1, hg14_1, hv15_1, hg15_1, hv17_1, hg17_1, hv20_1, hv23_1, hg23_1, hv25_1, hv36_1, hv47_1, hv48_1, hv53_1, hv55_1⟩ := hT.2.2 0 (by decide)
  refine call_v (run_V (rm := rm_X11_digits) hx hb hml hown hts (s_X11_digits l g ad th _ _ _  hst hT ) cV_X11_digits wg_1570 ⟨Nat.le_of_ble_eq_true rfl, Nat.le_of_ble_eq_true rfl⟩ hG hE hA hP hD hS (hst.1 255 (by decide)) hf2 rfl rfl hl.1 (As := []) (rest := []) rfl (Nat.le_of_ble_eq_true rfl) dX11_liars_1 ⟨Nat.le_of_ble_eq_true rfl, Nat.le_of_ble_eq_true rfl⟩) hA hD hS (fun L4 f5 H locs hp6 hP hD hS => ?_)
  obtain ⟨eL7L, eL7T, eL7F, eL7X0⟩ := hp6
  have eL7L : L4 = L := eL7L
  rw [eL7L] at hP hD
  have hT : TI g ad th f5 := eL7T
  have eL7F : ∀ b, b ≠ (ad 255) → f5 b = f b := eL7F
  have hfr : (∀ b, b ≠ (ad 255) → b ≠ (ad 257) → f5 b = f b) := fun b z0_ z1_ => (eL7F b z0_).trans (hfr b z0_ z1_)
  obtain ⟨v0_8, v2_8, v3_8, v4_8, v5_8, v6_8, v8_8, v9_8, v12_8, v13_8, v14_8, v15_8, v16_8, v17_8, v18_8, v19_8, v20_8, v21_8, v22_8, v23_8, v25_8, v36_8, v37_8, v38_8, v39_8, v40_8, v45_8, v46_8, v47_8, v48_8, v50_8, v51_8, v53_8, v55_8, hf9, hv0_8, hv2_8, hv3_8, hv4_8, hv5_8, hv6_8, hv8_8, hv12_8, hv13_8, hv14_8, hg14_8, hv15_8, hg15_8, hv17_8, hg17_8, hv20_8, hv23_8, hg23_8, hv25_8, hv36_8, hv47_8, hv48_8, hv53_8, hv55_8⟩ := hT.2.2 0 (by decide)
  have hg10 : v5_8.toInt + v6_8.toInt ≤ 500 := eL7X0 _ _ ⟨_, hf9, rfl⟩ ⟨_, hf9, rfl⟩
  refine lv_aload_n hx hb dX11_liars_4 rfl (lv_at hl 0 rfl) ?_
  refine pl_get (v := .int v6_8) hx hb hts (fun w h => mT (inX11 w h)) hown hG.1 hP (hst.1 255 (by decide)) hf9 rfl 6 (by decide) (hts _ (mT wg_1342)) (fun _ h => h) rfl dX11_liars_5 ?_
  have hJ29 : ∀ (y29_s0 : Int32) (H : Heap) (locs : List Loc) (ls : Array Slot), In y29_s0 0 1 → va_P g.1 vwCl (va_pl L f5) H → va_D A (va_pl L f5) → va_S A s.heap H locs → lv_has ls 3 [(0, .ref (ad 255))] → W p l e rm_X11_liars s m [.ref (ad 255)].toArray below meth c H locs 0 0 (MQ below (va_Qv (po_X11_liars g ad th L f ) (PstB g A) A) [.ref (ad 255)].toArray s rm_X11_liars.cells rm_X11_liars.slots A) (F0 m 29 ls [.int y29_s0]) := by
    intro y29_s0 H locs ls hy29_s0 hP hD hS hl
    refine lv_istore_n (lv' := [(1, .int y29_s0), (0, .ref (ad 255))]) hx hb dX11_liars_29 rfl hl (by decide) rfl (fun ls hl => ?_)
    refine lv_iconst (v := 0) hx hb dX11_liars_30 (by decide) ?_
    refine lv_istore_n (lv' := [(2, .int 0), (1, .int y29_s0), (0, .ref (ad 255))]) hx hb dX11_liars_31 rfl hl (by decide) rfl (fun ls hl => ?_)
    have hJ32 : ∀ (k32 : Nat) (y32_l1 : Int32) (y32_l2 : Int32) (f_32 : HP) (H : Heap) (locs : List Loc) (ls : Array Slot), In y32_l1 0 1 → In y32_l2 0 2147483647 → va_P g.1 vwCl (va_pl L f_32) H → va_D A (va_pl L f_32) → va_S A s.heap H locs → TI g ad th f_32 → (∀ b, b ≠ (ad 255) → b ≠ (ad 257) → f_32 b = f b) → f_32 (ad 255) = .inr (10, [.int v0_8, .ref (ad 256), .int v2_8, .int v3_8, .int v4_8, .int v5_8, .int v6_8, .ref (ad 257), .int v8_8, .int v9_8, .ref (ad 258), .ref (ad 259), .int v12_8, .int v13_8, .int v14_8, .int v15_8, .int v16_8, .int v17_8, .int v18_8, .int v19_8, .int v20_8, .long v21_8, .long v22_8, .int v23_8, .ref (ad 260), .int v25_8, .ref (ad 261), .ref (ad 262), .ref (ad 263), .ref (ad 264), .ref (ad 265), .ref (ad 266), .ref (ad 267), .ref (ad 268), .ref (ad 269), .ref (ad 270), .int v36_8, .int v37_8, .int v38_8, .int v39_8, .int v40_8, .ref (ad 271), .ref (ad 272), .ref (ad 273), .ref (ad 274), .long v45_8, .long v46_8, .int v47_8, .int v48_8, .ref (ad 275), .int v50_8, .int v51_8, .ref (ad 276), .int v53_8, .ref (ad 277), .int v55_8]) → lv_has ls 3 [(0, .ref (ad 255)), (1, .int y32_l1), (2, .int y32_l2)] → 2147483647 - y32_l2.toInt < ((k32 : Nat) : Int) → W p l e rm_X11_liars s m [.ref (ad 255)].toArray below meth c H locs 0 0 (MQ below (va_Qv (po_X11_liars g ad th L f ) (PstB g A) A) [.ref (ad 255)].toArray s rm_X11_liars.cells rm_X11_liars.slots A) (F0 m 32 ls []) := by
      intro k32
      induction k32 with
      | zero =>
        intro y32_l1 y32_l2 f_32 H locs ls hy32_l1 hy32_l2 hP hD hS hT hfr hf11 hl hmz32
        exact ms0 hy32_l2 hmz32
      | succ k32 ih32 =>
        intro y32_l1 y32_l2 f_32 H locs ls hy32_l1 hy32_l2 hP hD hS hT hfr hf11 hl hmz32
        refine lv_iload_n hx hb dX11_liars_32 rfl (lv_at hl 2 rfl) ?_
        refine lv_aload_n hx hb dX11_liars_33 rfl (lv_at hl 0 rfl) ?_
        refine pl_get (v := .int v6_8) hx hb hts (fun w h => mT (inX11 w h)) hown hG.1 hP (hst.1 255 (by decide)) hf11 rfl 6 (by decide) (hts _ (mT wg_1342)) (fun _ h => h) rfl dX11_liars_34 ?_
        have hJ113 : ∀ (H : Heap) (locs : List Loc) (ls : Array Slot), va_P g.1 vwCl (va_pl L f_32) H → va_D A (va_pl L f_32) → va_S A s.heap H locs → lv_has ls 3 [(0, .ref (ad 255)), (1, .int y32_l1), (2, .int y32_l2)] → W p l e rm_X11_liars s m [.ref (ad 255)].toArray below meth c H locs 0 0 (MQ below (va_Qv (po_X11_liars g ad th L f ) (PstB g A) A) [.ref (ad 255)].toArray s rm_X11_liars.cells rm_X11_liars.slots A) (F0 m 113 ls []) := by
          intro H locs ls hP hD hS hl
          refine lv_iload_n hx hb dX11_liars_113 rfl (lv_at hl 1 rfl) ?_
          refine lv_if_ne (tgt := 125) hx hb dX11_liars_114 (by decide) (fun c12 => ?_) (fun c12 => ?_)
          ·
            have cc13 : y32_l1.toInt ≠ (0 : Int32).toInt := i32_ne c12
            have hb14 : In y32_l1 1 1 := In.ne1 hy32_l1 (⟨by decide, by decide⟩ : In 0 0 0) cc13 (by omega) (by omega)
            exact ret_v hx hb hr hlocks hP hD hS (Nat.le_of_ble_eq_true rfl) (Nat.le_of_ble_eq_true rfl) (⟨rfl, hT, hfr⟩) dX11_liars_125
          ·
            have cc15 : y32_l1.toInt = (0 : Int32).toInt := congrArg Int32.toInt c12
            have hb16 : In y32_l1 0 0 := In.eq1 hy32_l1 (⟨by decide, by decide⟩ : In 0 0 0) cc15 (by omega) (by omega)
            refine lv_aload_n hx hb dX11_liars_117 rfl (lv_at hl 0 rfl) ?_
            refine lv_aload_n hx hb dX11_liars_118 rfl (lv_at hl 0 rfl) ?_
            refine pl_get (v := .int v5_8) hx hb hts (fun w h => mT (inX11 w h)) hown hG.1 hP (hst.1 255 (by decide)) hf11 rfl 5 (by decide) (hts _ (mT wg_1341)) (fun _ h => h) rfl dX11_liars_119 ?_
            refine call_v (run_V (rm := rm_X11_fails) hx hb hml hown hts (s_X11_fails l g ad th _ _ _ v5_8 hst hT hv5_8) cV_X11_fails wg_1545 ⟨Nat.le_of_ble_eq_true rfl, Nat.le_of_ble_eq_true rfl⟩ hG hE hA hP hD hS (hst.1 255 (by decide)) hf11 rfl rfl hl.1 (As := [.int v5_8]) (rest := []) rfl (Nat.le_of_ble_eq_true rfl) dX11_liars_122 ⟨Nat.le_of_ble_eq_true rfl, Nat.le_of_ble_eq_true rfl⟩) hA hD hS (fun L18 f19 H locs hp20 hP hD hS => ?_)
            obtain ⟨eL21L, eL21T, eL21F⟩ := hp20
            have eL21L : L18 = L := eL21L
            rw [eL21L] at hP hD
            have hT : TI g ad th f19 := eL21T
            have eL21F : ∀ b, b ≠ (ad 255) → f19 b = f_32 b := eL21F
            have hfr : (∀ b, b ≠ (ad 255) → b ≠ (ad 257) → f19 b = f b) := fun b z0_ z1_ => (eL21F b z0_).trans (hfr b z0_ z1_)
            exact ret_v hx hb hr hlocks hP hD hS (Nat.le_of_ble_eq_true rfl) (Nat.le_of_ble_eq_true rfl) (⟨rfl, hT, hfr⟩) dX11_liars_125
        refine lv_icmp_ge (tgt := 113) hx hb dX11_liars_37 (by decide) (fun c22 => ?_) (fun c22 => ?_)
        ·
          have cc23 : v6_8.toInt ≤ y32_l2.toInt := i32_le.mp c22
          exact hJ113 _ _ _ hP hD hS (lv_sub hl [0, 1, 2] rfl)
        ·
          have cc24 : y32_l2.toInt < v6_8.toInt := i32_nle c22
          have hb25 : In y32_l2 0 499 := In.lt1 hy32_l2 hv6_8 cc24 (by omega) (by omega)
          have hb26 : In v6_8 1 500 := In.lt2 hy32_l2 hv6_8 cc24 (by omega) (by omega)
          refine lv_iload_n hx hb dX11_liars_40 rfl (lv_at hl 1 rfl) ?_
          refine lv_if_eq (tgt := 113) hx hb dX11_liars_41 (by decide) (fun c27 => ?_) (fun c27 => ?_)
          ·
            have cc28 : y32_l1.toInt = (0 : Int32).toInt := congrArg Int32.toInt c27
            have hb29 : In y32_l1 0 0 := In.eq1 hy32_l1 (⟨by decide, by decide⟩ : In 0 0 0) cc28 (by omega) (by omega)
            exact hJ113 _ _ _ hP hD hS (lv_sub hl [0, 1, 2] rfl)
          ·
            have cc30 : y32_l1.toInt ≠ (0 : Int32).toInt := i32_ne c27
            have hb31 : In y32_l1 1 1 := In.ne1 hy32_l1 (⟨by decide, by decide⟩ : In 0 0 0) cc30 (by omega) (by omega)
            refine lv_aload_n hx hb dX11_liars_44 rfl (lv_at hl 0 rfl) ?_
            refine lv_iload_n hx hb dX11_liars_45 rfl (lv_at hl 2 rfl) ?_
            refine call_i (run_V (rm := rm_X11_digitAt) hx hb hml hown hts (s_X11_digitAt l g ad th _ _ _ y32_l2 v5_8 hst hT (In.mono hb25 (by decide) (by decide)) (⟨_, hf11, rfl⟩) (by obtain ⟨o0a, o0b⟩ := (hv5_8 : In _ _ _); obtain ⟨o1a, o1b⟩ := (hb26 : In _ _ _); obtain ⟨o2a, o2b⟩ := (hb25 : In _ _ _); omega)) cV_X11_digitAt wg_1577 ⟨Nat.le_of_ble_eq_true rfl, Nat.le_of_ble_eq_true rfl⟩ hG hE hA hP hD hS (hst.1 255 (by decide)) hf11 rfl rfl hl.1 (As := [.int y32_l2]) (rest := []) rfl (Nat.le_of_ble_eq_true rfl) dX11_liars_46 ⟨Nat.le_of_ble_eq_true rfl, Nat.le_of_ble_eq_true rfl⟩) hA hD hS (fun r32 L33 f34 H locs hp35 hP hD hS => ?_)
            obtain ⟨eL36L, eL36T, eL36R⟩ := hp35
            have eL36L : L33 = L := eL36L
            have eL36T : f34 = f_32 := eL36T
            rw [eL36L, eL36T] at hP hD
            have eL36R : In r32 (-176) 79 := eL36R
            refine lv_aload_n hx hb dX11_liars_49 rfl (lv_at hl 0 rfl) ?_
            refine pl_get (v := .ref (ad 257)) hx hb hts (fun w h => mT (inX11 w h)) hown hG.1 hP (hst.1 255 (by decide)) hf11 rfl 7 (by decide) (hts _ (mT wg_1343)) (fun _ h => h) rfl dX11_liars_50 ?_
            refine lv_iconst (v := 0) hx hb dX11_liars_53 (by decide) ?_
            obtain ⟨rw37, hf38⟩ := hT.2.2 2 (by decide)
            have hin39 : vp_in 0 6 := In.inb (⟨by decide, by decide⟩ : In 0 0 0) (by decide) (by decide)
            refine pl_iald hx hb hG.1 hP (hst.1 257 (by decide)) 0 hf38 rfl hin39 dX11_liars_54 ?_
            refine lv_topi (fun x40 ex40 => ?_)
            have hJ82 : ∀ (y82_s0 : Int32) (H : Heap) (locs : List Loc) (ls : Array Slot), In y82_s0 0 1 → va_P g.1 vwCl (va_pl L f_32) H → va_D A (va_pl L f_32) → va_S A s.heap H locs → lv_has ls 3 [(0, .ref (ad 255)), (1, .int y32_l1), (2, .int y32_l2)] → W p l e rm_X11_liars s m [.ref (ad 255)].toArray below meth c H locs 0 0 (MQ below (va_Qv (po_X11_liars g ad th L f ) (PstB g A) A) [.ref (ad 255)].toArray s rm_X11_liars.cells rm_X11_liars.slots A) (F0 m 82 ls [.int y82_s0]) := by
              intro y82_s0 H locs ls hy82_s0 hP hD hS hl
              refine lv_istore_n (lv' := [(1, .int y82_s0), (0, .ref (ad 255)), (2, .int y32_l2)]) hx hb dX11_liars_82 rfl hl (by decide) rfl (fun ls hl => ?_)
              refine lv_aload_n hx hb dX11_liars_83 rfl (lv_at hl 1 rfl) ?_
              refine pl_get (v := .ref (ad 257)) hx hb hts (fun w h => mT (inX11 w h)) hown hG.1 hP (hst.1 255 (by decide)) hf11 rfl 7 (by decide) (hts _ (mT wg_1343)) (fun _ h => h) rfl dX11_liars_84 ?_
              refine lv_iconst (v := 4) hx hb dX11_liars_87 (by decide) ?_
              refine lv_dup2_11 hx hb dX11_liars_88 rfl rfl ?_
              have hin41 : vp_in 4 6 := In.inb (⟨by decide, by decide⟩ : In 4 4 4) (by decide) (by decide)
              refine pl_iald hx hb hG.1 hP (hst.1 257 (by decide)) 0 hf38 rfl hin41 dX11_liars_89 ?_
              refine lv_topi (fun x42 ex42 => ?_)
              refine lv_iload_n hx hb dX11_liars_90 rfl (lv_at hl 0 rfl) ?_
              have hJ105 : ∀ (y105_s0 : Int32) (H : Heap) (locs : List Loc) (ls : Array Slot), In y105_s0 (-2147483648) 2147483647 → va_P g.1 vwCl (va_pl L f_32) H → va_D A (va_pl L f_32) → va_S A s.heap H locs → lv_has ls 3 [(0, .ref (ad 255)), (1, .int y82_s0), (2, .int y32_l2)] → W p l e rm_X11_liars s m [.ref (ad 255)].toArray below meth c H locs 0 0 (MQ below (va_Qv (po_X11_liars g ad th L f ) (PstB g A) A) [.ref (ad 255)].toArray s rm_X11_liars.cells rm_X11_liars.slots A) (F0 m 105 ls [.int y105_s0, .int x42, .int 4, .ref (ad 257)]) := by
                intro y105_s0 H locs ls hy105_s0 hP hD hS hl
                refine lv_ior hx hb dX11_liars_105 ?_
                refine lv_topi (fun x43 ex43 => ?_)
                refine pl_iastE hx hb hG.1 hP hD hS (hst.1 257 (by decide)) 0 hf38 rfl (In.inb (⟨by decide, by decide⟩ : In 4 4 4) (by decide) (by decide)) dX11_liars_106 (fun H locs f44 r47 er47 hf45 ho46 hP hD hS => ?_)
                have hf48 := (ho46 (ad 255) (hst.ne (by decide) (by decide) (by decide))).trans hf11
                have hfr : (∀ b, b ≠ (ad 255) → b ≠ (ad 257) → f44 b = f b) := fun b z0_ z1_ => (ho46 b z1_).trans (hfr b z0_ z1_)
                obtain ⟨x49, ex49⟩ : ∃ y : Int32, y = y32_l2 + 1 := ⟨_, rfl⟩
                have hb50 : In x49 1 500 := ex49 ▸ In.add hb25 (⟨by decide, by decide⟩ : In 1 1 1) (by decide) (by decide) (by decide) (by decide)
                have et51 : x49.toInt = y32_l2.toInt + 1 := In.adde ex49 hb25 (k := 1) (by decide) (by decide) (by decide)
                refine lv_iinc (v := x49) (lv' := [(2, .int x49), (0, .ref (ad 255)), (1, .int y82_s0)]) hx hb dX11_liars_107 hl (k := 2) rfl (by rw [ex49]; rfl) (by decide) rfl (fun ls hl => ?_)
                have hT := TI.updM hT hst (k := 2) (by decide) hf45 ho46 ⟨r47, rfl⟩
                refine lv_goto (tgt := 32) hx hb dX11_liars_110 (by decide) ?_
                exact ih32 y82_s0 x49 _ _ _ _ hy82_s0 (In.mono hb50 (by decide) (by decide)) hP hD hS hT hfr hf48 (lv_sub hl [1, 2, 0] rfl) (msu et51 (by decide) hmz32)
              refine lv_if_eq (tgt := 104) hx hb dX11_liars_91 (by decide) (fun c52 => ?_) (fun c52 => ?_)
              ·
                have cc53 : y82_s0.toInt = (0 : Int32).toInt := congrArg Int32.toInt c52
                have hb54 : In y82_s0 0 0 := In.eq1 hy82_s0 (⟨by decide, by decide⟩ : In 0 0 0) cc53 (by omega) (by omega)
                refine lv_iconst (v := 0) hx hb dX11_liars_104 (by decide) ?_
                exact hJ105 0 _ _ _ (⟨by decide, by decide⟩ : In 0 (-2147483648) 2147483647) hP hD hS (lv_sub hl [1, 0, 2] rfl)
              ·
                have cc55 : y82_s0.toInt ≠ (0 : Int32).toInt := i32_ne c52
                have hb56 : In y82_s0 1 1 := In.ne1 hy82_s0 (⟨by decide, by decide⟩ : In 0 0 0) cc55 (by omega) (by omega)
                refine lv_iconst (v := 1) hx hb dX11_liars_94 (by decide) ?_
                refine lv_aload_n hx hb dX11_liars_95 rfl (lv_at hl 1 rfl) ?_
                refine lv_iload_n hx hb dX11_liars_96 rfl (lv_at hl 2 rfl) ?_
                refine call_i (run_V (rm := rm_X11_digitAt) hx hb hml hown hts (s_X11_digitAt l g ad th _ _ _ y32_l2 v5_8 hst hT (In.mono hb25 (by decide) (by decide)) (⟨_, hf11, rfl⟩) (by obtain ⟨o0a, o0b⟩ := (hv5_8 : In _ _ _); obtain ⟨o1a, o1b⟩ := (hb26 : In _ _ _); obtain ⟨o2a, o2b⟩ := (hb25 : In _ _ _); omega)) cV_X11_digitAt wg_1577 ⟨Nat.le_of_ble_eq_true rfl, Nat.le_of_ble_eq_true rfl⟩ hG hE hA hP hD hS (hst.1 255 (by decide)) hf11 rfl rfl hl.1 (As := [.int y32_l2]) (rest := [.int 1, .int x42, .int 4, .ref (ad 257)]) rfl (Nat.le_of_ble_eq_true rfl) dX11_liars_97 ⟨Nat.le_of_ble_eq_true rfl, Nat.le_of_ble_eq_true rfl⟩) hA hD hS (fun r57 L58 f59 H locs hp60 hP hD hS => ?_)
                obtain ⟨eL61L, eL61T, eL61R⟩ := hp60
                have eL61L : L58 = L := eL61L
                have eL61T : f59 = f_32 := eL61T
                rw [eL61L, eL61T] at hP hD
                have eL61R : In r57 (-176) 79 := eL61R
                refine lv_ishl hx hb dX11_liars_100 ?_
                refine lv_topi (fun x62 ex62 => ?_)
                refine lv_goto (tgt := 105) hx hb dX11_liars_101 (by decide) ?_
                exact hJ105 x62 _ _ _ (In.full x62) hP hD hS (lv_sub hl [1, 0, 2] rfl)
            have hJ81 : ∀ (H : Heap) (locs : List Loc) (ls : Array Slot), va_P g.1 vwCl (va_pl L f_32) H → va_D A (va_pl L f_32) → va_S A s.heap H locs → lv_has ls 3 [(0, .ref (ad 255)), (1, .int y32_l1), (2, .int y32_l2)] → W p l e rm_X11_liars s m [.ref (ad 255)].toArray below meth c H locs 0 0 (MQ below (va_Qv (po_X11_liars g ad th L f ) (PstB g A) A) [.ref (ad 255)].toArray s rm_X11_liars.cells rm_X11_liars.slots A) (F0 m 81 ls []) := by
              intro H locs ls hP hD hS hl
              refine lv_iconst (v := 0) hx hb dX11_liars_81 (by decide) ?_
              exact hJ82 0 _ _ _ (⟨by decide, by decide⟩ : In 0 0 1) hP hD hS (lv_sub hl [0, 1, 2] rfl)
            refine lv_icmp_ge (tgt := 81) hx hb dX11_liars_55 (by decide) (fun c63 => ?_) (fun c63 => ?_)
            ·
              have cc64 : x40.toInt ≤ r32.toInt := i32_le.mp c63
              have hb65 : In x40 (-2147483648) 79 := In.ge2 eL36R (In.full x40) cc64 (by omega) (by omega)
              exact hJ81 _ _ _ hP hD hS (lv_sub hl [0, 1, 2] rfl)
            ·
              have cc66 : r32.toInt < x40.toInt := i32_nle c63
              have hb67 : In x40 (-175) 2147483647 := In.lt2 eL36R (In.full x40) cc66 (by omega) (by omega)
              refine lv_iload_n hx hb dX11_liars_58 rfl (lv_at hl 2 rfl) ?_
              have hJ77 : ∀ (H : Heap) (locs : List Loc) (ls : Array Slot), va_P g.1 vwCl (va_pl L f_32) H → va_D A (va_pl L f_32) → va_S A s.heap H locs → lv_has ls 3 [(0, .ref (ad 255)), (1, .int y32_l1), (2, .int y32_l2)] → W p l e rm_X11_liars s m [.ref (ad 255)].toArray below meth c H locs 0 0 (MQ below (va_Qv (po_X11_liars g ad th L f ) (PstB g A) A) [.ref (ad 255)].toArray s rm_X11_liars.cells rm_X11_liars.slots A) (F0 m 77 ls []) := by
                intro H locs ls hP hD hS hl
                refine lv_iconst (v := 1) hx hb dX11_liars_77 (by decide) ?_
                refine lv_goto (tgt := 82) hx hb dX11_liars_78 (by decide) ?_
                exact hJ82 1 _ _ _ (⟨by decide, by decide⟩ : In 1 0 1) hP hD hS (lv_sub hl [0, 1, 2] rfl)
              refine lv_if_eq (tgt := 77) hx hb dX11_liars_59 (by decide) (fun c68 => ?_) (fun c68 => ?_)
              ·
                have cc69 : y32_l2.toInt = (0 : Int32).toInt := congrArg Int32.toInt c68
                have hb70 : In y32_l2 0 0 := In.eq1 hb25 (⟨by decide, by decide⟩ : In 0 0 0) cc69 (by omega) (by omega)
                exact hJ77 _ _ _ hP hD hS (lv_sub hl [0, 1, 2] rfl)
              ·
                have cc71 : y32_l2.toInt ≠ (0 : Int32).toInt := i32_ne c68
                have hb72 : In y32_l2 1 499 := In.ne1 hb25 (⟨by decide, by decide⟩ : In 0 0 0) cc71 (by omega) (by omega)
                refine lv_aload_n hx hb dX11_liars_62 rfl (lv_at hl 0 rfl) ?_
                refine lv_iload_n hx hb dX11_liars_63 rfl (lv_at hl 2 rfl) ?_
                refine call_i (run_V (rm := rm_X11_digitAt) hx hb hml hown hts (s_X11_digitAt l g ad th _ _ _ y32_l2 v5_8 hst hT (In.mono hb72 (by decide) (by decide)) (⟨_, hf11, rfl⟩) (by obtain ⟨o0a, o0b⟩ := (hv5_8 : In _ _ _); obtain ⟨o1a, o1b⟩ := (hb26 : In _ _ _); obtain ⟨o2a, o2b⟩ := (hb72 : In _ _ _); omega)) cV_X11_digitAt wg_1577 ⟨Nat.le_of_ble_eq_true rfl, Nat.le_of_ble_eq_true rfl⟩ hG hE hA hP hD hS (hst.1 255 (by decide)) hf11 rfl rfl hl.1 (As := [.int y32_l2]) (rest := []) rfl (Nat.le_of_ble_eq_true rfl) dX11_liars_64 ⟨Nat.le_of_ble_eq_true rfl, Nat.le_of_ble_eq_true rfl⟩) hA hD hS (fun r73 L74 f75 H locs hp76 hP hD hS => ?_)
                obtain ⟨eL77L, eL77T, eL77R⟩ := hp76
                have eL77L : L74 = L := eL77L
                have eL77T : f75 = f_32 := eL77T
                rw [eL77L, eL77T] at hP hD
                have eL77R : In r73 (-176) 79 := eL77R
                refine lv_aload_n hx hb dX11_liars_67 rfl (lv_at hl 0 rfl) ?_
                refine lv_iload_n hx hb dX11_liars_68 rfl (lv_at hl 2 rfl) ?_
                refine lv_iconst (v := 1) hx hb dX11_liars_69 (by decide) ?_
                refine lv_isub hx hb dX11_liars_70 ?_
                refine lv_topi (fun x78 ex78 => ?_)
                have hb79 : In x78 0 498 := ex78 ▸ In.sub hb72 (⟨by decide, by decide⟩ : In 1 1 1) (by decide) (by decide) (by decide) (by decide)
                have et80 : x78.toInt = y32_l2.toInt + (-1) := In.sube ex78 hb72 (k := 1) (by decide) (by decide) (by decide)
                refine call_i (run_V (rm := rm_X11_digitAt) hx hb hml hown hts (s_X11_digitAt l g ad th _ _ _ x78 v5_8 hst hT (In.mono hb79 (by decide) (by decide)) (⟨_, hf11, rfl⟩) (by obtain ⟨o0a, o0b⟩ := (hv5_8 : In _ _ _); obtain ⟨o1a, o1b⟩ := (hb26 : In _ _ _); obtain ⟨o2a, o2b⟩ := (hb79 : In _ _ _); obtain ⟨o3a, o3b⟩ := (hb72 : In _ _ _); omega)) cV_X11_digitAt wg_1577 ⟨Nat.le_of_ble_eq_true rfl, Nat.le_of_ble_eq_true rfl⟩ hG hE hA hP hD hS (hst.1 255 (by decide)) hf11 rfl rfl hl.1 (As := [.int x78]) (rest := [.int r73]) rfl (Nat.le_of_ble_eq_true rfl) dX11_liars_71 ⟨Nat.le_of_ble_eq_true rfl, Nat.le_of_ble_eq_true rfl⟩) hA hD hS (fun r81 L82 f83 H locs hp84 hP hD hS => ?_)
                obtain ⟨eL85L, eL85T, eL85R⟩ := hp84
                have eL85L : L82 = L := eL85L
                have eL85T : f83 = f_32 := eL85T
                rw [eL85L, eL85T] at hP hD
                have eL85R : In r81 (-176) 79 := eL85R
                refine lv_icmp_le (tgt := 81) hx hb dX11_liars_74 (by decide) (fun c86 => ?_) (fun c86 => ?_)
                ·
                  have cc87 : r73.toInt ≤ r81.toInt := i32_le.mp c86
                  exact hJ81 _ _ _ hP hD hS (lv_sub hl [0, 1, 2] rfl)
                ·
                  have cc88 : r81.toInt < r73.toInt := i32_nle c86
                  have hb89 : In r73 (-175) 79 := In.gt1 eL77R eL85R cc88 (by omega) (by omega)
                  have hb90 : In r81 (-176) 78 := In.gt2 eL77R eL85R cc88 (by omega) (by omega)
                  exact hJ77 _ _ _ hP hD hS (lv_sub hl [0, 1, 2] rfl)
    exact hJ32 ((2147483647 - (0 : Int32).toInt).toNat + 1) y29_s0 0 _ _ _ _ hy29_s0 (⟨by decide, by decide⟩ : In 0 0 2147483647) hP hD hS hT hfr hf9 (lv_sub hl [2, 1, 0] rfl) (msI _)
  have hJ28 : ∀ (H : Heap) (locs : List Loc) (ls : Array Slot), va_P g.1 vwCl (va_pl L f5) H → va_D A (va_pl L f5) → va_S A s.heap H locs → lv_has ls 3 [(0, .ref (ad 255))] → W p l e rm_X11_liars s m [.ref (ad 255)].toArray below meth c H locs 0 0 (MQ below (va_Qv (po_X11_liars g ad th L f ) (PstB g A) A) [.ref (ad 255)].toArray s rm_X11_liars.cells rm_X11_liars.slots A) (F0 m 28 ls []) := by
    intro H locs ls hP hD hS hl
    refine lv_iconst (v := 0) hx hb dX11_liars_28 (by decide) ?_
    exact hJ29 0 _ _ _ (⟨by decide, by decide⟩ : In 0 0 1) hP hD hS (lv_sub hl [0] rfl)
  refine lv_if_le (tgt := 28) hx hb dX11_liars_8 (by decide) (fun c91 => ?_) (fun c91 => ?_)
  ·
    have cc92 : v6_8.toInt ≤ (0 : Int32).toInt := i32_le.mp c91
    have hb93 : In v6_8 0 0 := In.le1 hv6_8 (⟨by decide, by decide⟩ : In 0 0 0) cc92 (by omega) (by omega)
    exact hJ28 _ _ _ hP hD hS (lv_sub hl [0] rfl)
  ·
    have cc94 : (0 : Int32).toInt < v6_8.toInt := i32_nle c91
    have hb95 : In v6_8 1 500 := In.gt1 hv6_8 (⟨by decide, by decide⟩ : In 0 0 0) cc94 (by omega) (by omega)
    refine lv_aload_n hx hb dX11_liars_11 rfl (lv_at hl 0 rfl) ?_
    refine pl_get (v := .int v6_8) hx hb hts (fun w h => mT (inX11 w h)) hown hG.1 hP (hst.1 255 (by decide)) hf9 rfl 6 (by decide) (hts _ (mT wg_1342)) (fun _ h => h) rfl dX11_liars_12 ?_
    refine lv_aload_n hx hb dX11_liars_15 rfl (lv_at hl 0 rfl) ?_
    refine pl_get (v := .ref (ad 257)) hx hb hts (fun w h => mT (inX11 w h)) hown hG.1 hP (hst.1 255 (by decide)) hf9 rfl 7 (by decide) (hts _ (mT wg_1343)) (fun _ h => h) rfl dX11_liars_16 ?_
    refine lv_iconst (v := 0) hx hb dX11_liars_19 (by decide) ?_
    obtain ⟨rw96, hf97⟩ := hT.2.2 2 (by decide)
    have hin98 : vp_in 0 6 := In.inb (⟨by decide, by decide⟩ : In 0 0 0) (by decide) (by decide)
    refine pl_iald hx hb hG.1 hP (hst.1 257 (by decide)) 0 hf97 rfl hin98 dX11_liars_20 ?_
    refine lv_topi (fun x99 ex99 => ?_)
    refine lv_icmp_ge (tgt := 28) hx hb dX11_liars_21 (by decide) (fun c100 => ?_) (fun c100 => ?_)
    ·
      have cc101 : x99.toInt ≤ v6_8.toInt := i32_le.mp c100
      have hb102 : In x99 (-2147483648) 500 := In.ge2 hb95 (In.full x99) cc101 (by omega) (by omega)
      exact hJ28 _ _ _ hP hD hS (lv_sub hl [0] rfl)
    ·
      have cc103 : v6_8.toInt < x99.toInt := i32_nle c100
      have hb104 : In x99 2 2147483647 := In.lt2 hb95 (In.full x99) cc103 (by omega) (by omega)
      refine lv_iconst (v := 1) hx hb dX11_liars_24 (by decide) ?_
      refine lv_goto (tgt := 29) hx hb dX11_liars_25 (by decide) ?_
      exact hJ29 1 _ _ _ (⟨by decide, by decide⟩ : In 1 0 1) hP hD hS (lv_sub hl [0] rfl)

abbrev rm_X11_piece : Room := { frames := 6, cells := 0, slots := 0, locals := 128 }
abbrev po_X11_piece (g : GG) (ad : Nat → Nat) (th : Nat → Int) (L : List Nat) (f : HP)  : (List Nat × HP) → Prop := fun u => u.1 = L ∧ TI g ad th u.2 ∧ (∀ b, b ≠ (ad 255) → b ≠ (ad 257) → u.2 b = f b)
set_option maxHeartbeats 4000000 in
set_option maxRecDepth 100000 in
theorem s_X11_piece (l : Launch) (g : GG) (ad : Nat → Nat) (th : Nat → Int) (L : List Nat) (f : HP) (sz : Nat)  (hst : ST ad L) (hT : TI g ad th f)  : MtV l g yX11_piece cX11_piece 4 rm_X11_piece [.ref (ad 255)] L f sz (po_X11_piece g ad th L f ) := by
  refine MtV.of (by decide +kernel) (Nat.le_of_ble_eq_true rfl) ?_
  intro p e s m below meth c A hEn hP hD hS ls hl
  obtain ⟨hx, hb, hr, hml, hown, hlocks, hts, hG, hA, hE, hnm⟩ := hEn
  have hown : s.vm.findClass "RulerWordModel" = some m.cls := hown
  have hl : lv_has ls 4 [(0, .ref (ad 255))] := hl
  have hfr : (∀ b, b ≠ (ad 255) → b ≠ (ad 257) → f b = f b) := fun b z0_ z1_ => rfl
  refine lv_aload_n hx hb dX11_piece_0 rfl (lv_at hl 0 rfl) ?_
  obtain ⟨v0_1, v2_1, v3_1, v4_1, v5_1, v6_1, v8_1, v9_1, v12_1, v13_1, v14_1, v15_1, v16_1, v17_1, v18_1, v19_1, v20_1, v21_1, v22_1, v23_1, v25_1, v36_1, v37_1, v38_1, v39_1, v40_1, v45_1, v46_1, v47_1, v48_1, v50_1, v51_1, v53_1, v55_1, hf2, hv0_1, hv2_1, hv3_1, hv4_1, hv5_1, hv6_1, hv8_1, hv12_1, hv13_1, hv14_1, hg14_1, hv15_1, hg15_1, hv17_1, hg17_1, hv20_1, hv23_1, hg23_1, hv25_1, hv36_1, hv47_1, hv48_1, hv53_1, hv55_1⟩ := hT.2.2 0 (by decide)
  refine call_i (run_V (rm := rm_X11_look) hx hb hml hown hts (s_X11_look l g ad th _ _ _  hst hT ) cV_X11_look wg_1529 ⟨Nat.le_of_ble_eq_true rfl, Nat.le_of_ble_eq_true rfl⟩ hG hE hA hP hD hS (hst.1 255 (by decide)) hf2 rfl rfl hl.1 (As := []) (rest := []) rfl (Nat.le_of_ble_eq_true rfl) dX11_piece_1 ⟨Nat.le_of_ble_eq_true rfl, Nat.le_of_ble_eq_true rfl⟩) hA hD hS (fun r3 L4 f5 H locs hp6 hP hD hS => ?_)
  obtain ⟨eL7L, eL7T, eL7F, eL7R⟩ := hp6
  have eL7L : L4 = L := eL7L
  rw [eL7L] at hP hD
  have hT : TI g ad th f5 := eL7T
  have eL7F : ∀ b, b ≠ (ad 255) → f5 b = f b := eL7F
  have hfr : (∀ b, b ≠ (ad 255) → b ≠ (ad 257) → f5 b = f b) := fun b z0_ z1_ => (eL7F b z0_).trans (hfr b z0_ z1_)
  have eL7R : In r3 (-1) 255 := eL7R
  refine lv_istore_n (lv' := [(1, .int r3), (0, .ref (ad 255))]) hx hb dX11_piece_4 rfl hl (by decide) rfl (fun ls hl => ?_)
  refine lv_aload_n hx hb dX11_piece_5 rfl (lv_at hl 1 rfl) ?_
  obtain ⟨v0_8, v2_8, v3_8, v4_8, v5_8, v6_8, v8_8, v9_8, v12_8, v13_8, v14_8, v15_8, v16_8, v17_8, v18_8, v19_8, v20_8, v21_8, v22_8, v23_8, v25_8, v36_8, v37_8, v38_8, v39_8, v40_8, v45_8, v46_8, v47_8, v48_8, v50_8, v51_8, v53_8, v55_8, hf9, hv0_8, hv2_8, hv3_8, hv4_8, hv5_8, hv6_8, hv8_8, hv12_8, hv13_8, hv14_8, hg14_8, hv15_8, hg15_8, hv17_8, hg17_8, hv20_8, hv23_8, hg23_8, hv25_8, hv36_8, hv47_8, hv48_8, hv53_8, hv55_8⟩ := hT.2.2 0 (by decide)
  refine pl_get (v := .int v3_8) hx hb hts (fun w h => mT (inX11 w h)) hown hG.1 hP (hst.1 255 (by decide)) hf9 rfl 3 (by decide) (hts _ (mT wg_1339)) (fun _ h => h) rfl dX11_piece_6 ?_
  refine lv_istore_n (lv' := [(2, .int v3_8), (1, .int r3), (0, .ref (ad 255))]) hx hb dX11_piece_9 rfl hl (by decide) rfl (fun ls hl => ?_)
  refine lv_aload_n hx hb dX11_piece_10 rfl (lv_at hl 2 rfl) ?_
  refine call_i (run_V (rm := rm_X11_pieceHere) hx hb hml hown hts (s_X11_pieceHere l g ad th _ _ _  hst hT ) cV_X11_pieceHere wg_1553 ⟨Nat.le_of_ble_eq_true rfl, Nat.le_of_ble_eq_true rfl⟩ hG hE hA hP hD hS (hst.1 255 (by decide)) hf9 rfl rfl hl.1 (As := []) (rest := []) rfl (Nat.le_of_ble_eq_true rfl) dX11_piece_11 ⟨Nat.le_of_ble_eq_true rfl, Nat.le_of_ble_eq_true rfl⟩) hA hD hS (fun r10 L11 f12 H locs hp13 hP hD hS => ?_)
  obtain ⟨eL14L, eL14T, eL14F, eL14R⟩ := hp13
  have eL14L : L11 = L := eL14L
  rw [eL14L] at hP hD
  have hT : TI g ad th f12 := eL14T
  have eL14F : ∀ b, b ≠ (ad 255) → f12 b = f5 b := eL14F
  have hfr : (∀ b, b ≠ (ad 255) → b ≠ (ad 257) → f12 b = f b) := fun b z0_ z1_ => (eL14F b z0_).trans (hfr b z0_ z1_)
  have eL14R : In r10 (-1) 5 := eL14R
  refine lv_istore_n (lv' := [(3, .int r10), (2, .int v3_8), (1, .int r3), (0, .ref (ad 255))]) hx hb dX11_piece_14 rfl hl (by decide) rfl (fun ls hl => ?_)
  refine lv_iload_n hx hb dX11_piece_15 rfl (lv_at hl 0 rfl) ?_
  refine lv_iconst (v := (-1)) hx hb dX11_piece_16 (by decide) ?_
  have hJ52 : ∀ (H : Heap) (locs : List Loc) (ls : Array Slot), va_P g.1 vwCl (va_pl L f12) H → va_D A (va_pl L f12) → va_S A s.heap H locs → lv_has ls 4 [(0, .ref (ad 255)), (1, .int r3), (2, .int v3_8), (3, .int r10)] → W p l e rm_X11_piece s m [.ref (ad 255)].toArray below meth c H locs 0 0 (MQ below (va_Qv (po_X11_piece g ad th L f ) (PstB g A) A) [.ref (ad 255)].toArray s rm_X11_piece.cells rm_X11_piece.slots A) (F0 m 52 ls []) := by
    intro H locs ls hP hD hS hl
    refine lv_aload_n hx hb dX11_piece_52 rfl (lv_at hl 0 rfl) ?_
    refine lv_iload_n hx hb dX11_piece_53 rfl (lv_at hl 2 rfl) ?_
    obtain ⟨v0_15, v2_15, v3_15, v4_15, v5_15, v6_15, v8_15, v9_15, v12_15, v13_15, v14_15, v15_15, v16_15, v17_15, v18_15, v19_15, v20_15, v21_15, v22_15, v23_15, v25_15, v36_15, v37_15, v38_15, v39_15, v40_15, v45_15, v46_15, v47_15, v48_15, v50_15, v51_15, v53_15, v55_15, hf16, hv0_15, hv2_15, hv3_15, hv4_15, hv5_15, hv6_15, hv8_15, hv12_15, hv13_15, hv14_15, hg14_15, hv15_15, hg15_15, hv17_15, hg17_15, hv20_15, hv23_15, hg23_15, hv25_15, hv36_15, hv47_15, hv48_15, hv53_15, hv55_15⟩ := hT.2.2 0 (by decide)
    refine call_v (run_V (rm := rm_X11_fails) hx hb hml hown hts (s_X11_fails l g ad th _ _ _ v3_8 hst hT hv3_8) cV_X11_fails wg_1545 ⟨Nat.le_of_ble_eq_true rfl, Nat.le_of_ble_eq_true rfl⟩ hG hE hA hP hD hS (hst.1 255 (by decide)) hf16 rfl rfl hl.1 (As := [.int v3_8]) (rest := []) rfl (Nat.le_of_ble_eq_true rfl) dX11_piece_54 ⟨Nat.le_of_ble_eq_true rfl, Nat.le_of_ble_eq_true rfl⟩) hA hD hS (fun L18 f19 H locs hp20 hP hD hS => ?_)
    obtain ⟨eL21L, eL21T, eL21F⟩ := hp20
    have eL21L : L18 = L := eL21L
    rw [eL21L] at hP hD
    have hT : TI g ad th f19 := eL21T
    have eL21F : ∀ b, b ≠ (ad 255) → f19 b = f12 b := eL21F
    have hfr : (∀ b, b ≠ (ad 255) → b ≠ (ad 257) → f19 b = f b) := fun b z0_ z1_ => (eL21F b z0_).trans (hfr b z0_ z1_)
    exact ret_v hx hb hr hlocks hP hD hS (Nat.le_of_ble_eq_true rfl) (Nat.le_of_ble_eq_true rfl) (⟨rfl, hT, hfr⟩) dX11_piece_57
  refine lv_icmp_eq (tgt := 52) hx hb dX11_piece_17 (by decide) (fun c22 => ?_) (fun c22 => ?_)
  ·
    have cc23 : r10.toInt = ((-1) : Int32).toInt := congrArg Int32.toInt c22
    have hb24 : In r10 (-1) (-1) := In.eq1 eL14R (⟨by decide, by decide⟩ : In (-1) (-1) (-1)) cc23 (by omega) (by omega)
    exact hJ52 _ _ _ hP hD hS (lv_sub hl [3, 2, 1, 0] rfl)
  ·
    have cc25 : r10.toInt ≠ ((-1) : Int32).toInt := i32_ne c22
    have hb26 : In r10 0 5 := In.ne1 eL14R (⟨by decide, by decide⟩ : In (-1) (-1) (-1)) cc25 (by omega) (by omega)
    refine lv_aload_n hx hb dX11_piece_20 rfl (lv_at hl 3 rfl) ?_
    obtain ⟨v0_27, v2_27, v3_27, v4_27, v5_27, v6_27, v8_27, v9_27, v12_27, v13_27, v14_27, v15_27, v16_27, v17_27, v18_27, v19_27, v20_27, v21_27, v22_27, v23_27, v25_27, v36_27, v37_27, v38_27, v39_27, v40_27, v45_27, v46_27, v47_27, v48_27, v50_27, v51_27, v53_27, v55_27, hf28, hv0_27, hv2_27, hv3_27, hv4_27, hv5_27, hv6_27, hv8_27, hv12_27, hv13_27, hv14_27, hg14_27, hv15_27, hg15_27, hv17_27, hg17_27, hv20_27, hv23_27, hg23_27, hv25_27, hv36_27, hv47_27, hv48_27, hv53_27, hv55_27⟩ := hT.2.2 0 (by decide)
    refine pl_get (v := .int v9_27) hx hb hts (fun w h => mT (inX11 w h)) hown hG.1 hP (hst.1 255 (by decide)) hf28 rfl 9 (by decide) (hts _ (mT wg_1345)) (fun _ h => h) rfl dX11_piece_21 ?_
    refine lv_iload_n hx hb dX11_piece_24 rfl (lv_at hl 0 rfl) ?_
    refine call_i (run_S (rm := rm_X11_has) hx hb hml hown hts (s_X11_has l g ad th _ _ _ v9_27 r10 hst hT ) cS_X11_has wg_1563 ⟨Nat.le_of_ble_eq_true rfl, Nat.le_of_ble_eq_true rfl⟩ hG hE hA hP hD hS rfl hl.1 (As := [.int v9_27, .int r10]) (rest := []) rfl (Nat.le_of_ble_eq_true rfl) dX11_piece_25 ⟨Nat.le_of_ble_eq_true rfl, Nat.le_of_ble_eq_true rfl⟩) hA hD hS (fun r29 L30 f31 H locs hp32 hP hD hS => ?_)
    obtain ⟨eL33L, eL33T, eL33R⟩ := hp32
    have eL33L : L30 = L := eL33L
    have eL33T : f31 = f12 := eL33T
    rw [eL33L, eL33T] at hP hD
    have eL33R : In r29 0 1 := eL33R
    refine lv_if_ne (tgt := 52) hx hb dX11_piece_28 (by decide) (fun c34 => ?_) (fun c34 => ?_)
    ·
      have cc35 : r29.toInt ≠ (0 : Int32).toInt := i32_ne c34
      have hb36 : In r29 1 1 := In.ne1 eL33R (⟨by decide, by decide⟩ : In 0 0 0) cc35 (by omega) (by omega)
      exact hJ52 _ _ _ hP hD hS (lv_sub hl [3, 2, 1, 0] rfl)
    ·
      have cc37 : r29.toInt = (0 : Int32).toInt := congrArg Int32.toInt c34
      have hb38 : In r29 0 0 := In.eq1 eL33R (⟨by decide, by decide⟩ : In 0 0 0) cc37 (by omega) (by omega)
      refine lv_iload_n hx hb dX11_piece_31 rfl (lv_at hl 0 rfl) ?_
      refine lv_iconst (v := 3) hx hb dX11_piece_32 (by decide) ?_
      have hJ58 : ∀ (H : Heap) (locs : List Loc) (ls : Array Slot), va_P g.1 vwCl (va_pl L f12) H → va_D A (va_pl L f12) → va_S A s.heap H locs → lv_has ls 4 [(0, .ref (ad 255)), (1, .int r3), (2, .int v3_8), (3, .int r10)] → W p l e rm_X11_piece s m [.ref (ad 255)].toArray below meth c H locs 0 0 (MQ below (va_Qv (po_X11_piece g ad th L f ) (PstB g A) A) [.ref (ad 255)].toArray s rm_X11_piece.cells rm_X11_piece.slots A) (F0 m 58 ls []) := by
        intro H locs ls hP hD hS hl
        refine lv_aload_n hx hb dX11_piece_58 rfl (lv_at hl 0 rfl) ?_
        refine lv_dup hx hb dX11_piece_59 rfl ?_
        refine pl_get (v := .int v9_27) hx hb hts (fun w h => mT (inX11 w h)) hown hG.1 hP (hst.1 255 (by decide)) hf28 rfl 9 (by decide) (hts _ (mT wg_1345)) (fun _ h => h) rfl dX11_piece_60 ?_
        refine lv_iconst (v := 1) hx hb dX11_piece_63 (by decide) ?_
        refine lv_iload_n hx hb dX11_piece_64 rfl (lv_at hl 3 rfl) ?_
        refine lv_ishl hx hb dX11_piece_65 ?_
        refine lv_topi (fun x39 ex39 => ?_)
        have hb40 : In x39 1 32 := ex39 ▸ In.shl (⟨by decide, by decide⟩ : In 1 1 1) hb26 (by decide) (by decide) (by decide) (by decide) (by decide) (by decide)
        refine lv_ior hx hb dX11_piece_66 ?_
        refine lv_topi (fun x41 ex41 => ?_)
        refine pl_put (ty := .int) (v := .int x41) (fs' := [.int v0_27, .ref (ad 256), .int v2_27, .int v3_27, .int v4_27, .int v5_27, .int v6_27, .ref (ad 257), .int v8_27, .int x41, .ref (ad 258), .ref (ad 259), .int v12_27, .int v13_27, .int v14_27, .int v15_27, .int v16_27, .int v17_27, .int v18_27, .int v19_27, .int v20_27, .long v21_27, .long v22_27, .int v23_27, .ref (ad 260), .int v25_27, .ref (ad 261), .ref (ad 262), .ref (ad 263), .ref (ad 264), .ref (ad 265), .ref (ad 266), .ref (ad 267), .ref (ad 268), .ref (ad 269), .ref (ad 270), .int v36_27, .int v37_27, .int v38_27, .int v39_27, .int v40_27, .ref (ad 271), .ref (ad 272), .ref (ad 273), .ref (ad 274), .long v45_27, .long v46_27, .int v47_27, .int v48_27, .ref (ad 275), .int v50_27, .int v51_27, .ref (ad 276), .int v53_27, .ref (ad 277), .int v55_27]) hx hb hts (fun w h => mT (inX11 w h)) tyX11 tyX11_ok nmX11 hown hG.1 hP hD hS (hst.1 255 (by decide)) hf28 rfl 9 (by decide) (hts _ (mT wg_1345)) (fun _ h => h) rfl (by decide +kernel) (rfl) (rfl) (Nat.le_of_ble_eq_true rfl) rfl dX11_piece_67 (fun H locs f42 hf43 ho44 hP hD hS => ?_)
        have hfr : (∀ b, b ≠ (ad 255) → b ≠ (ad 257) → f42 b = f b) := fun b z0_ z1_ => (ho44 b z0_).trans (hfr b z0_ z1_)
        refine lv_iload_n hx hb dX11_piece_70 rfl (lv_at hl 3 rfl) ?_
        have hT := TI.updM hT hst (k := 0) (by decide) hf43 ho44 ⟨v0_27, v2_27, v3_27, v4_27, v5_27, v6_27, v8_27, x41, v12_27, v13_27, v14_27, v15_27, v16_27, v17_27, v18_27, v19_27, v20_27, v21_27, v22_27, v23_27, v25_27, v36_27, v37_27, v38_27, v39_27, v40_27, v45_27, v46_27, v47_27, v48_27, v50_27, v51_27, v53_27, v55_27, rfl, hv0_27, hv2_27, hv3_27, hv4_27, hv5_27, hv6_27, hv8_27, hv12_27, hv13_27, hv14_27, hg14_27, hv15_27, hg15_27, hv17_27, hg17_27, hv20_27, hv23_27, hg23_27, hv25_27, hv36_27, hv47_27, hv48_27, hv53_27, hv55_27⟩
        have hJ87 : ∀ (f_87 : HP) (H : Heap) (locs : List Loc) (ls : Array Slot), va_P g.1 vwCl (va_pl L f_87) H → va_D A (va_pl L f_87) → va_S A s.heap H locs → TI g ad th f_87 → (∀ b, b ≠ (ad 255) → b ≠ (ad 257) → f_87 b = f b) → lv_has ls 4 [(0, .ref (ad 255)), (1, .int r3), (2, .int v3_8), (3, .int r10)] → W p l e rm_X11_piece s m [.ref (ad 255)].toArray below meth c H locs 0 0 (MQ below (va_Qv (po_X11_piece g ad th L f ) (PstB g A) A) [.ref (ad 255)].toArray s rm_X11_piece.cells rm_X11_piece.slots A) (F0 m 87 ls []) := by
          intro f_87 H locs ls hP hD hS hT hfr hl
          refine lv_iload_n hx hb dX11_piece_87 rfl (lv_at hl 3 rfl) ?_
          refine lv_iconst (v := 1) hx hb dX11_piece_88 (by decide) ?_
          have hJ104 : ∀ (f_104 : HP) (H : Heap) (locs : List Loc) (ls : Array Slot), va_P g.1 vwCl (va_pl L f_104) H → va_D A (va_pl L f_104) → va_S A s.heap H locs → TI g ad th f_104 → (∀ b, b ≠ (ad 255) → b ≠ (ad 257) → f_104 b = f b) → lv_has ls 4 [(0, .ref (ad 255)), (1, .int r3), (2, .int v3_8), (3, .int r10)] → W p l e rm_X11_piece s m [.ref (ad 255)].toArray below meth c H locs 0 0 (MQ below (va_Qv (po_X11_piece g ad th L f ) (PstB g A) A) [.ref (ad 255)].toArray s rm_X11_piece.cells rm_X11_piece.slots A) (F0 m 104 ls []) := by
            intro f_104 H locs ls hP hD hS hT hfr hl
            refine lv_iload_n hx hb dX11_piece_104 rfl (lv_at hl 3 rfl) ?_
            refine lv_iconst (v := 2) hx hb dX11_piece_105 (by decide) ?_
            have hJ122 : ∀ (f_122 : HP) (H : Heap) (locs : List Loc) (ls : Array Slot), va_P g.1 vwCl (va_pl L f_122) H → va_D A (va_pl L f_122) → va_S A s.heap H locs → TI g ad th f_122 → (∀ b, b ≠ (ad 255) → b ≠ (ad 257) → f_122 b = f b) → lv_has ls 4 [(0, .ref (ad 255)), (1, .int r3), (2, .int v3_8), (3, .int r10)] → W p l e rm_X11_piece s m [.ref (ad 255)].toArray below meth c H locs 0 0 (MQ below (va_Qv (po_X11_piece g ad th L f ) (PstB g A) A) [.ref (ad 255)].toArray s rm_X11_piece.cells rm_X11_piece.slots A) (F0 m 122 ls []) := by
              intro f_122 H locs ls hP hD hS hT hfr hl
              refine lv_iload_n hx hb dX11_piece_122 rfl (lv_at hl 3 rfl) ?_
              refine lv_iconst (v := 3) hx hb dX11_piece_123 (by decide) ?_
              have hJ131 : ∀ (f_131 : HP) (H : Heap) (locs : List Loc) (ls : Array Slot), va_P g.1 vwCl (va_pl L f_131) H → va_D A (va_pl L f_131) → va_S A s.heap H locs → TI g ad th f_131 → (∀ b, b ≠ (ad 255) → b ≠ (ad 257) → f_131 b = f b) → lv_has ls 4 [(0, .ref (ad 255)), (1, .int r3), (2, .int v3_8), (3, .int r10)] → W p l e rm_X11_piece s m [.ref (ad 255)].toArray below meth c H locs 0 0 (MQ below (va_Qv (po_X11_piece g ad th L f ) (PstB g A) A) [.ref (ad 255)].toArray s rm_X11_piece.cells rm_X11_piece.slots A) (F0 m 131 ls []) := by
                intro f_131 H locs ls hP hD hS hT hfr hl
                refine lv_iload_n hx hb dX11_piece_131 rfl (lv_at hl 3 rfl) ?_
                refine lv_iconst (v := 4) hx hb dX11_piece_132 (by decide) ?_
                have hJ140 : ∀ (f_140 : HP) (H : Heap) (locs : List Loc) (ls : Array Slot), va_P g.1 vwCl (va_pl L f_140) H → va_D A (va_pl L f_140) → va_S A s.heap H locs → TI g ad th f_140 → (∀ b, b ≠ (ad 255) → b ≠ (ad 257) → f_140 b = f b) → lv_has ls 4 [(0, .ref (ad 255)), (1, .int r3), (2, .int v3_8), (3, .int r10)] → W p l e rm_X11_piece s m [.ref (ad 255)].toArray below meth c H locs 0 0 (MQ below (va_Qv (po_X11_piece g ad th L f ) (PstB g A) A) [.ref (ad 255)].toArray s rm_X11_piece.cells rm_X11_piece.slots A) (F0 m 140 ls []) := by
                  intro f_140 H locs ls hP hD hS hT hfr hl
                  refine lv_iload_n hx hb dX11_piece_140 rfl (lv_at hl 3 rfl) ?_
                  refine lv_iconst (v := 5) hx hb dX11_piece_141 (by decide) ?_
                  refine lv_icmp_ne (tgt := 152) hx hb dX11_piece_142 (by decide) (fun c45 => ?_) (fun c45 => ?_)
                  ·
                    have cc46 : r10.toInt ≠ (5 : Int32).toInt := i32_ne c45
                    have hb47 : In r10 0 4 := In.ne1 hb26 (⟨by decide, by decide⟩ : In 5 5 5) cc46 (by omega) (by omega)
                    exact ret_v hx hb hr hlocks hP hD hS (Nat.le_of_ble_eq_true rfl) (Nat.le_of_ble_eq_true rfl) (⟨rfl, hT, hfr⟩) dX11_piece_152
                  ·
                    have cc48 : r10.toInt = (5 : Int32).toInt := congrArg Int32.toInt c45
                    have hb49 : In r10 5 5 := In.eq1 hb26 (⟨by decide, by decide⟩ : In 5 5 5) cc48 (by omega) (by omega)
                    refine lv_aload_n hx hb dX11_piece_145 rfl (lv_at hl 0 rfl) ?_
                    obtain ⟨v0_50, v2_50, v3_50, v4_50, v5_50, v6_50, v8_50, v9_50, v12_50, v13_50, v14_50, v15_50, v16_50, v17_50, v18_50, v19_50, v20_50, v21_50, v22_50, v23_50, v25_50, v36_50, v37_50, v38_50, v39_50, v40_50, v45_50, v46_50, v47_50, v48_50, v50_50, v51_50, v53_50, v55_50, hf51, hv0_50, hv2_50, hv3_50, hv4_50, hv5_50, hv6_50, hv8_50, hv12_50, hv13_50, hv14_50, hg14_50, hv15_50, hg15_50, hv17_50, hg17_50, hv20_50, hv23_50, hg23_50, hv25_50, hv36_50, hv47_50, hv48_50, hv53_50, hv55_50⟩ := hT.2.2 0 (by decide)
                    refine pl_get (v := .ref (ad 257)) hx hb hts (fun w h => mT (inX11 w h)) hown hG.1 hP (hst.1 255 (by decide)) hf51 rfl 7 (by decide) (hts _ (mT wg_1343)) (fun _ h => h) rfl dX11_piece_146 ?_
                    refine lv_iconst (v := 5) hx hb dX11_piece_149 (by decide) ?_
                    refine lv_iconst (v := 1) hx hb dX11_piece_150 (by decide) ?_
                    obtain ⟨rw52, hf53⟩ := hT.2.2 2 (by decide)
                    refine pl_iastE hx hb hG.1 hP hD hS (hst.1 257 (by decide)) 0 hf53 rfl (In.inb (⟨by decide, by decide⟩ : In 5 5 5) (by decide) (by decide)) dX11_piece_151 (fun H locs f54 r57 er57 hf55 ho56 hP hD hS => ?_)
                    have hf58 := (ho56 (ad 255) (hst.ne (by decide) (by decide) (by decide))).trans hf51
                    have hfr : (∀ b, b ≠ (ad 255) → b ≠ (ad 257) → f54 b = f b) := fun b z0_ z1_ => (ho56 b z1_).trans (hfr b z0_ z1_)
                    have hT := TI.updM hT hst (k := 2) (by decide) hf55 ho56 ⟨r57, rfl⟩
                    exact ret_v hx hb hr hlocks hP hD hS (Nat.le_of_ble_eq_true rfl) (Nat.le_of_ble_eq_true rfl) (⟨rfl, hT, hfr⟩) dX11_piece_152
                refine lv_icmp_ne (tgt := 140) hx hb dX11_piece_133 (by decide) (fun c59 => ?_) (fun c59 => ?_)
                ·
                  exact hJ140 _ _ _ _ hP hD hS hT hfr (lv_sub hl [0, 1, 2, 3] rfl)
                ·
                  have cc60 : r10.toInt = (4 : Int32).toInt := congrArg Int32.toInt c59
                  have hb61 : In r10 4 4 := In.eq1 hb26 (⟨by decide, by decide⟩ : In 4 4 4) cc60 (by omega) (by omega)
                  refine lv_aload_n hx hb dX11_piece_136 rfl (lv_at hl 0 rfl) ?_
                  obtain ⟨v0_62, v2_62, v3_62, v4_62, v5_62, v6_62, v8_62, v9_62, v12_62, v13_62, v14_62, v15_62, v16_62, v17_62, v18_62, v19_62, v20_62, v21_62, v22_62, v23_62, v25_62, v36_62, v37_62, v38_62, v39_62, v40_62, v45_62, v46_62, v47_62, v48_62, v50_62, v51_62, v53_62, v55_62, hf63, hv0_62, hv2_62, hv3_62, hv4_62, hv5_62, hv6_62, hv8_62, hv12_62, hv13_62, hv14_62, hg14_62, hv15_62, hg15_62, hv17_62, hg17_62, hv20_62, hv23_62, hg23_62, hv25_62, hv36_62, hv47_62, hv48_62, hv53_62, hv55_62⟩ := hT.2.2 0 (by decide)
                  refine call_v (run_V (rm := rm_X11_liars) hx hb hml hown hts (s_X11_liars l g ad th _ _ _  hst hT ) cV_X11_liars wg_1588 ⟨Nat.le_of_ble_eq_true rfl, Nat.le_of_ble_eq_true rfl⟩ hG hE hA hP hD hS (hst.1 255 (by decide)) hf63 rfl rfl hl.1 (As := []) (rest := []) rfl (Nat.le_of_ble_eq_true rfl) dX11_piece_137 ⟨Nat.le_of_ble_eq_true rfl, Nat.le_of_ble_eq_true rfl⟩) hA hD hS (fun L65 f66 H locs hp67 hP hD hS => ?_)
                  obtain ⟨eL68L, eL68T, eL68F⟩ := hp67
                  have eL68L : L65 = L := eL68L
                  rw [eL68L] at hP hD
                  have hT : TI g ad th f66 := eL68T
                  have eL68F : ∀ b, b ≠ (ad 255) → b ≠ (ad 257) → f66 b = f_131 b := eL68F
                  have hfr : (∀ b, b ≠ (ad 255) → b ≠ (ad 257) → f66 b = f b) := fun b z0_ z1_ => (eL68F b z0_ z1_).trans (hfr b z0_ z1_)
                  exact hJ140 _ _ _ _ hP hD hS hT hfr (lv_sub hl [0, 1, 2, 3] rfl)
              refine lv_icmp_ne (tgt := 131) hx hb dX11_piece_124 (by decide) (fun c69 => ?_) (fun c69 => ?_)
              ·
                exact hJ131 _ _ _ _ hP hD hS hT hfr (lv_sub hl [0, 1, 2, 3] rfl)
              ·
                have cc70 : r10.toInt = (3 : Int32).toInt := congrArg Int32.toInt c69
                have hb71 : In r10 3 3 := In.eq1 hb26 (⟨by decide, by decide⟩ : In 3 3 3) cc70 (by omega) (by omega)
                refine lv_aload_n hx hb dX11_piece_127 rfl (lv_at hl 0 rfl) ?_
                obtain ⟨v0_72, v2_72, v3_72, v4_72, v5_72, v6_72, v8_72, v9_72, v12_72, v13_72, v14_72, v15_72, v16_72, v17_72, v18_72, v19_72, v20_72, v21_72, v22_72, v23_72, v25_72, v36_72, v37_72, v38_72, v39_72, v40_72, v45_72, v46_72, v47_72, v48_72, v50_72, v51_72, v53_72, v55_72, hf73, hv0_72, hv2_72, hv3_72, hv4_72, hv5_72, hv6_72, hv8_72, hv12_72, hv13_72, hv14_72, hg14_72, hv15_72, hg15_72, hv17_72, hg17_72, hv20_72, hv23_72, hg23_72, hv25_72, hv36_72, hv47_72, hv48_72, hv53_72, hv55_72⟩ := hT.2.2 0 (by decide)
                refine call_v (run_V (rm := rm_X11_starts) hx hb hml hown hts (s_X11_starts l g ad th _ _ _  hst hT ) cV_X11_starts wg_1584 ⟨Nat.le_of_ble_eq_true rfl, Nat.le_of_ble_eq_true rfl⟩ hG hE hA hP hD hS (hst.1 255 (by decide)) hf73 rfl rfl hl.1 (As := []) (rest := []) rfl (Nat.le_of_ble_eq_true rfl) dX11_piece_128 ⟨Nat.le_of_ble_eq_true rfl, Nat.le_of_ble_eq_true rfl⟩) hA hD hS (fun L75 f76 H locs hp77 hP hD hS => ?_)
                obtain ⟨eL78L, eL78T, eL78F⟩ := hp77
                have eL78L : L75 = L := eL78L
                rw [eL78L] at hP hD
                have hT : TI g ad th f76 := eL78T
                have eL78F : ∀ b, b ≠ (ad 255) → b ≠ (ad 257) → f76 b = f_122 b := eL78F
                have hfr : (∀ b, b ≠ (ad 255) → b ≠ (ad 257) → f76 b = f b) := fun b z0_ z1_ => (eL78F b z0_ z1_).trans (hfr b z0_ z1_)
                exact hJ131 _ _ _ _ hP hD hS hT hfr (lv_sub hl [0, 1, 2, 3] rfl)
            refine lv_icmp_ne (tgt := 122) hx hb dX11_piece_106 (by decide) (fun c79 => ?_) (fun c79 => ?_)
            ·
              exact hJ122 _ _ _ _ hP hD hS hT hfr (lv_sub hl [0, 1, 2, 3] rfl)
            ·
              have cc80 : r10.toInt = (2 : Int32).toInt := congrArg Int32.toInt c79
              have hb81 : In r10 2 2 := In.eq1 hb26 (⟨by decide, by decide⟩ : In 2 2 2) cc80 (by omega) (by omega)
              refine lv_aload_n hx hb dX11_piece_109 rfl (lv_at hl 0 rfl) ?_
              obtain ⟨v0_82, v2_82, v3_82, v4_82, v5_82, v6_82, v8_82, v9_82, v12_82, v13_82, v14_82, v15_82, v16_82, v17_82, v18_82, v19_82, v20_82, v21_82, v22_82, v23_82, v25_82, v36_82, v37_82, v38_82, v39_82, v40_82, v45_82, v46_82, v47_82, v48_82, v50_82, v51_82, v53_82, v55_82, hf83, hv0_82, hv2_82, hv3_82, hv4_82, hv5_82, hv6_82, hv8_82, hv12_82, hv13_82, hv14_82, hg14_82, hv15_82, hg15_82, hv17_82, hg17_82, hv20_82, hv23_82, hg23_82, hv25_82, hv36_82, hv47_82, hv48_82, hv53_82, hv55_82⟩ := hT.2.2 0 (by decide)
              refine pl_get (v := .ref (ad 257)) hx hb hts (fun w h => mT (inX11 w h)) hown hG.1 hP (hst.1 255 (by decide)) hf83 rfl 7 (by decide) (hts _ (mT wg_1343)) (fun _ h => h) rfl dX11_piece_110 ?_
              refine lv_iconst (v := 2) hx hb dX11_piece_113 (by decide) ?_
              refine lv_aload_n hx hb dX11_piece_114 rfl (lv_at hl 0 rfl) ?_
              refine lv_iconst (v := 1) hx hb dX11_piece_115 (by decide) ?_
              refine lv_bipush (v := 6) hx hb dX11_piece_116 (by decide) ?_
              refine call_i (run_V (rm := rm_X11_digit_1_6) hx hb hml hown hts (s_X11_digit_1_6 l g ad th _ _ _  hst hT ) cV_X11_digit wg_1566 ⟨Nat.le_of_ble_eq_true rfl, Nat.le_of_ble_eq_true rfl⟩ hG hE hA hP hD hS (hst.1 255 (by decide)) hf83 rfl rfl hl.1 (As := [.int 1, .int 6]) (rest := [.int 2, .ref (ad 257)]) rfl (Nat.le_of_ble_eq_true rfl) dX11_piece_118 ⟨Nat.le_of_ble_eq_true rfl, Nat.le_of_ble_eq_true rfl⟩) hA hD hS (fun r84 L85 f86 H locs hp87 hP hD hS => ?_)
              obtain ⟨eL88L, eL88T, eL88F⟩ := hp87
              have eL88L : L85 = L := eL88L
              rw [eL88L] at hP hD
              have hT : TI g ad th f86 := eL88T
              have eL88F : ∀ b, b ≠ (ad 255) → f86 b = f_104 b := eL88F
              have hfr : (∀ b, b ≠ (ad 255) → b ≠ (ad 257) → f86 b = f b) := fun b z0_ z1_ => (eL88F b z0_).trans (hfr b z0_ z1_)
              obtain ⟨rw89, hf90⟩ := hT.2.2 2 (by decide)
              refine pl_iastE hx hb hG.1 hP hD hS (hst.1 257 (by decide)) 0 hf90 rfl (In.inb (⟨by decide, by decide⟩ : In 2 2 2) (by decide) (by decide)) dX11_piece_121 (fun H locs f91 r94 er94 hf92 ho93 hP hD hS => ?_)
              have hfr : (∀ b, b ≠ (ad 255) → b ≠ (ad 257) → f91 b = f b) := fun b z0_ z1_ => (ho93 b z1_).trans (hfr b z0_ z1_)
              have hT := TI.updM hT hst (k := 2) (by decide) hf92 ho93 ⟨r94, rfl⟩
              exact hJ122 _ _ _ _ hP hD hS hT hfr (lv_sub hl [0, 1, 2, 3] rfl)
          refine lv_icmp_ne (tgt := 104) hx hb dX11_piece_89 (by decide) (fun c95 => ?_) (fun c95 => ?_)
          ·
            exact hJ104 _ _ _ _ hP hD hS hT hfr (lv_sub hl [0, 1, 2, 3] rfl)
          ·
            have cc96 : r10.toInt = (1 : Int32).toInt := congrArg Int32.toInt c95
            have hb97 : In r10 1 1 := In.eq1 hb26 (⟨by decide, by decide⟩ : In 1 1 1) cc96 (by omega) (by omega)
            refine lv_aload_n hx hb dX11_piece_92 rfl (lv_at hl 0 rfl) ?_
            obtain ⟨v0_98, v2_98, v3_98, v4_98, v5_98, v6_98, v8_98, v9_98, v12_98, v13_98, v14_98, v15_98, v16_98, v17_98, v18_98, v19_98, v20_98, v21_98, v22_98, v23_98, v25_98, v36_98, v37_98, v38_98, v39_98, v40_98, v45_98, v46_98, v47_98, v48_98, v50_98, v51_98, v53_98, v55_98, hf99, hv0_98, hv2_98, hv3_98, hv4_98, hv5_98, hv6_98, hv8_98, hv12_98, hv13_98, hv14_98, hg14_98, hv15_98, hg15_98, hv17_98, hg17_98, hv20_98, hv23_98, hg23_98, hv25_98, hv36_98, hv47_98, hv48_98, hv53_98, hv55_98⟩ := hT.2.2 0 (by decide)
            refine pl_get (v := .ref (ad 257)) hx hb hts (fun w h => mT (inX11 w h)) hown hG.1 hP (hst.1 255 (by decide)) hf99 rfl 7 (by decide) (hts _ (mT wg_1343)) (fun _ h => h) rfl dX11_piece_93 ?_
            refine lv_iconst (v := 1) hx hb dX11_piece_96 (by decide) ?_
            refine lv_aload_n hx hb dX11_piece_97 rfl (lv_at hl 0 rfl) ?_
            refine lv_iconst (v := 0) hx hb dX11_piece_98 (by decide) ?_
            refine lv_iconst (v := 4) hx hb dX11_piece_99 (by decide) ?_
            refine call_i (run_V (rm := rm_X11_digit_0_4) hx hb hml hown hts (s_X11_digit_0_4 l g ad th _ _ _  hst hT ) cV_X11_digit wg_1566 ⟨Nat.le_of_ble_eq_true rfl, Nat.le_of_ble_eq_true rfl⟩ hG hE hA hP hD hS (hst.1 255 (by decide)) hf99 rfl rfl hl.1 (As := [.int 0, .int 4]) (rest := [.int 1, .ref (ad 257)]) rfl (Nat.le_of_ble_eq_true rfl) dX11_piece_100 ⟨Nat.le_of_ble_eq_true rfl, Nat.le_of_ble_eq_true rfl⟩) hA hD hS (fun r100 L101 f102 H locs hp103 hP hD hS => ?_)
            obtain ⟨eL104L, eL104T, eL104F⟩ := hp103
            have eL104L : L101 = L := eL104L
            rw [eL104L] at hP hD
            have hT : TI g ad th f102 := eL104T
            have eL104F : ∀ b, b ≠ (ad 255) → f102 b = f_87 b := eL104F
            have hfr : (∀ b, b ≠ (ad 255) → b ≠ (ad 257) → f102 b = f b) := fun b z0_ z1_ => (eL104F b z0_).trans (hfr b z0_ z1_)
            obtain ⟨rw105, hf106⟩ := hT.2.2 2 (by decide)
            refine pl_iastE hx hb hG.1 hP hD hS (hst.1 257 (by decide)) 0 hf106 rfl (In.inb (⟨by decide, by decide⟩ : In 1 1 1) (by decide) (by decide)) dX11_piece_103 (fun H locs f107 r110 er110 hf108 ho109 hP hD hS => ?_)
            have hfr : (∀ b, b ≠ (ad 255) → b ≠ (ad 257) → f107 b = f b) := fun b z0_ z1_ => (ho109 b z1_).trans (hfr b z0_ z1_)
            have hT := TI.updM hT hst (k := 2) (by decide) hf108 ho109 ⟨r110, rfl⟩
            exact hJ104 _ _ _ _ hP hD hS hT hfr (lv_sub hl [0, 1, 2, 3] rfl)
        refine lv_if_ne (tgt := 87) hx hb dX11_piece_71 (by decide) (fun c111 => ?_) (fun c111 => ?_)
        ·
          have cc112 : r10.toInt ≠ (0 : Int32).toInt := i32_ne c111
          have hb113 : In r10 1 5 := In.ne1 hb26 (⟨by decide, by decide⟩ : In 0 0 0) cc112 (by omega) (by omega)
          exact hJ87 _ _ _ _ hP hD hS hT hfr (lv_sub hl [0, 1, 2, 3] rfl)
        ·
          have cc114 : r10.toInt = (0 : Int32).toInt := congrArg Int32.toInt c111
          have hb115 : In r10 0 0 := In.eq1 hb26 (⟨by decide, by decide⟩ : In 0 0 0) cc114 (by omega) (by omega)
          refine lv_aload_n hx hb dX11_piece_74 rfl (lv_at hl 0 rfl) ?_
          refine pl_get (v := .ref (ad 257)) hx hb hts (fun w h => mT (inX11 w h)) hown hG.1 hP (hst.1 255 (by decide)) hf43 rfl 7 (by decide) (hts _ (mT wg_1343)) (fun _ h => h) rfl dX11_piece_75 ?_
          refine lv_iconst (v := 0) hx hb dX11_piece_78 (by decide) ?_
          refine lv_aload_n hx hb dX11_piece_79 rfl (lv_at hl 0 rfl) ?_
          refine lv_iconst (v := 3) hx hb dX11_piece_80 (by decide) ?_
          refine lv_bipush (v := 9) hx hb dX11_piece_81 (by decide) ?_
          refine call_i (run_V (rm := rm_X11_digit_3_9) hx hb hml hown hts (s_X11_digit_3_9 l g ad th _ _ _  hst hT ) cV_X11_digit wg_1566 ⟨Nat.le_of_ble_eq_true rfl, Nat.le_of_ble_eq_true rfl⟩ hG hE hA hP hD hS (hst.1 255 (by decide)) hf43 rfl rfl hl.1 (As := [.int 3, .int 9]) (rest := [.int 0, .ref (ad 257)]) rfl (Nat.le_of_ble_eq_true rfl) dX11_piece_83 ⟨Nat.le_of_ble_eq_true rfl, Nat.le_of_ble_eq_true rfl⟩) hA hD hS (fun r116 L117 f118 H locs hp119 hP hD hS => ?_)
          obtain ⟨eL120L, eL120T, eL120F⟩ := hp119
          have eL120L : L117 = L := eL120L
          rw [eL120L] at hP hD
          have hT : TI g ad th f118 := eL120T
          have eL120F : ∀ b, b ≠ (ad 255) → f118 b = f42 b := eL120F
          have hfr : (∀ b, b ≠ (ad 255) → b ≠ (ad 257) → f118 b = f b) := fun b z0_ z1_ => (eL120F b z0_).trans (hfr b z0_ z1_)
          obtain ⟨rw121, hf122⟩ := hT.2.2 2 (by decide)
          refine pl_iastE hx hb hG.1 hP hD hS (hst.1 257 (by decide)) 0 hf122 rfl (In.inb (⟨by decide, by decide⟩ : In 0 0 0) (by decide) (by decide)) dX11_piece_86 (fun H locs f123 r126 er126 hf124 ho125 hP hD hS => ?_)
          have hfr : (∀ b, b ≠ (ad 255) → b ≠ (ad 257) → f123 b = f b) := fun b z0_ z1_ => (ho125 b z1_).trans (hfr b z0_ z1_)
          have hT := TI.updM hT hst (k := 2) (by decide) hf124 ho125 ⟨r126, rfl⟩
          exact hJ87 _ _ _ _ hP hD hS hT hfr (lv_sub hl [0, 1, 2, 3] rfl)
      have hJ41 : ∀ (H : Heap) (locs : List Loc) (ls : Array Slot), va_P g.1 vwCl (va_pl L f12) H → va_D A (va_pl L f12) → va_S A s.heap H locs → lv_has ls 4 [(0, .ref (ad 255)), (1, .int r3), (2, .int v3_8), (3, .int r10)] → W p l e rm_X11_piece s m [.ref (ad 255)].toArray below meth c H locs 0 0 (MQ below (va_Qv (po_X11_piece g ad th L f ) (PstB g A) A) [.ref (ad 255)].toArray s rm_X11_piece.cells rm_X11_piece.slots A) (F0 m 41 ls []) := by
        intro H locs ls hP hD hS hl
        refine lv_aload_n hx hb dX11_piece_41 rfl (lv_at hl 0 rfl) ?_
        refine pl_get (v := .int v9_27) hx hb hts (fun w h => mT (inX11 w h)) hown hG.1 hP (hst.1 255 (by decide)) hf28 rfl 9 (by decide) (hts _ (mT wg_1345)) (fun _ h => h) rfl dX11_piece_42 ?_
        refine lv_iconst (v := 0) hx hb dX11_piece_45 (by decide) ?_
        refine call_i (run_S (rm := rm_X11_has) hx hb hml hown hts (s_X11_has l g ad th _ _ _ v9_27 0 hst hT ) cS_X11_has wg_1563 ⟨Nat.le_of_ble_eq_true rfl, Nat.le_of_ble_eq_true rfl⟩ hG hE hA hP hD hS rfl hl.1 (As := [.int v9_27, .int 0]) (rest := []) rfl (Nat.le_of_ble_eq_true rfl) dX11_piece_46 ⟨Nat.le_of_ble_eq_true rfl, Nat.le_of_ble_eq_true rfl⟩) hA hD hS (fun r127 L128 f129 H locs hp130 hP hD hS => ?_)
        obtain ⟨eL131L, eL131T, eL131R⟩ := hp130
        have eL131L : L128 = L := eL131L
        have eL131T : f129 = f12 := eL131T
        rw [eL131L, eL131T] at hP hD
        have eL131R : In r127 0 1 := eL131R
        refine lv_if_ne (tgt := 58) hx hb dX11_piece_49 (by decide) (fun c132 => ?_) (fun c132 => ?_)
        ·
          have cc133 : r127.toInt ≠ (0 : Int32).toInt := i32_ne c132
          have hb134 : In r127 1 1 := In.ne1 eL131R (⟨by decide, by decide⟩ : In 0 0 0) cc133 (by omega) (by omega)
          exact hJ58 _ _ _ hP hD hS (lv_sub hl [0, 1, 2, 3] rfl)
        ·
          have cc135 : r127.toInt = (0 : Int32).toInt := congrArg Int32.toInt c132
          have hb136 : In r127 0 0 := In.eq1 eL131R (⟨by decide, by decide⟩ : In 0 0 0) cc135 (by omega) (by omega)
          exact hJ52 _ _ _ hP hD hS (lv_sub hl [0, 1, 2, 3] rfl)
      refine lv_icmp_eq (tgt := 41) hx hb dX11_piece_33 (by decide) (fun c137 => ?_) (fun c137 => ?_)
      ·
        have cc138 : r10.toInt = (3 : Int32).toInt := congrArg Int32.toInt c137
        have hb139 : In r10 3 3 := In.eq1 hb26 (⟨by decide, by decide⟩ : In 3 3 3) cc138 (by omega) (by omega)
        exact hJ41 _ _ _ hP hD hS (lv_sub hl [3, 2, 1, 0] rfl)
      ·
        refine lv_iload_n hx hb dX11_piece_36 rfl (lv_at hl 0 rfl) ?_
        refine lv_iconst (v := 4) hx hb dX11_piece_37 (by decide) ?_
        refine lv_icmp_ne (tgt := 58) hx hb dX11_piece_38 (by decide) (fun c140 => ?_) (fun c140 => ?_)
        ·
          exact hJ58 _ _ _ hP hD hS (lv_sub hl [3, 2, 1, 0] rfl)
        ·
          have cc141 : r10.toInt = (4 : Int32).toInt := congrArg Int32.toInt c140
          have hb142 : In r10 4 4 := In.eq1 hb26 (⟨by decide, by decide⟩ : In 4 4 4) cc141 (by omega) (by omega)
          exact hJ41 _ _ _ hP hD hS (lv_sub hl [3, 2, 1, 0] rfl)

abbrev rm_X11_startsAnew : Room := { frames := 0, cells := 0, slots := 0, locals := 0 }
abbrev po_X11_startsAnew (g : GG) (ad : Nat → Nat) (th : Nat → Int) (L : List Nat) (f : HP)  : (List Nat × HP) → Prop := fun u => u.1 = L ∧ TI g ad th u.2 ∧ (∀ b, b ≠ (ad 255) → b ≠ (ad 261) → b ≠ (ad 262) → u.2 b = f b)
set_option maxHeartbeats 4000000 in
set_option maxRecDepth 100000 in
theorem s_X11_startsAnew (l : Launch) (g : GG) (ad : Nat → Nat) (th : Nat → Int) (L : List Nat) (f : HP) (sz : Nat)  (hst : ST ad L) (hT : TI g ad th f)  : MtV l g yX11_startsAnew cX11_startsAnew 2 rm_X11_startsAnew [.ref (ad 255)] L f sz (po_X11_startsAnew g ad th L f ) := by
  refine MtV.of (by decide +kernel) (Nat.le_of_ble_eq_true rfl) ?_
  intro p e s m below meth c A hEn hP hD hS ls hl
  obtain ⟨hx, hb, hr, hml, hown, hlocks, hts, hG, hA, hE, hnm⟩ := hEn
  have hown : s.vm.findClass "RulerWordModel" = some m.cls := hown
  have hl : lv_has ls 2 [(0, .ref (ad 255))] := hl
  have hfr : (∀ b, b ≠ (ad 255) → b ≠ (ad 261) → b ≠ (ad 262) → f b = f b) := fun b z0_ z1_ z2_ => rfl
  refine lv_iconst (v := 0) hx hb dX11_startsAnew_0 (by decide) ?_
  refine lv_istore_n (lv' := [(1, .int 0), (0, .ref (ad 255))]) hx hb dX11_startsAnew_1 rfl hl (by decide) rfl (fun ls hl => ?_)
  have hJ2 : ∀ (k2 : Nat) (y2_l1 : Int32) (f_2 : HP) (H : Heap) (locs : List Loc) (ls : Array Slot), In y2_l1 0 9 → va_P g.1 vwCl (va_pl L f_2) H → va_D A (va_pl L f_2) → va_S A s.heap H locs → TI g ad th f_2 → (∀ b, b ≠ (ad 255) → b ≠ (ad 261) → b ≠ (ad 262) → f_2 b = f b) → lv_has ls 2 [(0, .ref (ad 255)), (1, .int y2_l1)] → 9 - y2_l1.toInt < ((k2 : Nat) : Int) → W p l e rm_X11_startsAnew s m [.ref (ad 255)].toArray below meth c H locs 0 0 (MQ below (va_Qv (po_X11_startsAnew g ad th L f ) (PstB g A) A) [.ref (ad 255)].toArray s rm_X11_startsAnew.cells rm_X11_startsAnew.slots A) (F0 m 2 ls []) := by
    intro k2
    induction k2 with
    | zero =>
      intro y2_l1 f_2 H locs ls hy2_l1 hP hD hS hT hfr hl hmz2
      exact ms0 hy2_l1 hmz2
    | succ k2 ih2 =>
      intro y2_l1 f_2 H locs ls hy2_l1 hP hD hS hT hfr hl hmz2
      refine lv_iload_n hx hb dX11_startsAnew_2 rfl (lv_at hl 1 rfl) ?_
      refine lv_bipush (v := 9) hx hb dX11_startsAnew_3 (by decide) ?_
      refine lv_icmp_ge (tgt := 35) hx hb dX11_startsAnew_5 (by decide) (fun c1 => ?_) (fun c1 => ?_)
      ·
        have cc2 : (9 : Int32).toInt ≤ y2_l1.toInt := i32_le.mp c1
        have hb3 : In y2_l1 9 9 := In.ge1 hy2_l1 (⟨by decide, by decide⟩ : In 9 9 9) cc2 (by omega) (by omega)
        refine lv_aload_n hx hb dX11_startsAnew_35 rfl (lv_at hl 0 rfl) ?_
        refine lv_iconst (v := 0) hx hb dX11_startsAnew_36 (by decide) ?_
        obtain ⟨v0_4, v2_4, v3_4, v4_4, v5_4, v6_4, v8_4, v9_4, v12_4, v13_4, v14_4, v15_4, v16_4, v17_4, v18_4, v19_4, v20_4, v21_4, v22_4, v23_4, v25_4, v36_4, v37_4, v38_4, v39_4, v40_4, v45_4, v46_4, v47_4, v48_4, v50_4, v51_4, v53_4, v55_4, hf5, hv0_4, hv2_4, hv3_4, hv4_4, hv5_4, hv6_4, hv8_4, hv12_4, hv13_4, hv14_4, hg14_4, hv15_4, hg15_4, hv17_4, hg17_4, hv20_4, hv23_4, hg23_4, hv25_4, hv36_4, hv47_4, hv48_4, hv53_4, hv55_4⟩ := hT.2.2 0 (by decide)
        refine pl_put (ty := .int) (v := .int 0) (fs' := [.int v0_4, .ref (ad 256), .int v2_4, .int v3_4, .int v4_4, .int v5_4, .int v6_4, .ref (ad 257), .int v8_4, .int v9_4, .ref (ad 258), .ref (ad 259), .int v12_4, .int v13_4, .int v14_4, .int v15_4, .int v16_4, .int v17_4, .int v18_4, .int v19_4, .int v20_4, .long v21_4, .long v22_4, .int v23_4, .ref (ad 260), .int v25_4, .ref (ad 261), .ref (ad 262), .ref (ad 263), .ref (ad 264), .ref (ad 265), .ref (ad 266), .ref (ad 267), .ref (ad 268), .ref (ad 269), .ref (ad 270), .int 0, .int v37_4, .int v38_4, .int v39_4, .int v40_4, .ref (ad 271), .ref (ad 272), .ref (ad 273), .ref (ad 274), .long v45_4, .long v46_4, .int v47_4, .int v48_4, .ref (ad 275), .int v50_4, .int v51_4, .ref (ad 276), .int v53_4, .ref (ad 277), .int v55_4]) hx hb hts (fun w h => mT (inX11 w h)) tyX11 tyX11_ok nmX11 hown hG.1 hP hD hS (hst.1 255 (by decide)) hf5 rfl 36 (by decide) (hts _ (mT wg_1372)) (fun _ h => h) rfl (by decide +kernel) (rfl) (rfl) (Nat.le_of_ble_eq_true rfl) rfl dX11_startsAnew_37 (fun H locs f6 hf7 ho8 hP hD hS => ?_)
        have hfr : (∀ b, b ≠ (ad 255) → b ≠ (ad 261) → b ≠ (ad 262) → f6 b = f b) := fun b z0_ z1_ z2_ => (ho8 b z0_).trans (hfr b z0_ z1_ z2_)
        refine lv_aload_n hx hb dX11_startsAnew_40 rfl (lv_at hl 0 rfl) ?_
        refine lv_iconst (v := 0) hx hb dX11_startsAnew_41 (by decide) ?_
        refine pl_put (ty := .int) (v := .int 0) (fs' := [.int v0_4, .ref (ad 256), .int v2_4, .int v3_4, .int v4_4, .int v5_4, .int v6_4, .ref (ad 257), .int v8_4, .int v9_4, .ref (ad 258), .ref (ad 259), .int v12_4, .int v13_4, .int v14_4, .int v15_4, .int v16_4, .int v17_4, .int v18_4, .int v19_4, .int v20_4, .long v21_4, .long v22_4, .int v23_4, .ref (ad 260), .int v25_4, .ref (ad 261), .ref (ad 262), .ref (ad 263), .ref (ad 264), .ref (ad 265), .ref (ad 266), .ref (ad 267), .ref (ad 268), .ref (ad 269), .ref (ad 270), .int 0, .int 0, .int v38_4, .int v39_4, .int v40_4, .ref (ad 271), .ref (ad 272), .ref (ad 273), .ref (ad 274), .long v45_4, .long v46_4, .int v47_4, .int v48_4, .ref (ad 275), .int v50_4, .int v51_4, .ref (ad 276), .int v53_4, .ref (ad 277), .int v55_4]) hx hb hts (fun w h => mT (inX11 w h)) tyX11 tyX11_ok nmX11 hown hG.1 hP hD hS (hst.1 255 (by decide)) hf7 rfl 37 (by decide) (hts _ (mT wg_1373)) (fun _ h => h) rfl (by decide +kernel) (rfl) (rfl) (Nat.le_of_ble_eq_true rfl) rfl dX11_startsAnew_42 (fun H locs f9 hf10 ho11 hP hD hS => ?_)
        have ho12 : ∀ b, b ≠ (ad 255) → f9 b = _ := fun b hb => (ho11 b hb).trans (ho8 b hb)
        have hfr : (∀ b, b ≠ (ad 255) → b ≠ (ad 261) → b ≠ (ad 262) → f9 b = f b) := fun b z0_ z1_ z2_ => (ho11 b z0_).trans (hfr b z0_ z1_ z2_)
        refine lv_aload_n hx hb dX11_startsAnew_45 rfl (lv_at hl 0 rfl) ?_
        refine lv_iconst (v := 0) hx hb dX11_startsAnew_46 (by decide) ?_
        refine pl_put (ty := .int) (v := .int 0) (fs' := [.int v0_4, .ref (ad 256), .int v2_4, .int v3_4, .int v4_4, .int v5_4, .int v6_4, .ref (ad 257), .int v8_4, .int v9_4, .ref (ad 258), .ref (ad 259), .int v12_4, .int v13_4, .int v14_4, .int v15_4, .int v16_4, .int v17_4, .int v18_4, .int v19_4, .int v20_4, .long v21_4, .long v22_4, .int v23_4, .ref (ad 260), .int v25_4, .ref (ad 261), .ref (ad 262), .ref (ad 263), .ref (ad 264), .ref (ad 265), .ref (ad 266), .ref (ad 267), .ref (ad 268), .ref (ad 269), .ref (ad 270), .int 0, .int 0, .int 0, .int v39_4, .int v40_4, .ref (ad 271), .ref (ad 272), .ref (ad 273), .ref (ad 274), .long v45_4, .long v46_4, .int v47_4, .int v48_4, .ref (ad 275), .int v50_4, .int v51_4, .ref (ad 276), .int v53_4, .ref (ad 277), .int v55_4]) hx hb hts (fun w h => mT (inX11 w h)) tyX11 tyX11_ok nmX11 hown hG.1 hP hD hS (hst.1 255 (by decide)) hf10 rfl 38 (by decide) (hts _ (mT wg_1374)) (fun _ h => h) rfl (by decide +kernel) (rfl) (rfl) (Nat.le_of_ble_eq_true rfl) rfl dX11_startsAnew_47 (fun H locs f13 hf14 ho15 hP hD hS => ?_)
        have ho16 : ∀ b, b ≠ (ad 255) → f13 b = _ := fun b hb => (ho15 b hb).trans (ho12 b hb)
        have hfr : (∀ b, b ≠ (ad 255) → b ≠ (ad 261) → b ≠ (ad 262) → f13 b = f b) := fun b z0_ z1_ z2_ => (ho15 b z0_).trans (hfr b z0_ z1_ z2_)
        refine lv_aload_n hx hb dX11_startsAnew_50 rfl (lv_at hl 0 rfl) ?_
        refine lv_aload_n hx hb dX11_startsAnew_51 rfl (lv_at hl 0 rfl) ?_
        refine pl_get (v := .long v21_4) hx hb hts (fun w h => mT (inX11 w h)) hown hG.1 hP (hst.1 255 (by decide)) hf14 rfl 21 (by decide) (hts _ (mT wg_1357)) (fun _ h => h) rfl dX11_startsAnew_52 ?_
        refine pl_put (ty := .long) (v := .long v21_4) (fs' := [.int v0_4, .ref (ad 256), .int v2_4, .int v3_4, .int v4_4, .int v5_4, .int v6_4, .ref (ad 257), .int v8_4, .int v9_4, .ref (ad 258), .ref (ad 259), .int v12_4, .int v13_4, .int v14_4, .int v15_4, .int v16_4, .int v17_4, .int v18_4, .int v19_4, .int v20_4, .long v21_4, .long v21_4, .int v23_4, .ref (ad 260), .int v25_4, .ref (ad 261), .ref (ad 262), .ref (ad 263), .ref (ad 264), .ref (ad 265), .ref (ad 266), .ref (ad 267), .ref (ad 268), .ref (ad 269), .ref (ad 270), .int 0, .int 0, .int 0, .int v39_4, .int v40_4, .ref (ad 271), .ref (ad 272), .ref (ad 273), .ref (ad 274), .long v45_4, .long v46_4, .int v47_4, .int v48_4, .ref (ad 275), .int v50_4, .int v51_4, .ref (ad 276), .int v53_4, .ref (ad 277), .int v55_4]) hx hb hts (fun w h => mT (inX11 w h)) tyX11 tyX11_ok nmX11 hown hG.1 hP hD hS (hst.1 255 (by decide)) hf14 rfl 22 (by decide) (hts _ (mT wg_1358)) (fun _ h => h) rfl (by decide +kernel) (rfl) (rfl) (Nat.le_of_ble_eq_true rfl) rfl dX11_startsAnew_55 (fun H locs f17 hf18 ho19 hP hD hS => ?_)
        have ho20 : ∀ b, b ≠ (ad 255) → f17 b = _ := fun b hb => (ho19 b hb).trans (ho16 b hb)
        have hfr : (∀ b, b ≠ (ad 255) → b ≠ (ad 261) → b ≠ (ad 262) → f17 b = f b) := fun b z0_ z1_ z2_ => (ho19 b z0_).trans (hfr b z0_ z1_ z2_)
        have hT := TI.updM hT hst (k := 0) (by decide) hf18 ho20 ⟨v0_4, v2_4, v3_4, v4_4, v5_4, v6_4, v8_4, v9_4, v12_4, v13_4, v14_4, v15_4, v16_4, v17_4, v18_4, v19_4, v20_4, v21_4, v21_4, v23_4, v25_4, 0, 0, 0, v39_4, v40_4, v45_4, v46_4, v47_4, v48_4, v50_4, v51_4, v53_4, v55_4, rfl, hv0_4, hv2_4, hv3_4, hv4_4, hv5_4, hv6_4, hv8_4, hv12_4, hv13_4, hv14_4, hg14_4, hv15_4, hg15_4, hv17_4, hg17_4, hv20_4, hv23_4, hg23_4, hv25_4, (⟨by decide, by decide⟩ : In 0 0 100), hv47_4, hv48_4, hv53_4, hv55_4⟩
        exact ret_v hx hb hr hlocks hP hD hS (Nat.le_of_ble_eq_true rfl) (Nat.le_of_ble_eq_true rfl) (⟨rfl, hT, hfr⟩) dX11_startsAnew_58
      ·
        have cc21 : y2_l1.toInt < (9 : Int32).toInt := i32_nle c1
        have hb22 : In y2_l1 0 8 := In.lt1 hy2_l1 (⟨by decide, by decide⟩ : In 9 9 9) cc21 (by omega) (by omega)
        refine lv_aload_n hx hb dX11_startsAnew_8 rfl (lv_at hl 0 rfl) ?_
        obtain ⟨v0_23, v2_23, v3_23, v4_23, v5_23, v6_23, v8_23, v9_23, v12_23, v13_23, v14_23, v15_23, v16_23, v17_23, v18_23, v19_23, v20_23, v21_23, v22_23, v23_23, v25_23, v36_23, v37_23, v38_23, v39_23, v40_23, v45_23, v46_23, v47_23, v48_23, v50_23, v51_23, v53_23, v55_23, hf24, hv0_23, hv2_23, hv3_23, hv4_23, hv5_23, hv6_23, hv8_23, hv12_23, hv13_23, hv14_23, hg14_23, hv15_23, hg15_23, hv17_23, hg17_23, hv20_23, hv23_23, hg23_23, hv25_23, hv36_23, hv47_23, hv48_23, hv53_23, hv55_23⟩ := hT.2.2 0 (by decide)
        refine pl_get (v := .ref (ad 261)) hx hb hts (fun w h => mT (inX11 w h)) hown hG.1 hP (hst.1 255 (by decide)) hf24 rfl 26 (by decide) (hts _ (mT wg_1362)) (fun _ h => h) rfl dX11_startsAnew_9 ?_
        refine lv_iload_n hx hb dX11_startsAnew_12 rfl (lv_at hl 1 rfl) ?_
        refine lv_aload_n hx hb dX11_startsAnew_13 rfl (lv_at hl 0 rfl) ?_
        refine pl_get (v := .int v19_23) hx hb hts (fun w h => mT (inX11 w h)) hown hG.1 hP (hst.1 255 (by decide)) hf24 rfl 19 (by decide) (hts _ (mT wg_1355)) (fun _ h => h) rfl dX11_startsAnew_14 ?_
        refine lv_iload_n hx hb dX11_startsAnew_17 rfl (lv_at hl 1 rfl) ?_
        refine lv_ishr hx hb dX11_startsAnew_18 ?_
        refine lv_topi (fun x25 ex25 => ?_)
        refine lv_iconst (v := 1) hx hb dX11_startsAnew_19 (by decide) ?_
        refine lv_iand hx hb dX11_startsAnew_20 ?_
        refine lv_topi (fun x26 ex26 => ?_)
        have hb27 : In x26 0 1 := ex26 ▸ In.andr (⟨by decide, by decide⟩ : In 1 1 1) (by decide)
        obtain ⟨rw28, hf29⟩ := hT.2.2 6 (by decide)
        refine pl_iastE hx hb hG.1 hP hD hS (hst.1 261 (by decide)) 0 hf29 rfl (In.inb hb22 (by decide) (by decide)) dX11_startsAnew_21 (fun H locs f30 r33 er33 hf31 ho32 hP hD hS => ?_)
        have hf34 := (ho32 (ad 255) (hst.ne (by decide) (by decide) (by decide))).trans hf24
        have hfr : (∀ b, b ≠ (ad 255) → b ≠ (ad 261) → b ≠ (ad 262) → f30 b = f b) := fun b z0_ z1_ z2_ => (ho32 b z1_).trans (hfr b z0_ z1_ z2_)
        refine lv_aload_n hx hb dX11_startsAnew_22 rfl (lv_at hl 0 rfl) ?_
        refine pl_get (v := .ref (ad 262)) hx hb hts (fun w h => mT (inX11 w h)) hown hG.1 hP (hst.1 255 (by decide)) hf34 rfl 27 (by decide) (hts _ (mT wg_1363)) (fun _ h => h) rfl dX11_startsAnew_23 ?_
        refine lv_iload_n hx hb dX11_startsAnew_26 rfl (lv_at hl 1 rfl) ?_
        refine lv_iconst (v := 0) hx hb dX11_startsAnew_27 (by decide) ?_
        have hT := TI.updM hT hst (k := 6) (by decide) hf31 ho32 ⟨r33, rfl⟩
        obtain ⟨rw35, hf36⟩ := hT.2.2 7 (by decide)
        refine pl_iastE hx hb hG.1 hP hD hS (hst.1 262 (by decide)) 0 hf36 rfl (In.inb hb22 (by decide) (by decide)) dX11_startsAnew_28 (fun H locs f37 r40 er40 hf38 ho39 hP hD hS => ?_)
        have hf41 := (ho39 (ad 255) (hst.ne (by decide) (by decide) (by decide))).trans hf34
        have hf42 := (ho39 (ad 261) (hst.ne (by decide) (by decide) (by decide))).trans hf31
        have hfr : (∀ b, b ≠ (ad 255) → b ≠ (ad 261) → b ≠ (ad 262) → f37 b = f b) := fun b z0_ z1_ z2_ => (ho39 b z2_).trans (hfr b z0_ z1_ z2_)
        obtain ⟨x43, ex43⟩ : ∃ y : Int32, y = y2_l1 + 1 := ⟨_, rfl⟩
        have hb44 : In x43 1 9 := ex43 ▸ In.add hb22 (⟨by decide, by decide⟩ : In 1 1 1) (by decide) (by decide) (by decide) (by decide)
        have et45 : x43.toInt = y2_l1.toInt + 1 := In.adde ex43 hb22 (k := 1) (by decide) (by decide) (by decide)
        refine lv_iinc (v := x43) (lv' := [(1, .int x43), (0, .ref (ad 255))]) hx hb dX11_startsAnew_29 hl (k := 1) rfl (by rw [ex43]; rfl) (by decide) rfl (fun ls hl => ?_)
        have hT := TI.updM hT hst (k := 7) (by decide) hf38 ho39 ⟨r40, rfl⟩
        refine lv_goto (tgt := 2) hx hb dX11_startsAnew_32 (by decide) ?_
        exact ih2 x43 _ _ _ _ (In.mono hb44 (by decide) (by decide)) hP hD hS hT hfr (lv_sub hl [1, 0] rfl) (msu et45 (by decide) hmz2)
  exact hJ2 ((9 - (0 : Int32).toInt).toNat + 1) 0 _ _ _ _ (⟨by decide, by decide⟩ : In 0 0 9) hP hD hS hT hfr (lv_sub hl [1, 0] rfl) (msI _)

abbrev rm_X11_each : Room := { frames := 0, cells := 0, slots := 0, locals := 0 }
abbrev po_X11_each (g : GG) (ad : Nat → Nat) (th : Nat → Int) (L : List Nat) (f : HP)  : Int32 → (List Nat × HP) → Prop := fun r u => u.1 = L ∧ u.2 = f ∧ In r 2 3
set_option maxHeartbeats 4000000 in
set_option maxRecDepth 100000 in
theorem s_X11_each (l : Launch) (g : GG) (ad : Nat → Nat) (th : Nat → Int) (L : List Nat) (f : HP) (sz : Nat)  (hst : ST ad L) (hT : TI g ad th f)  : MtI l g yX11_each cX11_each 1 (some .int) rm_X11_each [.ref (ad 255)] L f sz (po_X11_each g ad th L f ) := by
  refine MtI.of (by decide +kernel) (Nat.le_of_ble_eq_true rfl) ?_
  intro p e s m below meth c A hEn hP hD hS ls hl
  obtain ⟨hx, hb, hr, hml, hown, hlocks, hts, hG, hA, hE, hnm⟩ := hEn
  have hown : s.vm.findClass "RulerWordModel" = some m.cls := hown
  have hl : lv_has ls 1 [(0, .ref (ad 255))] := hl
  refine lv_aload_n hx hb dX11_each_0 rfl (lv_at hl 0 rfl) ?_
  obtain ⟨v0_1, v2_1, v3_1, v4_1, v5_1, v6_1, v8_1, v9_1, v12_1, v13_1, v14_1, v15_1, v16_1, v17_1, v18_1, v19_1, v20_1, v21_1, v22_1, v23_1, v25_1, v36_1, v37_1, v38_1, v39_1, v40_1, v45_1, v46_1, v47_1, v48_1, v50_1, v51_1, v53_1, v55_1, hf2, hv0_1, hv2_1, hv3_1, hv4_1, hv5_1, hv6_1, hv8_1, hv12_1, hv13_1, hv14_1, hg14_1, hv15_1, hg15_1, hv17_1, hg17_1, hv20_1, hv23_1, hg23_1, hv25_1, hv36_1, hv47_1, hv48_1, hv53_1, hv55_1⟩ := hT.2.2 0 (by decide)
  refine pl_get (v := .int v14_1) hx hb hts (fun w h => mT (inX11 w h)) hown hG.1 hP (hst.1 255 (by decide)) hf2 rfl 14 (by decide) (hts _ (mT wg_1350)) (fun _ h => h) rfl dX11_each_1 ?_
  refine lv_if_ne (tgt := 11) hx hb dX11_each_4 (by decide) (fun c3 => ?_) (fun c3 => ?_)
  ·
    have cc4 : v14_1.toInt ≠ (0 : Int32).toInt := i32_ne c3
    have hb5 : In v14_1 1 1 := In.ne1 hv14_1 (⟨by decide, by decide⟩ : In 0 0 0) cc4 (by omega) (by omega)
    refine lv_iconst (v := 2) hx hb dX11_each_11 (by decide) ?_
    exact ret_i (ty := .int) hx hb hr hlocks (rfl) hP hD hS (Nat.le_of_ble_eq_true rfl) (Nat.le_of_ble_eq_true rfl) (⟨rfl, rfl, (⟨by decide, by decide⟩ : In 2 2 3)⟩) dX11_each_12
  ·
    have cc6 : v14_1.toInt = (0 : Int32).toInt := congrArg Int32.toInt c3
    have hb7 : In v14_1 0 0 := In.eq1 hv14_1 (⟨by decide, by decide⟩ : In 0 0 0) cc6 (by omega) (by omega)
    refine lv_iconst (v := 3) hx hb dX11_each_7 (by decide) ?_
    refine lv_goto (tgt := 12) hx hb dX11_each_8 (by decide) ?_
    exact ret_i (ty := .int) hx hb hr hlocks (rfl) hP hD hS (Nat.le_of_ble_eq_true rfl) (Nat.le_of_ble_eq_true rfl) (⟨rfl, rfl, (⟨by decide, by decide⟩ : In 3 2 3)⟩) dX11_each_12

abbrev rm_X11_isLiar : Room := { frames := 1, cells := 0, slots := 0, locals := 21 }
abbrev po_X11_isLiar (g : GG) (ad : Nat → Nat) (th : Nat → Int) (L : List Nat) (f : HP) (z1 : Int32) : Int32 → (List Nat × HP) → Prop := fun r u => u.1 = L ∧ u.2 = f ∧ In r 0 1
set_option maxHeartbeats 4000000 in
set_option maxRecDepth 100000 in
theorem s_X11_isLiar (l : Launch) (g : GG) (ad : Nat → Nat) (th : Nat → Int) (L : List Nat) (f : HP) (sz : Nat) (z1 : Int32) (hst : ST ad L) (hT : TI g ad th f)  : MtI l g yX11_isLiar cX11_isLiar 2 (some .boolean) rm_X11_isLiar [.ref (ad 255), .int z1] L f sz (po_X11_isLiar g ad th L f z1) := by
  refine MtI.of (by decide +kernel) (Nat.le_of_ble_eq_true rfl) ?_
  intro p e s m below meth c A hEn hP hD hS ls hl
  obtain ⟨hx, hb, hr, hml, hown, hlocks, hts, hG, hA, hE, hnm⟩ := hEn
  have hown : s.vm.findClass "RulerWordModel" = some m.cls := hown
  have hl : lv_has ls 2 [(0, .ref (ad 255)), (1, .int z1)] := hl
  refine lv_aload_n hx hb dX11_isLiar_0 rfl (lv_at hl 0 rfl) ?_
  obtain ⟨v0_1, v2_1, v3_1, v4_1, v5_1, v6_1, v8_1, v9_1, v12_1, v13_1, v14_1, v15_1, v16_1, v17_1, v18_1, v19_1, v20_1, v21_1, v22_1, v23_1, v25_1, v36_1, v37_1, v38_1, v39_1, v40_1, v45_1, v46_1, v47_1, v48_1, v50_1, v51_1, v53_1, v55_1, hf2, hv0_1, hv2_1, hv3_1, hv4_1, hv5_1, hv6_1, hv8_1, hv12_1, hv13_1, hv14_1, hg14_1, hv15_1, hg15_1, hv17_1, hg17_1, hv20_1, hv23_1, hg23_1, hv25_1, hv36_1, hv47_1, hv48_1, hv53_1, hv55_1⟩ := hT.2.2 0 (by decide)
  refine pl_get (v := .int v20_1) hx hb hts (fun w h => mT (inX11 w h)) hown hG.1 hP (hst.1 255 (by decide)) hf2 rfl 20 (by decide) (hts _ (mT wg_1356)) (fun _ h => h) rfl dX11_isLiar_1 ?_
  refine lv_iload_n hx hb dX11_isLiar_4 rfl (lv_at hl 1 rfl) ?_
  refine call_i (run_S (rm := rm_X11_has) hx hb hml hown hts (s_X11_has l g ad th _ _ _ v20_1 z1 hst hT ) cS_X11_has wg_1563 ⟨Nat.le_of_ble_eq_true rfl, Nat.le_of_ble_eq_true rfl⟩ hG hE hA hP hD hS rfl hl.1 (As := [.int v20_1, .int z1]) (rest := []) rfl (Nat.le_of_ble_eq_true rfl) dX11_isLiar_5 ⟨Nat.le_of_ble_eq_true rfl, Nat.le_of_ble_eq_true rfl⟩) hA hD hS (fun r3 L4 f5 H locs hp6 hP hD hS => ?_)
  obtain ⟨eL7L, eL7T, eL7R⟩ := hp6
  have eL7L : L4 = L := eL7L
  have eL7T : f5 = f := eL7T
  rw [eL7L, eL7T] at hP hD
  have eL7R : In r3 0 1 := eL7R
  exact ret_i (ty := .boolean) hx hb hr hlocks (nar_z eL7R) hP hD hS (Nat.le_of_ble_eq_true rfl) (Nat.le_of_ble_eq_true rfl) (⟨rfl, rfl, eL7R⟩) dX11_isLiar_8

abbrev rm_X11_draw : Room := { frames := 0, cells := 0, slots := 0, locals := 0 }
abbrev po_X11_draw (g : GG) (ad : Nat → Nat) (th : Nat → Int) (L : List Nat) (f : HP)  : Int32 → (List Nat × HP) → Prop := fun r u => u.1 = L ∧ TI g ad th u.2 ∧ (∀ b, b ≠ (ad 255) → u.2 b = f b)
set_option maxHeartbeats 4000000 in
set_option maxRecDepth 100000 in
theorem s_X11_draw (l : Launch) (g : GG) (ad : Nat → Nat) (th : Nat → Int) (L : List Nat) (f : HP) (sz : Nat)  (hst : ST ad L) (hT : TI g ad th f)  : MtI l g yX11_draw cX11_draw 1 (some .int) rm_X11_draw [.ref (ad 255)] L f sz (po_X11_draw g ad th L f ) := by
  refine MtI.of (by decide +kernel) (Nat.le_of_ble_eq_true rfl) ?_
  intro p e s m below meth c A hEn hP hD hS ls hl
  obtain ⟨hx, hb, hr, hml, hown, hlocks, hts, hG, hA, hE, hnm⟩ := hEn
  have hown : s.vm.findClass "RulerWordModel" = some m.cls := hown
  have hl : lv_has ls 1 [(0, .ref (ad 255))] := hl
  have hfr : (∀ b, b ≠ (ad 255) → f b = f b) := fun b z0_ => rfl
  refine lv_aload_n hx hb dX11_draw_0 rfl (lv_at hl 0 rfl) ?_
  refine lv_aload_n hx hb dX11_draw_1 rfl (lv_at hl 0 rfl) ?_
  obtain ⟨v0_1, v2_1, v3_1, v4_1, v5_1, v6_1, v8_1, v9_1, v12_1, v13_1, v14_1, v15_1, v16_1, v17_1, v18_1, v19_1, v20_1, v21_1, v22_1, v23_1, v25_1, v36_1, v37_1, v38_1, v39_1, v40_1, v45_1, v46_1, v47_1, v48_1, v50_1, v51_1, v53_1, v55_1, hf2, hv0_1, hv2_1, hv3_1, hv4_1, hv5_1, hv6_1, hv8_1, hv12_1, hv13_1, hv14_1, hg14_1, hv15_1, hg15_1, hv17_1, hg17_1, hv20_1, hv23_1, hg23_1, hv25_1, hv36_1, hv47_1, hv48_1, hv53_1, hv55_1⟩ := hT.2.2 0 (by decide)
  refine pl_get (v := .long v22_1) hx hb hts (fun w h => mT (inX11 w h)) hown hG.1 hP (hst.1 255 (by decide)) hf2 rfl 22 (by decide) (hts _ (mT wg_1358)) (fun _ h => h) rfl dX11_draw_2 ?_
  refine lv_ldc2 hx hb hown (hts _ (mT wg_1679)) dX11_draw_5 ?_
  refine lv_lmul hx hb dX11_draw_8 ?_
  refine lv_topl (fun x3 ex3 => ?_)
  refine lv_ldc2 hx hb hown (hts _ (mT wg_1680)) dX11_draw_9 ?_
  refine lv_ladd hx hb dX11_draw_12 ?_
  refine lv_topl (fun x4 ex4 => ?_)
  refine pl_put (ty := .long) (v := .long x4) (fs' := [.int v0_1, .ref (ad 256), .int v2_1, .int v3_1, .int v4_1, .int v5_1, .int v6_1, .ref (ad 257), .int v8_1, .int v9_1, .ref (ad 258), .ref (ad 259), .int v12_1, .int v13_1, .int v14_1, .int v15_1, .int v16_1, .int v17_1, .int v18_1, .int v19_1, .int v20_1, .long v21_1, .long x4, .int v23_1, .ref (ad 260), .int v25_1, .ref (ad 261), .ref (ad 262), .ref (ad 263), .ref (ad 264), .ref (ad 265), .ref (ad 266), .ref (ad 267), .ref (ad 268), .ref (ad 269), .ref (ad 270), .int v36_1, .int v37_1, .int v38_1, .int v39_1, .int v40_1, .ref (ad 271), .ref (ad 272), .ref (ad 273), .ref (ad 274), .long v45_1, .long v46_1, .int v47_1, .int v48_1, .ref (ad 275), .int v50_1, .int v51_1, .ref (ad 276), .int v53_1, .ref (ad 277), .int v55_1]) hx hb hts (fun w h => mT (inX11 w h)) tyX11 tyX11_ok nmX11 hown hG.1 hP hD hS (hst.1 255 (by decide)) hf2 rfl 22 (by decide) (hts _ (mT wg_1358)) (fun _ h => h) rfl (by decide +kernel) (rfl) (rfl) (Nat.le_of_ble_eq_true rfl) rfl dX11_draw_13 (fun H locs f5 hf6 ho7 hP hD hS => ?_)
  have hfr : (∀ b, b ≠ (ad 255) → f5 b = f b) := fun b z0_ => (ho7 b z0_).trans (hfr b z0_)
  refine lv_aload_n hx hb dX11_draw_16 rfl (lv_at hl 0 rfl) ?_
  refine pl_get (v := .long x4) hx hb hts (fun w h => mT (inX11 w h)) hown hG.1 hP (hst.1 255 (by decide)) hf6 rfl 22 (by decide) (hts _ (mT wg_1358)) (fun _ h => h) rfl dX11_draw_17 ?_
  refine lv_bipush (v := 33) hx hb dX11_draw_20 (by decide) ?_
  refine lv_lushr hx hb dX11_draw_22 rfl ?_
  refine lv_topl (fun x8 ex8 => ?_)
  refine lv_ldc2 hx hb hown (hts _ (mT wg_1681)) dX11_draw_23 ?_
  refine lv_lrem hx hb dX11_draw_26 (by decide) ?_
  refine lv_topl (fun x9 ex9 => ?_)
  refine lv_l2i hx hb dX11_draw_27 rfl ?_
  refine lv_topi (fun x10 ex10 => ?_)
  have hT := TI.updM hT hst (k := 0) (by decide) hf6 ho7 ⟨v0_1, v2_1, v3_1, v4_1, v5_1, v6_1, v8_1, v9_1, v12_1, v13_1, v14_1, v15_1, v16_1, v17_1, v18_1, v19_1, v20_1, v21_1, x4, v23_1, v25_1, v36_1, v37_1, v38_1, v39_1, v40_1, v45_1, v46_1, v47_1, v48_1, v50_1, v51_1, v53_1, v55_1, rfl, hv0_1, hv2_1, hv3_1, hv4_1, hv5_1, hv6_1, hv8_1, hv12_1, hv13_1, hv14_1, hg14_1, hv15_1, hg15_1, hv17_1, hg17_1, hv20_1, hv23_1, hg23_1, hv25_1, hv36_1, hv47_1, hv48_1, hv53_1, hv55_1⟩
  exact ret_i (ty := .int) hx hb hr hlocks (rfl) hP hD hS (Nat.le_of_ble_eq_true rfl) (Nat.le_of_ble_eq_true rfl) (⟨rfl, hT, hfr⟩) dX11_draw_28

abbrev rm_X11_agrees : Room := { frames := 0, cells := 0, slots := 0, locals := 0 }
abbrev po_X11_agrees (g : GG) (ad : Nat → Nat) (th : Nat → Int) (L : List Nat) (f : HP) (z0 : Int32) (z1 : Int32) : Int32 → (List Nat × HP) → Prop := fun r u => u.1 = L ∧ u.2 = f ∧ In r 0 1
set_option maxHeartbeats 4000000 in
set_option maxRecDepth 100000 in
theorem s_X11_agrees (l : Launch) (g : GG) (ad : Nat → Nat) (th : Nat → Int) (L : List Nat) (f : HP) (sz : Nat) (z0 : Int32) (z1 : Int32) (hst : ST ad L) (hT : TI g ad th f)  : MtI l g yX11_agrees cX11_agrees 2 (some .boolean) rm_X11_agrees [.int z0, .int z1] L f sz (po_X11_agrees g ad th L f z0 z1) := by
  refine MtI.of (by decide +kernel) (Nat.le_of_ble_eq_true rfl) ?_
  intro p e s m below meth c A hEn hP hD hS ls hl
  obtain ⟨hx, hb, hr, hml, hown, hlocks, hts, hG, hA, hE, hnm⟩ := hEn
  have hown : s.vm.findClass "RulerWordModel" = some m.cls := hown
  have hl : lv_has ls 2 [(0, .int z0), (1, .int z1)] := hl
  refine lv_iload_n hx hb dX11_agrees_0 rfl (lv_at hl 0 rfl) ?_
  refine lv_iconst (v := (-1)) hx hb dX11_agrees_1 (by decide) ?_
  have hJ10 : ∀ (H : Heap) (locs : List Loc) (ls : Array Slot), va_P g.1 vwCl (va_pl L f) H → va_D A (va_pl L f) → va_S A s.heap H locs → lv_has ls 2 [(0, .int z0), (1, .int z1)] → W p l e rm_X11_agrees s m [.int z0, .int z1].toArray below meth c H locs 0 0 (MQ below (va_Qi (po_X11_agrees g ad th L f z0 z1) (PstB g A) A) [.int z0, .int z1].toArray s rm_X11_agrees.cells rm_X11_agrees.slots A) (F0 m 10 ls []) := by
    intro H locs ls hP hD hS hl
    refine lv_iconst (v := 1) hx hb dX11_agrees_10 (by decide) ?_
    refine lv_goto (tgt := 15) hx hb dX11_agrees_11 (by decide) ?_
    exact ret_i (ty := .boolean) hx hb hr hlocks (rfl) hP hD hS (Nat.le_of_ble_eq_true rfl) (Nat.le_of_ble_eq_true rfl) (⟨rfl, rfl, (⟨by decide, by decide⟩ : In 1 0 1)⟩) dX11_agrees_15
  refine lv_icmp_eq (tgt := 10) hx hb dX11_agrees_2 (by decide) (fun c1 => ?_) (fun c1 => ?_)
  ·
    have cc2 : z0.toInt = ((-1) : Int32).toInt := congrArg Int32.toInt c1
    have hb3 : In z0 (-1) (-1) := In.eq1 (In.full z0) (⟨by decide, by decide⟩ : In (-1) (-1) (-1)) cc2 (by omega) (by omega)
    exact hJ10 _ _ _ hP hD hS (lv_sub hl [0, 1] rfl)
  ·
    refine lv_iload_n hx hb dX11_agrees_5 rfl (lv_at hl 0 rfl) ?_
    refine lv_iload_n hx hb dX11_agrees_6 rfl (lv_at hl 1 rfl) ?_
    refine lv_icmp_ne (tgt := 14) hx hb dX11_agrees_7 (by decide) (fun c4 => ?_) (fun c4 => ?_)
    ·
      refine lv_iconst (v := 0) hx hb dX11_agrees_14 (by decide) ?_
      exact ret_i (ty := .boolean) hx hb hr hlocks (rfl) hP hD hS (Nat.le_of_ble_eq_true rfl) (Nat.le_of_ble_eq_true rfl) (⟨rfl, rfl, (⟨by decide, by decide⟩ : In 0 0 1)⟩) dX11_agrees_15
    ·
      exact hJ10 _ _ _ hP hD hS (lv_sub hl [0, 1] rfl)

abbrev rm_X11_byPlan : Room := { frames := 1, cells := 0, slots := 0, locals := 21 }
abbrev po_X11_byPlan (g : GG) (ad : Nat → Nat) (th : Nat → Int) (L : List Nat) (f : HP) (z1 : Int32) (z2 : Int32) (z3 : Int32) (z4 : Int32) (z5 : Int32) : Int32 → (List Nat × HP) → Prop := fun r u => u.1 = L ∧ TI g ad th u.2 ∧ (∀ b, b ≠ (ad 255) → u.2 b = f b)
set_option maxHeartbeats 4000000 in
set_option maxRecDepth 100000 in
theorem s_X11_byPlan (l : Launch) (g : GG) (ad : Nat → Nat) (th : Nat → Int) (L : List Nat) (f : HP) (sz : Nat) (z1 : Int32) (z2 : Int32) (z3 : Int32) (z4 : Int32) (z5 : Int32) (hst : ST ad L) (hT : TI g ad th f)  : MtI l g yX11_byPlan cX11_byPlan 9 (some .int) rm_X11_byPlan [.ref (ad 255), .int z1, .int z2, .int z3, .int z4, .int z5] L f sz (po_X11_byPlan g ad th L f z1 z2 z3 z4 z5) := by
  refine MtI.of (by decide +kernel) (Nat.le_of_ble_eq_true rfl) ?_
  intro p e s m below meth c A hEn hP hD hS ls hl
  obtain ⟨hx, hb, hr, hml, hown, hlocks, hts, hG, hA, hE, hnm⟩ := hEn
  have hown : s.vm.findClass "RulerWordModel" = some m.cls := hown
  have hl : lv_has ls 9 [(0, .ref (ad 255)), (1, .int z1), (2, .int z2), (3, .int z3), (4, .int z4), (5, .int z5)] := hl
  have hfr : (∀ b, b ≠ (ad 255) → f b = f b) := fun b z0_ => rfl
  refine lv_aload_n hx hb dX11_byPlan_0 rfl (lv_at hl 0 rfl) ?_
  obtain ⟨v0_1, v2_1, v3_1, v4_1, v5_1, v6_1, v8_1, v9_1, v12_1, v13_1, v14_1, v15_1, v16_1, v17_1, v18_1, v19_1, v20_1, v21_1, v22_1, v23_1, v25_1, v36_1, v37_1, v38_1, v39_1, v40_1, v45_1, v46_1, v47_1, v48_1, v50_1, v51_1, v53_1, v55_1, hf2, hv0_1, hv2_1, hv3_1, hv4_1, hv5_1, hv6_1, hv8_1, hv12_1, hv13_1, hv14_1, hg14_1, hv15_1, hg15_1, hv17_1, hg17_1, hv20_1, hv23_1, hg23_1, hv25_1, hv36_1, hv47_1, hv48_1, hv53_1, hv55_1⟩ := hT.2.2 0 (by decide)
  refine pl_get (v := .int v25_1) hx hb hts (fun w h => mT (inX11 w h)) hown hG.1 hP (hst.1 255 (by decide)) hf2 rfl 25 (by decide) (hts _ (mT wg_1361)) (fun _ h => h) rfl dX11_byPlan_1 ?_
  refine lv_iconst (v := 1) hx hb dX11_byPlan_4 (by decide) ?_
  refine lv_isub hx hb dX11_byPlan_5 ?_
  refine lv_topi (fun x3 ex3 => ?_)
  have hb4 : In x3 (-1) 29 := ex3 ▸ In.sub hv25_1 (⟨by decide, by decide⟩ : In 1 1 1) (by decide) (by decide) (by decide) (by decide)
  have et5 : x3.toInt = v25_1.toInt + (-1) := In.sube ex3 hv25_1 (k := 1) (by decide) (by decide) (by decide)
  refine lv_istore (lv' := [(6, .int x3), (0, .ref (ad 255)), (1, .int z1), (2, .int z2), (3, .int z3), (4, .int z4), (5, .int z5)]) hx hb dX11_byPlan_6 hl (by decide) rfl (fun ls hl => ?_)
  have hJ8 : ∀ (k8 : Nat) (y8_l6 : Int32) (H : Heap) (locs : List Loc) (ls : Array Slot), In y8_l6 (-1) 29 → va_P g.1 vwCl (va_pl L f) H → va_D A (va_pl L f) → va_S A s.heap H locs → lv_has ls 9 [(0, .ref (ad 255)), (1, .int z1), (2, .int z2), (3, .int z3), (4, .int z4), (5, .int z5), (6, .int y8_l6)] → y8_l6.toInt - (-1) < ((k8 : Nat) : Int) → W p l e rm_X11_byPlan s m [.ref (ad 255), .int z1, .int z2, .int z3, .int z4, .int z5].toArray below meth c H locs 0 0 (MQ below (va_Qi (po_X11_byPlan g ad th L f z1 z2 z3 z4 z5) (PstB g A) A) [.ref (ad 255), .int z1, .int z2, .int z3, .int z4, .int z5].toArray s rm_X11_byPlan.cells rm_X11_byPlan.slots A) (F0 m 8 ls []) := by
    intro k8
    induction k8 with
    | zero =>
      intro y8_l6 H locs ls hy8_l6 hP hD hS hl hmz8
      exact ms0d hy8_l6 hmz8
    | succ k8 ih8 =>
      intro y8_l6 H locs ls hy8_l6 hP hD hS hl hmz8
      refine lv_iload hx hb dX11_byPlan_8 (lv_at hl 6 rfl) ?_
      refine lv_if_lt (tgt := 86) hx hb dX11_byPlan_10 (by decide) (fun c6 => ?_) (fun c6 => ?_)
      ·
        have cc7 : y8_l6.toInt < (0 : Int32).toInt := i32_lt.mp c6
        have hb8 : In y8_l6 (-1) (-1) := In.lt1 hy8_l6 (⟨by decide, by decide⟩ : In 0 0 0) cc7 (by omega) (by omega)
        refine lv_iconst (v := 0) hx hb dX11_byPlan_86 (by decide) ?_
        refine lv_istore (lv' := [(6, .int 0), (0, .ref (ad 255)), (1, .int z1), (2, .int z2), (3, .int z3), (4, .int z4), (5, .int z5)]) hx hb dX11_byPlan_87 hl (by decide) rfl (fun ls hl => ?_)
        have hJ89 : ∀ (k89 : Nat) (y89_l6 : Int32) (H : Heap) (locs : List Loc) (ls : Array Slot), In y89_l6 0 20 → va_P g.1 vwCl (va_pl L f) H → va_D A (va_pl L f) → va_S A s.heap H locs → lv_has ls 9 [(0, .ref (ad 255)), (1, .int z1), (2, .int z2), (3, .int z3), (4, .int z4), (5, .int z5), (6, .int y89_l6)] → 20 - y89_l6.toInt < ((k89 : Nat) : Int) → W p l e rm_X11_byPlan s m [.ref (ad 255), .int z1, .int z2, .int z3, .int z4, .int z5].toArray below meth c H locs 0 0 (MQ below (va_Qi (po_X11_byPlan g ad th L f z1 z2 z3 z4 z5) (PstB g A) A) [.ref (ad 255), .int z1, .int z2, .int z3, .int z4, .int z5].toArray s rm_X11_byPlan.cells rm_X11_byPlan.slots A) (F0 m 89 ls []) := by
          intro k89
          induction k89 with
          | zero =>
            intro y89_l6 H locs ls hy89_l6 hP hD hS hl hmz89
            exact ms0 hy89_l6 hmz89
          | succ k89 ih89 =>
            intro y89_l6 H locs ls hy89_l6 hP hD hS hl hmz89
            refine lv_iload hx hb dX11_byPlan_89 (lv_at hl 6 rfl) ?_
            refine lv_aload_n hx hb dX11_byPlan_91 rfl (lv_at hl 0 rfl) ?_
            refine pl_get (v := .int v12_1) hx hb hts (fun w h => mT (inX11 w h)) hown hG.1 hP (hst.1 255 (by decide)) hf2 rfl 12 (by decide) (hts _ (mT wg_1348)) (fun _ h => h) rfl dX11_byPlan_92 ?_
            refine lv_icmp_ge (tgt := 244) hx hb dX11_byPlan_95 (by decide) (fun c9 => ?_) (fun c9 => ?_)
            ·
              refine lv_iload hx hb dX11_byPlan_244 (lv_at hl 5 rfl) ?_
              exact ret_i (ty := .int) hx hb hr hlocks (rfl) hP hD hS (Nat.le_of_ble_eq_true rfl) (Nat.le_of_ble_eq_true rfl) (⟨rfl, hT, hfr⟩) dX11_byPlan_246
            ·
              have cc10 : y89_l6.toInt < v12_1.toInt := i32_nle c9
              have hb11 : In y89_l6 0 19 := In.lt1 hy89_l6 hv12_1 cc10 (by omega) (by omega)
              have hb12 : In v12_1 1 20 := In.lt2 hy89_l6 hv12_1 cc10 (by omega) (by omega)
              refine lv_iconst (v := 5) hx hb dX11_byPlan_98 (by decide) ?_
              refine lv_iload hx hb dX11_byPlan_99 (lv_at hl 6 rfl) ?_
              refine lv_imul hx hb dX11_byPlan_101 ?_
              refine lv_topi (fun x13 ex13 => ?_)
              have hb14 : In x13 0 95 := ex13 ▸ In.mul (⟨by decide, by decide⟩ : In 5 5 5) hb11 (by decide) (by decide) (by decide) (by decide) (by decide)
              refine lv_istore (lv' := [(7, .int x13), (0, .ref (ad 255)), (1, .int z1), (2, .int z2), (3, .int z3), (4, .int z4), (5, .int z5), (6, .int y89_l6)]) hx hb dX11_byPlan_102 hl (by decide) rfl (fun ls hl => ?_)
              refine lv_aload_n hx hb dX11_byPlan_104 rfl (lv_at hl 1 rfl) ?_
              refine pl_get (v := .ref (ad 258)) hx hb hts (fun w h => mT (inX11 w h)) hown hG.1 hP (hst.1 255 (by decide)) hf2 rfl 10 (by decide) (hts _ (mT wg_1346)) (fun _ h => h) rfl dX11_byPlan_105 ?_
              refine lv_iload hx hb dX11_byPlan_108 (lv_at hl 0 rfl) ?_
              obtain ⟨rw15, hf16⟩ := hT.2.2 3 (by decide)
              have hin17 : vp_in x13 100 := In.inb hb14 (by decide) (by decide)
              refine pl_iald hx hb hG.1 hP (hst.1 258 (by decide)) 0 hf16 rfl hin17 dX11_byPlan_110 ?_
              refine lv_topi (fun x18 ex18 => ?_)
              refine lv_iload_n hx hb dX11_byPlan_111 rfl (lv_at hl 2 rfl) ?_
              refine call_i (run_S (rm := rm_X11_agrees) hx hb hml hown hts (s_X11_agrees l g ad th _ _ _ x18 z1 hst hT ) cS_X11_agrees wg_1672 ⟨Nat.le_of_ble_eq_true rfl, Nat.le_of_ble_eq_true rfl⟩ hG hE hA hP hD hS rfl hl.1 (As := [.int x18, .int z1]) (rest := []) rfl (Nat.le_of_ble_eq_true rfl) dX11_byPlan_112 ⟨Nat.le_of_ble_eq_true rfl, Nat.le_of_ble_eq_true rfl⟩) hA hD hS (fun r19 L20 f21 H locs hp22 hP hD hS => ?_)
              obtain ⟨eL23L, eL23T, eL23R⟩ := hp22
              have eL23L : L20 = L := eL23L
              have eL23T : f21 = f := eL23T
              rw [eL23L, eL23T] at hP hD
              have eL23R : In r19 0 1 := eL23R
              have hJ238 : ∀ (H : Heap) (locs : List Loc) (ls : Array Slot), va_P g.1 vwCl (va_pl L f) H → va_D A (va_pl L f) → va_S A s.heap H locs → lv_has ls 9 [(0, .ref (ad 255)), (1, .int z1), (2, .int z2), (3, .int z3), (4, .int z4), (5, .int z5), (6, .int y89_l6), (7, .int x13)] → W p l e rm_X11_byPlan s m [.ref (ad 255), .int z1, .int z2, .int z3, .int z4, .int z5].toArray below meth c H locs 0 0 (MQ below (va_Qi (po_X11_byPlan g ad th L f z1 z2 z3 z4 z5) (PstB g A) A) [.ref (ad 255), .int z1, .int z2, .int z3, .int z4, .int z5].toArray s rm_X11_byPlan.cells rm_X11_byPlan.slots A) (F0 m 238 ls []) := by
                intro H locs ls hP hD hS hl
                obtain ⟨x24, ex24⟩ : ∃ y : Int32, y = y89_l6 + 1 := ⟨_, rfl⟩
                have hb25 : In x24 1 20 := ex24 ▸ In.add hb11 (⟨by decide, by decide⟩ : In 1 1 1) (by decide) (by decide) (by decide) (by decide)
                have et26 : x24.toInt = y89_l6.toInt + 1 := In.adde ex24 hb11 (k := 1) (by decide) (by decide) (by decide)
                refine lv_iinc (v := x24) (lv' := [(6, .int x24), (0, .ref (ad 255)), (1, .int z1), (2, .int z2), (3, .int z3), (4, .int z4), (5, .int z5), (7, .int x13)]) hx hb dX11_byPlan_238 hl (k := 6) rfl (by rw [ex24]; rfl) (by decide) rfl (fun ls hl => ?_)
                refine lv_goto (tgt := 89) hx hb dX11_byPlan_241 (by decide) ?_
                exact ih89 x24 _ _ _ (In.mono hb25 (by decide) (by decide)) hP hD hS (lv_sub hl [1, 2, 3, 4, 5, 6, 0] rfl) (msu et26 (by decide) hmz89)
              refine lv_if_eq (tgt := 238) hx hb dX11_byPlan_115 (by decide) (fun c27 => ?_) (fun c27 => ?_)
              ·
                have cc28 : r19.toInt = (0 : Int32).toInt := congrArg Int32.toInt c27
                have hb29 : In r19 0 0 := In.eq1 eL23R (⟨by decide, by decide⟩ : In 0 0 0) cc28 (by omega) (by omega)
                exact hJ238 _ _ _ hP hD hS (lv_sub hl [1, 2, 3, 4, 5, 6, 7, 0] rfl)
              ·
                have cc30 : r19.toInt ≠ (0 : Int32).toInt := i32_ne c27
                have hb31 : In r19 1 1 := In.ne1 eL23R (⟨by decide, by decide⟩ : In 0 0 0) cc30 (by omega) (by omega)
                refine lv_aload_n hx hb dX11_byPlan_118 rfl (lv_at hl 1 rfl) ?_
                refine pl_get (v := .ref (ad 258)) hx hb hts (fun w h => mT (inX11 w h)) hown hG.1 hP (hst.1 255 (by decide)) hf2 rfl 10 (by decide) (hts _ (mT wg_1346)) (fun _ h => h) rfl dX11_byPlan_119 ?_
                refine lv_iload hx hb dX11_byPlan_122 (lv_at hl 0 rfl) ?_
                refine lv_iconst (v := 1) hx hb dX11_byPlan_124 (by decide) ?_
                refine lv_iadd hx hb dX11_byPlan_125 ?_
                refine lv_topi (fun x32 ex32 => ?_)
                have hb33 : In x32 1 96 := ex32 ▸ In.add hb14 (⟨by decide, by decide⟩ : In 1 1 1) (by decide) (by decide) (by decide) (by decide)
                have et34 : x32.toInt = x13.toInt + 1 := In.adde ex32 hb14 (k := 1) (by decide) (by decide) (by decide)
                have hin35 : vp_in x32 100 := In.inb hb33 (by decide) (by decide)
                refine pl_iald hx hb hG.1 hP (hst.1 258 (by decide)) 0 hf16 rfl hin35 dX11_byPlan_126 ?_
                refine lv_topi (fun x36 ex36 => ?_)
                refine lv_iload_n hx hb dX11_byPlan_127 rfl (lv_at hl 3 rfl) ?_
                refine call_i (run_S (rm := rm_X11_agrees) hx hb hml hown hts (s_X11_agrees l g ad th _ _ _ x36 z2 hst hT ) cS_X11_agrees wg_1672 ⟨Nat.le_of_ble_eq_true rfl, Nat.le_of_ble_eq_true rfl⟩ hG hE hA hP hD hS rfl hl.1 (As := [.int x36, .int z2]) (rest := []) rfl (Nat.le_of_ble_eq_true rfl) dX11_byPlan_128 ⟨Nat.le_of_ble_eq_true rfl, Nat.le_of_ble_eq_true rfl⟩) hA hD hS (fun r37 L38 f39 H locs hp40 hP hD hS => ?_)
                obtain ⟨eL41L, eL41T, eL41R⟩ := hp40
                have eL41L : L38 = L := eL41L
                have eL41T : f39 = f := eL41T
                rw [eL41L, eL41T] at hP hD
                have eL41R : In r37 0 1 := eL41R
                refine lv_if_eq (tgt := 238) hx hb dX11_byPlan_131 (by decide) (fun c42 => ?_) (fun c42 => ?_)
                ·
                  have cc43 : r37.toInt = (0 : Int32).toInt := congrArg Int32.toInt c42
                  have hb44 : In r37 0 0 := In.eq1 eL41R (⟨by decide, by decide⟩ : In 0 0 0) cc43 (by omega) (by omega)
                  exact hJ238 _ _ _ hP hD hS (lv_sub hl [1, 2, 3, 4, 5, 6, 7, 0] rfl)
                ·
                  have cc45 : r37.toInt ≠ (0 : Int32).toInt := i32_ne c42
                  have hb46 : In r37 1 1 := In.ne1 eL41R (⟨by decide, by decide⟩ : In 0 0 0) cc45 (by omega) (by omega)
                  refine lv_aload_n hx hb dX11_byPlan_134 rfl (lv_at hl 1 rfl) ?_
                  refine pl_get (v := .ref (ad 258)) hx hb hts (fun w h => mT (inX11 w h)) hown hG.1 hP (hst.1 255 (by decide)) hf2 rfl 10 (by decide) (hts _ (mT wg_1346)) (fun _ h => h) rfl dX11_byPlan_135 ?_
                  refine lv_iload hx hb dX11_byPlan_138 (lv_at hl 0 rfl) ?_
                  refine lv_iconst (v := 2) hx hb dX11_byPlan_140 (by decide) ?_
                  refine lv_iadd hx hb dX11_byPlan_141 ?_
                  refine lv_topi (fun x47 ex47 => ?_)
                  have hb48 : In x47 2 97 := ex47 ▸ In.add hb14 (⟨by decide, by decide⟩ : In 2 2 2) (by decide) (by decide) (by decide) (by decide)
                  have et49 : x47.toInt = x13.toInt + 2 := In.adde ex47 hb14 (k := 2) (by decide) (by decide) (by decide)
                  have hin50 : vp_in x47 100 := In.inb hb48 (by decide) (by decide)
                  refine pl_iald hx hb hG.1 hP (hst.1 258 (by decide)) 0 hf16 rfl hin50 dX11_byPlan_142 ?_
                  refine lv_topi (fun x51 ex51 => ?_)
                  refine lv_iload_n hx hb dX11_byPlan_143 rfl (lv_at hl 4 rfl) ?_
                  refine call_i (run_S (rm := rm_X11_agrees) hx hb hml hown hts (s_X11_agrees l g ad th _ _ _ x51 z3 hst hT ) cS_X11_agrees wg_1672 ⟨Nat.le_of_ble_eq_true rfl, Nat.le_of_ble_eq_true rfl⟩ hG hE hA hP hD hS rfl hl.1 (As := [.int x51, .int z3]) (rest := []) rfl (Nat.le_of_ble_eq_true rfl) dX11_byPlan_144 ⟨Nat.le_of_ble_eq_true rfl, Nat.le_of_ble_eq_true rfl⟩) hA hD hS (fun r52 L53 f54 H locs hp55 hP hD hS => ?_)
                  obtain ⟨eL56L, eL56T, eL56R⟩ := hp55
                  have eL56L : L53 = L := eL56L
                  have eL56T : f54 = f := eL56T
                  rw [eL56L, eL56T] at hP hD
                  have eL56R : In r52 0 1 := eL56R
                  refine lv_if_eq (tgt := 238) hx hb dX11_byPlan_147 (by decide) (fun c57 => ?_) (fun c57 => ?_)
                  ·
                    have cc58 : r52.toInt = (0 : Int32).toInt := congrArg Int32.toInt c57
                    have hb59 : In r52 0 0 := In.eq1 eL56R (⟨by decide, by decide⟩ : In 0 0 0) cc58 (by omega) (by omega)
                    exact hJ238 _ _ _ hP hD hS (lv_sub hl [1, 2, 3, 4, 5, 6, 7, 0] rfl)
                  ·
                    have cc60 : r52.toInt ≠ (0 : Int32).toInt := i32_ne c57
                    have hb61 : In r52 1 1 := In.ne1 eL56R (⟨by decide, by decide⟩ : In 0 0 0) cc60 (by omega) (by omega)
                    refine lv_aload_n hx hb dX11_byPlan_150 rfl (lv_at hl 1 rfl) ?_
                    refine pl_get (v := .ref (ad 258)) hx hb hts (fun w h => mT (inX11 w h)) hown hG.1 hP (hst.1 255 (by decide)) hf2 rfl 10 (by decide) (hts _ (mT wg_1346)) (fun _ h => h) rfl dX11_byPlan_151 ?_
                    refine lv_iload hx hb dX11_byPlan_154 (lv_at hl 0 rfl) ?_
                    refine lv_iconst (v := 3) hx hb dX11_byPlan_156 (by decide) ?_
                    refine lv_iadd hx hb dX11_byPlan_157 ?_
                    refine lv_topi (fun x62 ex62 => ?_)
                    have hb63 : In x62 3 98 := ex62 ▸ In.add hb14 (⟨by decide, by decide⟩ : In 3 3 3) (by decide) (by decide) (by decide) (by decide)
                    have et64 : x62.toInt = x13.toInt + 3 := In.adde ex62 hb14 (k := 3) (by decide) (by decide) (by decide)
                    have hin65 : vp_in x62 100 := In.inb hb63 (by decide) (by decide)
                    refine pl_iald hx hb hG.1 hP (hst.1 258 (by decide)) 0 hf16 rfl hin65 dX11_byPlan_158 ?_
                    refine lv_topi (fun x66 ex66 => ?_)
                    refine lv_iload hx hb dX11_byPlan_159 (lv_at hl 5 rfl) ?_
                    refine call_i (run_S (rm := rm_X11_agrees) hx hb hml hown hts (s_X11_agrees l g ad th _ _ _ x66 z4 hst hT ) cS_X11_agrees wg_1672 ⟨Nat.le_of_ble_eq_true rfl, Nat.le_of_ble_eq_true rfl⟩ hG hE hA hP hD hS rfl hl.1 (As := [.int x66, .int z4]) (rest := []) rfl (Nat.le_of_ble_eq_true rfl) dX11_byPlan_161 ⟨Nat.le_of_ble_eq_true rfl, Nat.le_of_ble_eq_true rfl⟩) hA hD hS (fun r67 L68 f69 H locs hp70 hP hD hS => ?_)
                    obtain ⟨eL71L, eL71T, eL71R⟩ := hp70
                    have eL71L : L68 = L := eL71L
                    have eL71T : f69 = f := eL71T
                    rw [eL71L, eL71T] at hP hD
                    have eL71R : In r67 0 1 := eL71R
                    refine lv_if_ne (tgt := 170) hx hb dX11_byPlan_164 (by decide) (fun c72 => ?_) (fun c72 => ?_)
                    ·
                      have cc73 : r67.toInt ≠ (0 : Int32).toInt := i32_ne c72
                      have hb74 : In r67 1 1 := In.ne1 eL71R (⟨by decide, by decide⟩ : In 0 0 0) cc73 (by omega) (by omega)
                      refine lv_aload_n hx hb dX11_byPlan_170 rfl (lv_at hl 1 rfl) ?_
                      refine pl_get (v := .ref (ad 258)) hx hb hts (fun w h => mT (inX11 w h)) hown hG.1 hP (hst.1 255 (by decide)) hf2 rfl 10 (by decide) (hts _ (mT wg_1346)) (fun _ h => h) rfl dX11_byPlan_171 ?_
                      refine lv_iload hx hb dX11_byPlan_174 (lv_at hl 0 rfl) ?_
                      refine lv_iconst (v := 4) hx hb dX11_byPlan_176 (by decide) ?_
                      refine lv_iadd hx hb dX11_byPlan_177 ?_
                      refine lv_topi (fun x75 ex75 => ?_)
                      have hb76 : In x75 4 99 := ex75 ▸ In.add hb14 (⟨by decide, by decide⟩ : In 4 4 4) (by decide) (by decide) (by decide) (by decide)
                      have et77 : x75.toInt = x13.toInt + 4 := In.adde ex75 hb14 (k := 4) (by decide) (by decide) (by decide)
                      have hin78 : vp_in x75 100 := In.inb hb76 (by decide) (by decide)
                      refine pl_iald hx hb hG.1 hP (hst.1 258 (by decide)) 0 hf16 rfl hin78 dX11_byPlan_178 ?_
                      refine lv_topi (fun x79 ex79 => ?_)
                      refine lv_istore (lv' := [(8, .int x79), (7, .int x13), (0, .ref (ad 255)), (1, .int z1), (2, .int z2), (3, .int z3), (4, .int z4), (5, .int z5), (6, .int y89_l6)]) hx hb dX11_byPlan_179 hl (by decide) rfl (fun ls hl => ?_)
                      refine lv_iload hx hb dX11_byPlan_181 (lv_at hl 0 rfl) ?_
                      refine lv_iconst (v := 3) hx hb dX11_byPlan_183 (by decide) ?_
                      refine lv_icmp_ge (tgt := 190) hx hb dX11_byPlan_184 (by decide) (fun c80 => ?_) (fun c80 => ?_)
                      ·
                        have cc81 : (3 : Int32).toInt ≤ x79.toInt := i32_le.mp c80
                        have hb82 : In x79 3 2147483647 := In.ge1 (In.full x79) (⟨by decide, by decide⟩ : In 3 3 3) cc81 (by omega) (by omega)
                        refine lv_iload hx hb dX11_byPlan_190 (lv_at hl 0 rfl) ?_
                        refine lv_iconst (v := 3) hx hb dX11_byPlan_192 (by decide) ?_
                        refine lv_icmp_ne (tgt := 199) hx hb dX11_byPlan_193 (by decide) (fun c83 => ?_) (fun c83 => ?_)
                        ·
                          have cc84 : x79.toInt ≠ (3 : Int32).toInt := i32_ne c83
                          have hb85 : In x79 4 2147483647 := In.ne1 hb82 (⟨by decide, by decide⟩ : In 3 3 3) cc84 (by omega) (by omega)
                          refine lv_iload hx hb dX11_byPlan_199 (lv_at hl 0 rfl) ?_
                          refine lv_iconst (v := 4) hx hb dX11_byPlan_201 (by decide) ?_
                          refine lv_icmp_ne (tgt := 220) hx hb dX11_byPlan_202 (by decide) (fun c86 => ?_) (fun c86 => ?_)
                          ·
                            have cc87 : x79.toInt ≠ (4 : Int32).toInt := i32_ne c86
                            have hb88 : In x79 5 2147483647 := In.ne1 hb85 (⟨by decide, by decide⟩ : In 4 4 4) cc87 (by omega) (by omega)
                            refine lv_iload hx hb dX11_byPlan_220 (lv_at hl 0 rfl) ?_
                            refine lv_iconst (v := 5) hx hb dX11_byPlan_222 (by decide) ?_
                            refine lv_icmp_ne (tgt := 233) hx hb dX11_byPlan_223 (by decide) (fun c89 => ?_) (fun c89 => ?_)
                            ·
                              have cc90 : x79.toInt ≠ (5 : Int32).toInt := i32_ne c89
                              have hb91 : In x79 6 2147483647 := In.ne1 hb88 (⟨by decide, by decide⟩ : In 5 5 5) cc90 (by omega) (by omega)
                              refine lv_aload_n hx hb dX11_byPlan_233 rfl (lv_at hl 2 rfl) ?_
                              refine call_i (run_V (rm := rm_X11_draw) hx hb hml hown hts (s_X11_draw l g ad th _ _ _  hst hT ) cV_X11_draw wg_1675 ⟨Nat.le_of_ble_eq_true rfl, Nat.le_of_ble_eq_true rfl⟩ hG hE hA hP hD hS (hst.1 255 (by decide)) hf2 rfl rfl hl.1 (As := []) (rest := []) rfl (Nat.le_of_ble_eq_true rfl) dX11_byPlan_234 ⟨Nat.le_of_ble_eq_true rfl, Nat.le_of_ble_eq_true rfl⟩) hA hD hS (fun r92 L93 f94 H locs hp95 hP hD hS => ?_)
                              obtain ⟨eL96L, eL96T, eL96F⟩ := hp95
                              have eL96L : L93 = L := eL96L
                              rw [eL96L] at hP hD
                              have hT : TI g ad th f94 := eL96T
                              have eL96F : ∀ b, b ≠ (ad 255) → f94 b = f b := eL96F
                              have hf97 := (eL96F (ad 258) (hst.ne (by decide) (by decide) (by decide))).trans hf16
                              have hfr : (∀ b, b ≠ (ad 255) → f94 b = f b) := fun b z0_ => (eL96F b z0_).trans (hfr b z0_)
                              exact ret_i (ty := .int) hx hb hr hlocks (rfl) hP hD hS (Nat.le_of_ble_eq_true rfl) (Nat.le_of_ble_eq_true rfl) (⟨rfl, hT, hfr⟩) dX11_byPlan_237
                            ·
                              have cc98 : x79.toInt = (5 : Int32).toInt := congrArg Int32.toInt c89
                              have hb99 : In x79 5 5 := In.eq1 hb88 (⟨by decide, by decide⟩ : In 5 5 5) cc98 (by omega) (by omega)
                              refine lv_iload hx hb dX11_byPlan_226 (lv_at hl 6 rfl) ?_
                              refine lv_iconst (v := 2) hx hb dX11_byPlan_228 (by decide) ?_
                              refine lv_irem hx hb dX11_byPlan_229 (In.ne0 (⟨by decide, by decide⟩ : In 2 2 2) (by decide)) ?_
                              refine lv_topi (fun x100 ex100 => ?_)
                              refine lv_goto (tgt := 237) hx hb dX11_byPlan_230 (by decide) ?_
                              exact ret_i (ty := .int) hx hb hr hlocks (rfl) hP hD hS (Nat.le_of_ble_eq_true rfl) (Nat.le_of_ble_eq_true rfl) (⟨rfl, hT, hfr⟩) dX11_byPlan_237
                          ·
                            have cc101 : x79.toInt = (4 : Int32).toInt := congrArg Int32.toInt c86
                            have hb102 : In x79 4 4 := In.eq1 hb85 (⟨by decide, by decide⟩ : In 4 4 4) cc101 (by omega) (by omega)
                            refine lv_iload hx hb dX11_byPlan_205 (lv_at hl 7 rfl) ?_
                            refine lv_iconst (v := 2) hx hb dX11_byPlan_207 (by decide) ?_
                            refine lv_icmp_ne (tgt := 215) hx hb dX11_byPlan_208 (by decide) (fun c103 => ?_) (fun c103 => ?_)
                            ·
                              refine lv_iconst (v := 1) hx hb dX11_byPlan_215 (by decide) ?_
                              refine lv_iload hx hb dX11_byPlan_216 (lv_at hl 7 rfl) ?_
                              refine lv_isub hx hb dX11_byPlan_218 ?_
                              refine lv_topi (fun x104 ex104 => ?_)
                              exact ret_i (ty := .int) hx hb hr hlocks (rfl) hP hD hS (Nat.le_of_ble_eq_true rfl) (Nat.le_of_ble_eq_true rfl) (⟨rfl, hT, hfr⟩) dX11_byPlan_219
                            ·
                              have cc105 : z5.toInt = (2 : Int32).toInt := congrArg Int32.toInt c103
                              have hb106 : In z5 2 2 := In.eq1 (In.full z5) (⟨by decide, by decide⟩ : In 2 2 2) cc105 (by omega) (by omega)
                              refine lv_iconst (v := 2) hx hb dX11_byPlan_211 (by decide) ?_
                              refine lv_goto (tgt := 219) hx hb dX11_byPlan_212 (by decide) ?_
                              exact ret_i (ty := .int) hx hb hr hlocks (rfl) hP hD hS (Nat.le_of_ble_eq_true rfl) (Nat.le_of_ble_eq_true rfl) (⟨rfl, hT, hfr⟩) dX11_byPlan_219
                        ·
                          have cc107 : x79.toInt = (3 : Int32).toInt := congrArg Int32.toInt c83
                          have hb108 : In x79 3 3 := In.eq1 hb82 (⟨by decide, by decide⟩ : In 3 3 3) cc107 (by omega) (by omega)
                          refine lv_iload hx hb dX11_byPlan_196 (lv_at hl 7 rfl) ?_
                          exact ret_i (ty := .int) hx hb hr hlocks (rfl) hP hD hS (Nat.le_of_ble_eq_true rfl) (Nat.le_of_ble_eq_true rfl) (⟨rfl, hT, hfr⟩) dX11_byPlan_198
                      ·
                        have cc109 : x79.toInt < (3 : Int32).toInt := i32_nle c80
                        have hb110 : In x79 (-2147483648) 2 := In.lt1 (In.full x79) (⟨by decide, by decide⟩ : In 3 3 3) cc109 (by omega) (by omega)
                        refine lv_iload hx hb dX11_byPlan_187 (lv_at hl 0 rfl) ?_
                        exact ret_i (ty := .int) hx hb hr hlocks (rfl) hP hD hS (Nat.le_of_ble_eq_true rfl) (Nat.le_of_ble_eq_true rfl) (⟨rfl, hT, hfr⟩) dX11_byPlan_189
                    ·
                      have cc111 : r67.toInt = (0 : Int32).toInt := congrArg Int32.toInt c72
                      have hb112 : In r67 0 0 := In.eq1 eL71R (⟨by decide, by decide⟩ : In 0 0 0) cc111 (by omega) (by omega)
                      refine lv_goto (tgt := 238) hx hb dX11_byPlan_167 (by decide) ?_
                      exact hJ238 _ _ _ hP hD hS (lv_sub hl [1, 2, 3, 4, 5, 6, 7, 0] rfl)
        exact hJ89 ((20 - (0 : Int32).toInt).toNat + 1) 0 _ _ _ (⟨by decide, by decide⟩ : In 0 0 20) hP hD hS (lv_sub hl [1, 2, 3, 4, 5, 6, 0] rfl) (msI _)
      ·
        have cc113 : (0 : Int32).toInt ≤ y8_l6.toInt := i32_nlt c6
        have hb114 : In y8_l6 0 29 := In.ge1 hy8_l6 (⟨by decide, by decide⟩ : In 0 0 0) cc113 (by omega) (by omega)
        refine lv_iconst (v := 5) hx hb dX11_byPlan_13 (by decide) ?_
        refine lv_iload hx hb dX11_byPlan_14 (lv_at hl 6 rfl) ?_
        refine lv_imul hx hb dX11_byPlan_16 ?_
        refine lv_topi (fun x115 ex115 => ?_)
        have hb116 : In x115 0 145 := ex115 ▸ In.mul (⟨by decide, by decide⟩ : In 5 5 5) hb114 (by decide) (by decide) (by decide) (by decide) (by decide)
        refine lv_istore (lv' := [(7, .int x115), (0, .ref (ad 255)), (1, .int z1), (2, .int z2), (3, .int z3), (4, .int z4), (5, .int z5), (6, .int y8_l6)]) hx hb dX11_byPlan_17 hl (by decide) rfl (fun ls hl => ?_)
        refine lv_aload_n hx hb dX11_byPlan_19 rfl (lv_at hl 1 rfl) ?_
        refine pl_get (v := .ref (ad 260)) hx hb hts (fun w h => mT (inX11 w h)) hown hG.1 hP (hst.1 255 (by decide)) hf2 rfl 24 (by decide) (hts _ (mT wg_1360)) (fun _ h => h) rfl dX11_byPlan_20 ?_
        refine lv_iload hx hb dX11_byPlan_23 (lv_at hl 0 rfl) ?_
        obtain ⟨rw117, hf118⟩ := hT.2.2 5 (by decide)
        have hin119 : vp_in x115 150 := In.inb hb116 (by decide) (by decide)
        refine pl_iald hx hb hG.1 hP (hst.1 260 (by decide)) 0 hf118 rfl hin119 dX11_byPlan_25 ?_
        refine lv_topi (fun x120 ex120 => ?_)
        refine lv_iload_n hx hb dX11_byPlan_26 rfl (lv_at hl 2 rfl) ?_
        have hJ80 : ∀ (H : Heap) (locs : List Loc) (ls : Array Slot), va_P g.1 vwCl (va_pl L f) H → va_D A (va_pl L f) → va_S A s.heap H locs → lv_has ls 9 [(0, .ref (ad 255)), (1, .int z1), (2, .int z2), (3, .int z3), (4, .int z4), (5, .int z5), (6, .int y8_l6), (7, .int x115)] → W p l e rm_X11_byPlan s m [.ref (ad 255), .int z1, .int z2, .int z3, .int z4, .int z5].toArray below meth c H locs 0 0 (MQ below (va_Qi (po_X11_byPlan g ad th L f z1 z2 z3 z4 z5) (PstB g A) A) [.ref (ad 255), .int z1, .int z2, .int z3, .int z4, .int z5].toArray s rm_X11_byPlan.cells rm_X11_byPlan.slots A) (F0 m 80 ls []) := by
          intro H locs ls hP hD hS hl
          obtain ⟨x121, ex121⟩ : ∃ y : Int32, y = y8_l6 + (-1) := ⟨_, rfl⟩
          have hb122 : In x121 (-1) 28 := ex121 ▸ In.add hb114 (⟨by decide, by decide⟩ : In (-1) (-1) (-1)) (by decide) (by decide) (by decide) (by decide)
          have et123 : x121.toInt = y8_l6.toInt + (-1) := In.adde ex121 hb114 (k := (-1)) (by decide) (by decide) (by decide)
          refine lv_iinc (v := x121) (lv' := [(6, .int x121), (0, .ref (ad 255)), (1, .int z1), (2, .int z2), (3, .int z3), (4, .int z4), (5, .int z5), (7, .int x115)]) hx hb dX11_byPlan_80 hl (k := 6) rfl (by rw [ex121]; rfl) (by decide) rfl (fun ls hl => ?_)
          refine lv_goto (tgt := 8) hx hb dX11_byPlan_83 (by decide) ?_
          exact ih8 x121 _ _ _ (In.mono hb122 (by decide) (by decide)) hP hD hS (lv_sub hl [1, 2, 3, 4, 5, 6, 0] rfl) (msd et123 (by decide) hmz8)
        refine lv_icmp_ne (tgt := 80) hx hb dX11_byPlan_27 (by decide) (fun c124 => ?_) (fun c124 => ?_)
        ·
          exact hJ80 _ _ _ hP hD hS (lv_sub hl [1, 2, 3, 4, 5, 6, 7, 0] rfl)
        ·
          refine lv_aload_n hx hb dX11_byPlan_30 rfl (lv_at hl 1 rfl) ?_
          refine pl_get (v := .ref (ad 260)) hx hb hts (fun w h => mT (inX11 w h)) hown hG.1 hP (hst.1 255 (by decide)) hf2 rfl 24 (by decide) (hts _ (mT wg_1360)) (fun _ h => h) rfl dX11_byPlan_31 ?_
          refine lv_iload hx hb dX11_byPlan_34 (lv_at hl 0 rfl) ?_
          refine lv_iconst (v := 1) hx hb dX11_byPlan_36 (by decide) ?_
          refine lv_iadd hx hb dX11_byPlan_37 ?_
          refine lv_topi (fun x125 ex125 => ?_)
          have hb126 : In x125 1 146 := ex125 ▸ In.add hb116 (⟨by decide, by decide⟩ : In 1 1 1) (by decide) (by decide) (by decide) (by decide)
          have et127 : x125.toInt = x115.toInt + 1 := In.adde ex125 hb116 (k := 1) (by decide) (by decide) (by decide)
          have hin128 : vp_in x125 150 := In.inb hb126 (by decide) (by decide)
          refine pl_iald hx hb hG.1 hP (hst.1 260 (by decide)) 0 hf118 rfl hin128 dX11_byPlan_38 ?_
          refine lv_topi (fun x129 ex129 => ?_)
          refine lv_iload_n hx hb dX11_byPlan_39 rfl (lv_at hl 3 rfl) ?_
          refine lv_icmp_ne (tgt := 80) hx hb dX11_byPlan_40 (by decide) (fun c130 => ?_) (fun c130 => ?_)
          ·
            exact hJ80 _ _ _ hP hD hS (lv_sub hl [1, 2, 3, 4, 5, 6, 7, 0] rfl)
          ·
            refine lv_aload_n hx hb dX11_byPlan_43 rfl (lv_at hl 1 rfl) ?_
            refine pl_get (v := .ref (ad 260)) hx hb hts (fun w h => mT (inX11 w h)) hown hG.1 hP (hst.1 255 (by decide)) hf2 rfl 24 (by decide) (hts _ (mT wg_1360)) (fun _ h => h) rfl dX11_byPlan_44 ?_
            refine lv_iload hx hb dX11_byPlan_47 (lv_at hl 0 rfl) ?_
            refine lv_iconst (v := 2) hx hb dX11_byPlan_49 (by decide) ?_
            refine lv_iadd hx hb dX11_byPlan_50 ?_
            refine lv_topi (fun x131 ex131 => ?_)
            have hb132 : In x131 2 147 := ex131 ▸ In.add hb116 (⟨by decide, by decide⟩ : In 2 2 2) (by decide) (by decide) (by decide) (by decide)
            have et133 : x131.toInt = x115.toInt + 2 := In.adde ex131 hb116 (k := 2) (by decide) (by decide) (by decide)
            have hin134 : vp_in x131 150 := In.inb hb132 (by decide) (by decide)
            refine pl_iald hx hb hG.1 hP (hst.1 260 (by decide)) 0 hf118 rfl hin134 dX11_byPlan_51 ?_
            refine lv_topi (fun x135 ex135 => ?_)
            refine lv_iload_n hx hb dX11_byPlan_52 rfl (lv_at hl 4 rfl) ?_
            refine lv_icmp_ne (tgt := 80) hx hb dX11_byPlan_53 (by decide) (fun c136 => ?_) (fun c136 => ?_)
            ·
              exact hJ80 _ _ _ hP hD hS (lv_sub hl [1, 2, 3, 4, 5, 6, 7, 0] rfl)
            ·
              refine lv_aload_n hx hb dX11_byPlan_56 rfl (lv_at hl 1 rfl) ?_
              refine pl_get (v := .ref (ad 260)) hx hb hts (fun w h => mT (inX11 w h)) hown hG.1 hP (hst.1 255 (by decide)) hf2 rfl 24 (by decide) (hts _ (mT wg_1360)) (fun _ h => h) rfl dX11_byPlan_57 ?_
              refine lv_iload hx hb dX11_byPlan_60 (lv_at hl 0 rfl) ?_
              refine lv_iconst (v := 3) hx hb dX11_byPlan_62 (by decide) ?_
              refine lv_iadd hx hb dX11_byPlan_63 ?_
              refine lv_topi (fun x137 ex137 => ?_)
              have hb138 : In x137 3 148 := ex137 ▸ In.add hb116 (⟨by decide, by decide⟩ : In 3 3 3) (by decide) (by decide) (by decide) (by decide)
              have et139 : x137.toInt = x115.toInt + 3 := In.adde ex137 hb116 (k := 3) (by decide) (by decide) (by decide)
              have hin140 : vp_in x137 150 := In.inb hb138 (by decide) (by decide)
              refine pl_iald hx hb hG.1 hP (hst.1 260 (by decide)) 0 hf118 rfl hin140 dX11_byPlan_64 ?_
              refine lv_topi (fun x141 ex141 => ?_)
              refine lv_iload hx hb dX11_byPlan_65 (lv_at hl 5 rfl) ?_
              refine lv_icmp_ne (tgt := 80) hx hb dX11_byPlan_67 (by decide) (fun c142 => ?_) (fun c142 => ?_)
              ·
                exact hJ80 _ _ _ hP hD hS (lv_sub hl [1, 2, 3, 4, 5, 6, 7, 0] rfl)
              ·
                refine lv_aload_n hx hb dX11_byPlan_70 rfl (lv_at hl 1 rfl) ?_
                refine pl_get (v := .ref (ad 260)) hx hb hts (fun w h => mT (inX11 w h)) hown hG.1 hP (hst.1 255 (by decide)) hf2 rfl 24 (by decide) (hts _ (mT wg_1360)) (fun _ h => h) rfl dX11_byPlan_71 ?_
                refine lv_iload hx hb dX11_byPlan_74 (lv_at hl 0 rfl) ?_
                refine lv_iconst (v := 4) hx hb dX11_byPlan_76 (by decide) ?_
                refine lv_iadd hx hb dX11_byPlan_77 ?_
                refine lv_topi (fun x143 ex143 => ?_)
                have hb144 : In x143 4 149 := ex143 ▸ In.add hb116 (⟨by decide, by decide⟩ : In 4 4 4) (by decide) (by decide) (by decide) (by decide)
                have et145 : x143.toInt = x115.toInt + 4 := In.adde ex143 hb116 (k := 4) (by decide) (by decide) (by decide)
                have hin146 : vp_in x143 150 := In.inb hb144 (by decide) (by decide)
                refine pl_iald hx hb hG.1 hP (hst.1 260 (by decide)) 0 hf118 rfl hin146 dX11_byPlan_78 ?_
                refine lv_topi (fun x147 ex147 => ?_)
                exact ret_i (ty := .int) hx hb hr hlocks (rfl) hP hD hS (Nat.le_of_ble_eq_true rfl) (Nat.le_of_ble_eq_true rfl) (⟨rfl, hT, hfr⟩) dX11_byPlan_79
  exact hJ8 ((x3.toInt - (-1)).toNat + 1) x3 _ _ _ hb4 hP hD hS (lv_sub hl [1, 2, 3, 4, 5, 6, 0] rfl) (msI _)

abbrev rm_X11_letterOf : Room := { frames := 2, cells := 0, slots := 0, locals := 49 }
abbrev po_X11_letterOf (g : GG) (ad : Nat → Nat) (th : Nat → Int) (L : List Nat) (f : HP) (z1 : Int32) (z2 : Int32) (z3 : Int32) (z4 : Int32) (z5 : Int32) : Int32 → (List Nat × HP) → Prop := fun r u => u.1 = L ∧ TI g ad th u.2 ∧ (∀ b, b ≠ (ad 255) → u.2 b = f b)
set_option maxHeartbeats 4000000 in
set_option maxRecDepth 100000 in
theorem s_X11_letterOf (l : Launch) (g : GG) (ad : Nat → Nat) (th : Nat → Int) (L : List Nat) (f : HP) (sz : Nat) (z1 : Int32) (z2 : Int32) (z3 : Int32) (z4 : Int32) (z5 : Int32) (hst : ST ad L) (hT : TI g ad th f)  : MtI l g yX11_letterOf cX11_letterOf 7 (some .int) rm_X11_letterOf [.ref (ad 255), .int z1, .int z2, .int z3, .int z4, .int z5] L f sz (po_X11_letterOf g ad th L f z1 z2 z3 z4 z5) := by
  refine MtI.of (by decide +kernel) (Nat.le_of_ble_eq_true rfl) ?_
  intro p e s m below meth c A hEn hP hD hS ls hl
  obtain ⟨hx, hb, hr, hml, hown, hlocks, hts, hG, hA, hE, hnm⟩ := hEn
  have hown : s.vm.findClass "RulerWordModel" = some m.cls := hown
  have hl : lv_has ls 7 [(0, .ref (ad 255)), (1, .int z1), (2, .int z2), (3, .int z3), (4, .int z4), (5, .int z5)] := hl
  have hfr : (∀ b, b ≠ (ad 255) → f b = f b) := fun b z0_ => rfl
  refine lv_aload_n hx hb dX11_letterOf_0 rfl (lv_at hl 0 rfl) ?_
  refine lv_iload_n hx hb dX11_letterOf_1 rfl (lv_at hl 3 rfl) ?_
  obtain ⟨v0_1, v2_1, v3_1, v4_1, v5_1, v6_1, v8_1, v9_1, v12_1, v13_1, v14_1, v15_1, v16_1, v17_1, v18_1, v19_1, v20_1, v21_1, v22_1, v23_1, v25_1, v36_1, v37_1, v38_1, v39_1, v40_1, v45_1, v46_1, v47_1, v48_1, v50_1, v51_1, v53_1, v55_1, hf2, hv0_1, hv2_1, hv3_1, hv4_1, hv5_1, hv6_1, hv8_1, hv12_1, hv13_1, hv14_1, hg14_1, hv15_1, hg15_1, hv17_1, hg17_1, hv20_1, hv23_1, hg23_1, hv25_1, hv36_1, hv47_1, hv48_1, hv53_1, hv55_1⟩ := hT.2.2 0 (by decide)
  refine call_i (run_V (rm := rm_X11_isLiar) hx hb hml hown hts (s_X11_isLiar l g ad th _ _ _ z3 hst hT ) cV_X11_isLiar wg_1664 ⟨Nat.le_of_ble_eq_true rfl, Nat.le_of_ble_eq_true rfl⟩ hG hE hA hP hD hS (hst.1 255 (by decide)) hf2 rfl rfl hl.1 (As := [.int z3]) (rest := []) rfl (Nat.le_of_ble_eq_true rfl) dX11_letterOf_2 ⟨Nat.le_of_ble_eq_true rfl, Nat.le_of_ble_eq_true rfl⟩) hA hD hS (fun r3 L4 f5 H locs hp6 hP hD hS => ?_)
  obtain ⟨eL7L, eL7T, eL7R⟩ := hp6
  have eL7L : L4 = L := eL7L
  have eL7T : f5 = f := eL7T
  rw [eL7L, eL7T] at hP hD
  have eL7R : In r3 0 1 := eL7R
  refine lv_if_ne (tgt := 11) hx hb dX11_letterOf_5 (by decide) (fun c8 => ?_) (fun c8 => ?_)
  ·
    have cc9 : r3.toInt ≠ (0 : Int32).toInt := i32_ne c8
    have hb10 : In r3 1 1 := In.ne1 eL7R (⟨by decide, by decide⟩ : In 0 0 0) cc9 (by omega) (by omega)
    refine lv_aload_n hx hb dX11_letterOf_11 rfl (lv_at hl 0 rfl) ?_
    refine pl_get (v := .int v39_1) hx hb hts (fun w h => mT (inX11 w h)) hown hG.1 hP (hst.1 255 (by decide)) hf2 rfl 39 (by decide) (hts _ (mT wg_1375)) (fun _ h => h) rfl dX11_letterOf_12 ?_
    refine lv_if_ne (tgt := 30) hx hb dX11_letterOf_15 (by decide) (fun c11 => ?_) (fun c11 => ?_)
    ·
      refine lv_aload_n hx hb dX11_letterOf_30 rfl (lv_at hl 0 rfl) ?_
      refine pl_get (v := .int v39_1) hx hb hts (fun w h => mT (inX11 w h)) hown hG.1 hP (hst.1 255 (by decide)) hf2 rfl 39 (by decide) (hts _ (mT wg_1375)) (fun _ h => h) rfl dX11_letterOf_31 ?_
      refine lv_iconst (v := 2) hx hb dX11_letterOf_34 (by decide) ?_
      refine lv_icmp_ne (tgt := 43) hx hb dX11_letterOf_35 (by decide) (fun c12 => ?_) (fun c12 => ?_)
      ·
        refine lv_aload_n hx hb dX11_letterOf_43 rfl (lv_at hl 0 rfl) ?_
        refine lv_iload hx hb dX11_letterOf_44 (lv_at hl 4 rfl) ?_
        refine call_i (run_V (rm := rm_X11_isLiar) hx hb hml hown hts (s_X11_isLiar l g ad th _ _ _ z4 hst hT ) cV_X11_isLiar wg_1664 ⟨Nat.le_of_ble_eq_true rfl, Nat.le_of_ble_eq_true rfl⟩ hG hE hA hP hD hS (hst.1 255 (by decide)) hf2 rfl rfl hl.1 (As := [.int z4]) (rest := []) rfl (Nat.le_of_ble_eq_true rfl) dX11_letterOf_46 ⟨Nat.le_of_ble_eq_true rfl, Nat.le_of_ble_eq_true rfl⟩) hA hD hS (fun r13 L14 f15 H locs hp16 hP hD hS => ?_)
        obtain ⟨eL17L, eL17T, eL17R⟩ := hp16
        have eL17L : L14 = L := eL17L
        have eL17T : f15 = f := eL17T
        rw [eL17L, eL17T] at hP hD
        have eL17R : In r13 0 1 := eL17R
        refine lv_if_eq (tgt := 55) hx hb dX11_letterOf_49 (by decide) (fun c18 => ?_) (fun c18 => ?_)
        ·
          have cc19 : r13.toInt = (0 : Int32).toInt := congrArg Int32.toInt c18
          have hb20 : In r13 0 0 := In.eq1 eL17R (⟨by decide, by decide⟩ : In 0 0 0) cc19 (by omega) (by omega)
          refine lv_aload_n hx hb dX11_letterOf_55 rfl (lv_at hl 0 rfl) ?_
          refine pl_get (v := .int v40_1) hx hb hts (fun w h => mT (inX11 w h)) hown hG.1 hP (hst.1 255 (by decide)) hf2 rfl 40 (by decide) (hts _ (mT wg_1376)) (fun _ h => h) rfl dX11_letterOf_56 ?_
          refine lv_iconst (v := 1) hx hb dX11_letterOf_59 (by decide) ?_
          refine lv_iand hx hb dX11_letterOf_60 ?_
          refine lv_topi (fun x21 ex21 => ?_)
          have hb22 : In x21 0 1 := ex21 ▸ In.andr (⟨by decide, by decide⟩ : In 1 1 1) (by decide)
          refine lv_istore (lv' := [(6, .int x21), (0, .ref (ad 255)), (1, .int z1), (2, .int z2), (3, .int z3), (4, .int z4), (5, .int z5)]) hx hb dX11_letterOf_61 hl (by decide) rfl (fun ls hl => ?_)
          refine lv_aload_n hx hb dX11_letterOf_63 rfl (lv_at hl 1 rfl) ?_
          refine lv_dup hx hb dX11_letterOf_64 rfl ?_
          refine pl_get (v := .int v40_1) hx hb hts (fun w h => mT (inX11 w h)) hown hG.1 hP (hst.1 255 (by decide)) hf2 rfl 40 (by decide) (hts _ (mT wg_1376)) (fun _ h => h) rfl dX11_letterOf_65 ?_
          refine lv_iconst (v := 1) hx hb dX11_letterOf_68 (by decide) ?_
          refine lv_ishr hx hb dX11_letterOf_69 ?_
          refine lv_topi (fun x23 ex23 => ?_)
          refine pl_put (ty := .int) (v := .int x23) (fs' := [.int v0_1, .ref (ad 256), .int v2_1, .int v3_1, .int v4_1, .int v5_1, .int v6_1, .ref (ad 257), .int v8_1, .int v9_1, .ref (ad 258), .ref (ad 259), .int v12_1, .int v13_1, .int v14_1, .int v15_1, .int v16_1, .int v17_1, .int v18_1, .int v19_1, .int v20_1, .long v21_1, .long v22_1, .int v23_1, .ref (ad 260), .int v25_1, .ref (ad 261), .ref (ad 262), .ref (ad 263), .ref (ad 264), .ref (ad 265), .ref (ad 266), .ref (ad 267), .ref (ad 268), .ref (ad 269), .ref (ad 270), .int v36_1, .int v37_1, .int v38_1, .int v39_1, .int x23, .ref (ad 271), .ref (ad 272), .ref (ad 273), .ref (ad 274), .long v45_1, .long v46_1, .int v47_1, .int v48_1, .ref (ad 275), .int v50_1, .int v51_1, .ref (ad 276), .int v53_1, .ref (ad 277), .int v55_1]) hx hb hts (fun w h => mT (inX11 w h)) tyX11 tyX11_ok nmX11 hown hG.1 hP hD hS (hst.1 255 (by decide)) hf2 rfl 40 (by decide) (hts _ (mT wg_1376)) (fun _ h => h) rfl (by decide +kernel) (rfl) (rfl) (Nat.le_of_ble_eq_true rfl) rfl dX11_letterOf_70 (fun H locs f24 hf25 ho26 hP hD hS => ?_)
          have hfr : (∀ b, b ≠ (ad 255) → f24 b = f b) := fun b z0_ => (ho26 b z0_).trans (hfr b z0_)
          refine lv_iload hx hb dX11_letterOf_73 (lv_at hl 0 rfl) ?_
          have hT := TI.updM hT hst (k := 0) (by decide) hf25 ho26 ⟨v0_1, v2_1, v3_1, v4_1, v5_1, v6_1, v8_1, v9_1, v12_1, v13_1, v14_1, v15_1, v16_1, v17_1, v18_1, v19_1, v20_1, v21_1, v22_1, v23_1, v25_1, v36_1, v37_1, v38_1, v39_1, x23, v45_1, v46_1, v47_1, v48_1, v50_1, v51_1, v53_1, v55_1, rfl, hv0_1, hv2_1, hv3_1, hv4_1, hv5_1, hv6_1, hv8_1, hv12_1, hv13_1, hv14_1, hg14_1, hv15_1, hg15_1, hv17_1, hg17_1, hv20_1, hv23_1, hg23_1, hv25_1, hv36_1, hv47_1, hv48_1, hv53_1, hv55_1⟩
          exact ret_i (ty := .int) hx hb hr hlocks (rfl) hP hD hS (Nat.le_of_ble_eq_true rfl) (Nat.le_of_ble_eq_true rfl) (⟨rfl, hT, hfr⟩) dX11_letterOf_75
        ·
          have cc27 : r13.toInt ≠ (0 : Int32).toInt := i32_ne c18
          have hb28 : In r13 1 1 := In.ne1 eL17R (⟨by decide, by decide⟩ : In 0 0 0) cc27 (by omega) (by omega)
          refine lv_iload hx hb dX11_letterOf_52 (lv_at hl 5 rfl) ?_
          exact ret_i (ty := .int) hx hb hr hlocks (rfl) hP hD hS (Nat.le_of_ble_eq_true rfl) (Nat.le_of_ble_eq_true rfl) (⟨rfl, hT, hfr⟩) dX11_letterOf_54
      ·
        have cc29 : v39_1.toInt = (2 : Int32).toInt := congrArg Int32.toInt c12
        have hb30 : In v39_1 2 2 := In.eq1 (In.full v39_1) (⟨by decide, by decide⟩ : In 2 2 2) cc29 (by omega) (by omega)
        refine lv_aload_n hx hb dX11_letterOf_38 rfl (lv_at hl 0 rfl) ?_
        refine call_i (run_V (rm := rm_X11_draw) hx hb hml hown hts (s_X11_draw l g ad th _ _ _  hst hT ) cV_X11_draw wg_1675 ⟨Nat.le_of_ble_eq_true rfl, Nat.le_of_ble_eq_true rfl⟩ hG hE hA hP hD hS (hst.1 255 (by decide)) hf2 rfl rfl hl.1 (As := []) (rest := []) rfl (Nat.le_of_ble_eq_true rfl) dX11_letterOf_39 ⟨Nat.le_of_ble_eq_true rfl, Nat.le_of_ble_eq_true rfl⟩) hA hD hS (fun r31 L32 f33 H locs hp34 hP hD hS => ?_)
        obtain ⟨eL35L, eL35T, eL35F⟩ := hp34
        have eL35L : L32 = L := eL35L
        rw [eL35L] at hP hD
        have hT : TI g ad th f33 := eL35T
        have eL35F : ∀ b, b ≠ (ad 255) → f33 b = f b := eL35F
        have hfr : (∀ b, b ≠ (ad 255) → f33 b = f b) := fun b z0_ => (eL35F b z0_).trans (hfr b z0_)
        exact ret_i (ty := .int) hx hb hr hlocks (rfl) hP hD hS (Nat.le_of_ble_eq_true rfl) (Nat.le_of_ble_eq_true rfl) (⟨rfl, hT, hfr⟩) dX11_letterOf_42
    ·
      have cc36 : v39_1.toInt = (0 : Int32).toInt := congrArg Int32.toInt c11
      have hb37 : In v39_1 0 0 := In.eq1 (In.full v39_1) (⟨by decide, by decide⟩ : In 0 0 0) cc36 (by omega) (by omega)
      refine lv_aload_n hx hb dX11_letterOf_18 rfl (lv_at hl 0 rfl) ?_
      refine lv_iload_n hx hb dX11_letterOf_19 rfl (lv_at hl 1 rfl) ?_
      refine lv_iload_n hx hb dX11_letterOf_20 rfl (lv_at hl 2 rfl) ?_
      refine lv_iload_n hx hb dX11_letterOf_21 rfl (lv_at hl 3 rfl) ?_
      refine lv_iload hx hb dX11_letterOf_22 (lv_at hl 4 rfl) ?_
      refine lv_iload hx hb dX11_letterOf_24 (lv_at hl 5 rfl) ?_
      refine call_i (run_V (rm := rm_X11_byPlan) hx hb hml hown hts (s_X11_byPlan l g ad th _ _ _ z1 z2 z3 z4 z5 hst hT ) cV_X11_byPlan wg_1668 ⟨Nat.le_of_ble_eq_true rfl, Nat.le_of_ble_eq_true rfl⟩ hG hE hA hP hD hS (hst.1 255 (by decide)) hf2 rfl rfl hl.1 (As := [.int z1, .int z2, .int z3, .int z4, .int z5]) (rest := []) rfl (Nat.le_of_ble_eq_true rfl) dX11_letterOf_26 ⟨Nat.le_of_ble_eq_true rfl, Nat.le_of_ble_eq_true rfl⟩) hA hD hS (fun r38 L39 f40 H locs hp41 hP hD hS => ?_)
      obtain ⟨eL42L, eL42T, eL42F⟩ := hp41
      have eL42L : L39 = L := eL42L
      rw [eL42L] at hP hD
      have hT : TI g ad th f40 := eL42T
      have eL42F : ∀ b, b ≠ (ad 255) → f40 b = f b := eL42F
      have hfr : (∀ b, b ≠ (ad 255) → f40 b = f b) := fun b z0_ => (eL42F b z0_).trans (hfr b z0_)
      exact ret_i (ty := .int) hx hb hr hlocks (rfl) hP hD hS (Nat.le_of_ble_eq_true rfl) (Nat.le_of_ble_eq_true rfl) (⟨rfl, hT, hfr⟩) dX11_letterOf_29
  ·
    have cc43 : r3.toInt = (0 : Int32).toInt := congrArg Int32.toInt c8
    have hb44 : In r3 0 0 := In.eq1 eL7R (⟨by decide, by decide⟩ : In 0 0 0) cc43 (by omega) (by omega)
    refine lv_iload hx hb dX11_letterOf_8 (lv_at hl 5 rfl) ?_
    exact ret_i (ty := .int) hx hb hr hlocks (rfl) hP hD hS (Nat.le_of_ble_eq_true rfl) (Nat.le_of_ble_eq_true rfl) (⟨rfl, hT, hfr⟩) dX11_letterOf_10

abbrev rm_X11_sends : Room := { frames := 3, cells := 0, slots := 0, locals := 75 }
abbrev po_X11_sends (g : GG) (ad : Nat → Nat) (th : Nat → Int) (L : List Nat) (f : HP) (z1 : Int32) (z2 : Int32) : (List Nat × HP) → Prop := fun u => u.1 = L ∧ TI g ad th u.2 ∧ (∀ b, b ≠ (ad 255) → b ≠ (ad 268) → u.2 b = f b)
set_option maxHeartbeats 4000000 in
set_option maxRecDepth 100000 in
theorem s_X11_sends (l : Launch) (g : GG) (ad : Nat → Nat) (th : Nat → Int) (L : List Nat) (f : HP) (sz : Nat) (z1 : Int32) (z2 : Int32) (hst : ST ad L) (hT : TI g ad th f) (hz1 : In z1 0 100) (hn3 : 3 ≤ th 11) : MtV l g yX11_sends cX11_sends 8 rm_X11_sends [.ref (ad 255), .int z1, .int z2] L f sz (po_X11_sends g ad th L f z1 z2) := by
  refine MtV.of (by decide +kernel) (Nat.le_of_ble_eq_true rfl) ?_
  intro p e s m below meth c A hEn hP hD hS ls hl
  obtain ⟨hx, hb, hr, hml, hown, hlocks, hts, hG, hA, hE, hnm⟩ := hEn
  have hown : s.vm.findClass "RulerWordModel" = some m.cls := hown
  have hl : lv_has ls 8 [(0, .ref (ad 255)), (1, .int z1), (2, .int z2)] := hl
  have hfr : (∀ b, b ≠ (ad 255) → b ≠ (ad 268) → f b = f b) := fun b z0_ z1_ => rfl
  refine lv_iload_n hx hb dX11_sends_0 rfl (lv_at hl 2 rfl) ?_
  refine lv_aload_n hx hb dX11_sends_1 rfl (lv_at hl 0 rfl) ?_
  obtain ⟨v0_1, v2_1, v3_1, v4_1, v5_1, v6_1, v8_1, v9_1, v12_1, v13_1, v14_1, v15_1, v16_1, v17_1, v18_1, v19_1, v20_1, v21_1, v22_1, v23_1, v25_1, v36_1, v37_1, v38_1, v39_1, v40_1, v45_1, v46_1, v47_1, v48_1, v50_1, v51_1, v53_1, v55_1, hf2, hv0_1, hv2_1, hv3_1, hv4_1, hv5_1, hv6_1, hv8_1, hv12_1, hv13_1, hv14_1, hg14_1, hv15_1, hg15_1, hv17_1, hg17_1, hv20_1, hv23_1, hg23_1, hv25_1, hv36_1, hv47_1, hv48_1, hv53_1, hv55_1⟩ := hT.2.2 0 (by decide)
  have hb3 : In v15_1 3 9 := ⟨by rw [hg15_1]; exact hn3, hv15_1.2⟩
  refine call_i (run_V (rm := rm_X11_each) hx hb hml hown hts (s_X11_each l g ad th _ _ _  hst hT ) cV_X11_each wg_1636 ⟨Nat.le_of_ble_eq_true rfl, Nat.le_of_ble_eq_true rfl⟩ hG hE hA hP hD hS (hst.1 255 (by decide)) hf2 rfl rfl hl.1 (As := []) (rest := [.int z2]) rfl (Nat.le_of_ble_eq_true rfl) dX11_sends_2 ⟨Nat.le_of_ble_eq_true rfl, Nat.le_of_ble_eq_true rfl⟩) hA hD hS (fun r4 L5 f6 H locs hp7 hP hD hS => ?_)
  obtain ⟨eL8L, eL8T, eL8R⟩ := hp7
  have eL8L : L5 = L := eL8L
  have eL8T : f6 = f := eL8T
  rw [eL8L, eL8T] at hP hD
  have eL8R : In r4 2 3 := eL8R
  refine lv_iconst (v := 1) hx hb dX11_sends_5 (by decide) ?_
  refine lv_isub hx hb dX11_sends_6 ?_
  refine lv_topi (fun x9 ex9 => ?_)
  have hb10 : In x9 1 2 := ex9 ▸ In.sub eL8R (⟨by decide, by decide⟩ : In 1 1 1) (by decide) (by decide) (by decide) (by decide)
  have et11 : x9.toInt = r4.toInt + (-1) := In.sube ex9 eL8R (k := 1) (by decide) (by decide) (by decide)
  have hJ15 : ∀ (y15_s0 : Int32) (H : Heap) (locs : List Loc) (ls : Array Slot), In y15_s0 0 1 → va_P g.1 vwCl (va_pl L f) H → va_D A (va_pl L f) → va_S A s.heap H locs → lv_has ls 8 [(0, .ref (ad 255)), (1, .int z1), (2, .int z2)] → W p l e rm_X11_sends s m [.ref (ad 255), .int z1, .int z2].toArray below meth c H locs 0 0 (MQ below (va_Qv (po_X11_sends g ad th L f z1 z2) (PstB g A) A) [.ref (ad 255), .int z1, .int z2].toArray s rm_X11_sends.cells rm_X11_sends.slots A) (F0 m 15 ls [.int y15_s0]) := by
    intro y15_s0 H locs ls hy15_s0 hP hD hS hl
    refine lv_istore_n (lv' := [(3, .int y15_s0), (0, .ref (ad 255)), (1, .int z1), (2, .int z2)]) hx hb dX11_sends_15 rfl hl (by decide) rfl (fun ls hl => ?_)
    refine lv_iconst (v := 0) hx hb dX11_sends_16 (by decide) ?_
    refine lv_istore (lv' := [(4, .int 0), (3, .int y15_s0), (0, .ref (ad 255)), (1, .int z1), (2, .int z2)]) hx hb dX11_sends_17 hl (by decide) rfl (fun ls hl => ?_)
    have hJ19 : ∀ (k19 : Nat) (y19_l4 : Int32) (f_19 : HP) (H : Heap) (locs : List Loc) (ls : Array Slot), In y19_l4 0 81 → va_P g.1 vwCl (va_pl L f_19) H → va_D A (va_pl L f_19) → va_S A s.heap H locs → TI g ad th f_19 → (∀ b, b ≠ (ad 255) → b ≠ (ad 268) → f_19 b = f b) → f_19 (ad 255) = .inr (10, [.int v0_1, .ref (ad 256), .int v2_1, .int v3_1, .int v4_1, .int v5_1, .int v6_1, .ref (ad 257), .int v8_1, .int v9_1, .ref (ad 258), .ref (ad 259), .int v12_1, .int v13_1, .int v14_1, .int v15_1, .int v16_1, .int v17_1, .int v18_1, .int v19_1, .int v20_1, .long v21_1, .long v22_1, .int v23_1, .ref (ad 260), .int v25_1, .ref (ad 261), .ref (ad 262), .ref (ad 263), .ref (ad 264), .ref (ad 265), .ref (ad 266), .ref (ad 267), .ref (ad 268), .ref (ad 269), .ref (ad 270), .int v36_1, .int v37_1, .int v38_1, .int v39_1, .int v40_1, .ref (ad 271), .ref (ad 272), .ref (ad 273), .ref (ad 274), .long v45_1, .long v46_1, .int v47_1, .int v48_1, .ref (ad 275), .int v50_1, .int v51_1, .ref (ad 276), .int v53_1, .ref (ad 277), .int v55_1]) → lv_has ls 8 [(0, .ref (ad 255)), (1, .int z1), (2, .int z2), (3, .int y15_s0), (4, .int y19_l4)] → 81 - y19_l4.toInt < ((k19 : Nat) : Int) → W p l e rm_X11_sends s m [.ref (ad 255), .int z1, .int z2].toArray below meth c H locs 0 0 (MQ below (va_Qv (po_X11_sends g ad th L f z1 z2) (PstB g A) A) [.ref (ad 255), .int z1, .int z2].toArray s rm_X11_sends.cells rm_X11_sends.slots A) (F0 m 19 ls []) := by
      intro k19
      induction k19 with
      | zero =>
        intro y19_l4 f_19 H locs ls hy19_l4 hP hD hS hT hfr hf12 hl hmz19
        exact ms0 hy19_l4 hmz19
      | succ k19 ih19 =>
        intro y19_l4 f_19 H locs ls hy19_l4 hP hD hS hT hfr hf12 hl hmz19
        refine lv_iload hx hb dX11_sends_19 (lv_at hl 4 rfl) ?_
        refine lv_bipush (v := 81) hx hb dX11_sends_21 (by decide) ?_
        refine lv_icmp_ge (tgt := 40) hx hb dX11_sends_23 (by decide) (fun c13 => ?_) (fun c13 => ?_)
        ·
          have cc14 : (81 : Int32).toInt ≤ y19_l4.toInt := i32_le.mp c13
          have hb15 : In y19_l4 81 81 := In.ge1 hy19_l4 (⟨by decide, by decide⟩ : In 81 81 81) cc14 (by omega) (by omega)
          refine lv_iconst (v := 0) hx hb dX11_sends_40 (by decide) ?_
          refine lv_istore (lv' := [(4, .int 0), (0, .ref (ad 255)), (1, .int z1), (2, .int z2), (3, .int y15_s0)]) hx hb dX11_sends_41 hl (by decide) rfl (fun ls hl => ?_)
          have hJ43 : ∀ (k43 : Nat) (y43_l4 : Int32) (f_43 : HP) (H : Heap) (locs : List Loc) (ls : Array Slot), In y43_l4 0 2147483647 → va_P g.1 vwCl (va_pl L f_43) H → va_D A (va_pl L f_43) → va_S A s.heap H locs → TI g ad th f_43 → (∀ b, b ≠ (ad 255) → b ≠ (ad 268) → f_43 b = f b) → lv_has ls 8 [(0, .ref (ad 255)), (1, .int z1), (2, .int z2), (3, .int y15_s0), (4, .int y43_l4)] → 2147483647 - y43_l4.toInt < ((k43 : Nat) : Int) → W p l e rm_X11_sends s m [.ref (ad 255), .int z1, .int z2].toArray below meth c H locs 0 0 (MQ below (va_Qv (po_X11_sends g ad th L f z1 z2) (PstB g A) A) [.ref (ad 255), .int z1, .int z2].toArray s rm_X11_sends.cells rm_X11_sends.slots A) (F0 m 43 ls []) := by
            intro k43
            induction k43 with
            | zero =>
              intro y43_l4 f_43 H locs ls hy43_l4 hP hD hS hT hfr hl hmz43
              exact ms0 hy43_l4 hmz43
            | succ k43 ih43 =>
              intro y43_l4 f_43 H locs ls hy43_l4 hP hD hS hT hfr hl hmz43
              refine lv_iload hx hb dX11_sends_43 (lv_at hl 4 rfl) ?_
              refine lv_aload_n hx hb dX11_sends_45 rfl (lv_at hl 0 rfl) ?_
              obtain ⟨v0_16, v2_16, v3_16, v4_16, v5_16, v6_16, v8_16, v9_16, v12_16, v13_16, v14_16, v15_16, v16_16, v17_16, v18_16, v19_16, v20_16, v21_16, v22_16, v23_16, v25_16, v36_16, v37_16, v38_16, v39_16, v40_16, v45_16, v46_16, v47_16, v48_16, v50_16, v51_16, v53_16, v55_16, hf17, hv0_16, hv2_16, hv3_16, hv4_16, hv5_16, hv6_16, hv8_16, hv12_16, hv13_16, hv14_16, hg14_16, hv15_16, hg15_16, hv17_16, hg17_16, hv20_16, hv23_16, hg23_16, hv25_16, hv36_16, hv47_16, hv48_16, hv53_16, hv55_16⟩ := hT.2.2 0 (by decide)
              have hb18 : In v15_16 3 9 := ⟨by rw [hg15_16]; exact hn3, hv15_16.2⟩
              refine pl_get (v := .int v15_16) hx hb hts (fun w h => mT (inX11 w h)) hown hG.1 hP (hst.1 255 (by decide)) hf17 rfl 15 (by decide) (hts _ (mT wg_1351)) (fun _ h => h) rfl dX11_sends_46 ?_
              refine lv_icmp_ge (tgt := 206) hx hb dX11_sends_49 (by decide) (fun c19 => ?_) (fun c19 => ?_)
              ·
                have cc20 : v15_16.toInt ≤ y43_l4.toInt := i32_le.mp c19
                have hb21 : In y43_l4 3 2147483647 := In.ge1 hy43_l4 hb18 cc20 (by omega) (by omega)
                exact ret_v hx hb hr hlocks hP hD hS (Nat.le_of_ble_eq_true rfl) (Nat.le_of_ble_eq_true rfl) (⟨rfl, hT, hfr⟩) dX11_sends_206
              ·
                have cc22 : y43_l4.toInt < v15_16.toInt := i32_nle c19
                have hb23 : In y43_l4 0 8 := In.lt1 hy43_l4 hb18 cc22 (by omega) (by omega)
                refine lv_iload_n hx hb dX11_sends_52 rfl (lv_at hl 3 rfl) ?_
                have hJ200 : ∀ (f_200 : HP) (H : Heap) (locs : List Loc) (ls : Array Slot), va_P g.1 vwCl (va_pl L f_200) H → va_D A (va_pl L f_200) → va_S A s.heap H locs → TI g ad th f_200 → (∀ b, b ≠ (ad 255) → b ≠ (ad 268) → f_200 b = f b) → lv_has ls 8 [(0, .ref (ad 255)), (1, .int z1), (2, .int z2), (3, .int y15_s0), (4, .int y43_l4)] → W p l e rm_X11_sends s m [.ref (ad 255), .int z1, .int z2].toArray below meth c H locs 0 0 (MQ below (va_Qv (po_X11_sends g ad th L f z1 z2) (PstB g A) A) [.ref (ad 255), .int z1, .int z2].toArray s rm_X11_sends.cells rm_X11_sends.slots A) (F0 m 200 ls []) := by
                  intro f_200 H locs ls hP hD hS hT hfr hl
                  obtain ⟨x24, ex24⟩ : ∃ y : Int32, y = y43_l4 + 1 := ⟨_, rfl⟩
                  have hb25 : In x24 1 9 := ex24 ▸ In.add hb23 (⟨by decide, by decide⟩ : In 1 1 1) (by decide) (by decide) (by decide) (by decide)
                  have et26 : x24.toInt = y43_l4.toInt + 1 := In.adde ex24 hb23 (k := 1) (by decide) (by decide) (by decide)
                  refine lv_iinc (v := x24) (lv' := [(4, .int x24), (0, .ref (ad 255)), (1, .int z1), (2, .int z2), (3, .int y15_s0)]) hx hb dX11_sends_200 hl (k := 4) rfl (by rw [ex24]; rfl) (by decide) rfl (fun ls hl => ?_)
                  refine lv_goto (tgt := 43) hx hb dX11_sends_203 (by decide) ?_
                  exact ih43 x24 _ _ _ _ (In.mono hb25 (by decide) (by decide)) hP hD hS hT hfr (lv_sub hl [1, 2, 3, 4, 0] rfl) (msu et26 (by decide) hmz43)
                have hJ70 : ∀ (H : Heap) (locs : List Loc) (ls : Array Slot), va_P g.1 vwCl (va_pl L f_43) H → va_D A (va_pl L f_43) → va_S A s.heap H locs → lv_has ls 8 [(0, .ref (ad 255)), (1, .int z1), (2, .int z2), (3, .int y15_s0), (4, .int y43_l4)] → W p l e rm_X11_sends s m [.ref (ad 255), .int z1, .int z2].toArray below meth c H locs 0 0 (MQ below (va_Qv (po_X11_sends g ad th L f z1 z2) (PstB g A) A) [.ref (ad 255), .int z1, .int z2].toArray s rm_X11_sends.cells rm_X11_sends.slots A) (F0 m 70 ls []) := by
                  intro H locs ls hP hD hS hl
                  refine lv_iload_n hx hb dX11_sends_70 rfl (lv_at hl 2 rfl) ?_
                  have hJ102 : ∀ (y102_s0 : Int32) (H : Heap) (locs : List Loc) (ls : Array Slot), In y102_s0 (-2147483648) 2147483647 → va_P g.1 vwCl (va_pl L f_43) H → va_D A (va_pl L f_43) → va_S A s.heap H locs → lv_has ls 8 [(0, .ref (ad 255)), (1, .int z1), (2, .int z2), (3, .int y15_s0), (4, .int y43_l4)] → W p l e rm_X11_sends s m [.ref (ad 255), .int z1, .int z2].toArray below meth c H locs 0 0 (MQ below (va_Qv (po_X11_sends g ad th L f z1 z2) (PstB g A) A) [.ref (ad 255), .int z1, .int z2].toArray s rm_X11_sends.cells rm_X11_sends.slots A) (F0 m 102 ls [.int y102_s0]) := by
                    intro y102_s0 H locs ls hy102_s0 hP hD hS hl
                    refine lv_istore (lv' := [(5, .int y102_s0), (0, .ref (ad 255)), (1, .int z1), (2, .int z2), (3, .int y15_s0), (4, .int y43_l4)]) hx hb dX11_sends_102 hl (by decide) rfl (fun ls hl => ?_)
                    refine lv_iconst (v := 0) hx hb dX11_sends_104 (by decide) ?_
                    refine lv_istore (lv' := [(6, .int 0), (5, .int y102_s0), (0, .ref (ad 255)), (1, .int z1), (2, .int z2), (3, .int y15_s0), (4, .int y43_l4)]) hx hb dX11_sends_105 hl (by decide) rfl (fun ls hl => ?_)
                    have hJ107 : ∀ (k107 : Nat) (y107_l6 : Int32) (f_107 : HP) (H : Heap) (locs : List Loc) (ls : Array Slot), In y107_l6 0 2147483647 → va_P g.1 vwCl (va_pl L f_107) H → va_D A (va_pl L f_107) → va_S A s.heap H locs → TI g ad th f_107 → (∀ b, b ≠ (ad 255) → b ≠ (ad 268) → f_107 b = f b) → lv_has ls 8 [(0, .ref (ad 255)), (1, .int z1), (2, .int z2), (3, .int y15_s0), (4, .int y43_l4), (5, .int y102_s0), (6, .int y107_l6)] → 2147483647 - y107_l6.toInt < ((k107 : Nat) : Int) → W p l e rm_X11_sends s m [.ref (ad 255), .int z1, .int z2].toArray below meth c H locs 0 0 (MQ below (va_Qv (po_X11_sends g ad th L f z1 z2) (PstB g A) A) [.ref (ad 255), .int z1, .int z2].toArray s rm_X11_sends.cells rm_X11_sends.slots A) (F0 m 107 ls []) := by
                      intro k107
                      induction k107 with
                      | zero =>
                        intro y107_l6 f_107 H locs ls hy107_l6 hP hD hS hT hfr hl hmz107
                        exact ms0 hy107_l6 hmz107
                      | succ k107 ih107 =>
                        intro y107_l6 f_107 H locs ls hy107_l6 hP hD hS hT hfr hl hmz107
                        refine lv_iload hx hb dX11_sends_107 (lv_at hl 6 rfl) ?_
                        refine lv_aload_n hx hb dX11_sends_109 rfl (lv_at hl 0 rfl) ?_
                        obtain ⟨v0_27, v2_27, v3_27, v4_27, v5_27, v6_27, v8_27, v9_27, v12_27, v13_27, v14_27, v15_27, v16_27, v17_27, v18_27, v19_27, v20_27, v21_27, v22_27, v23_27, v25_27, v36_27, v37_27, v38_27, v39_27, v40_27, v45_27, v46_27, v47_27, v48_27, v50_27, v51_27, v53_27, v55_27, hf28, hv0_27, hv2_27, hv3_27, hv4_27, hv5_27, hv6_27, hv8_27, hv12_27, hv13_27, hv14_27, hg14_27, hv15_27, hg15_27, hv17_27, hg17_27, hv20_27, hv23_27, hg23_27, hv25_27, hv36_27, hv47_27, hv48_27, hv53_27, hv55_27⟩ := hT.2.2 0 (by decide)
                        have hb29 : In v15_27 3 9 := ⟨by rw [hg15_27]; exact hn3, hv15_27.2⟩
                        refine pl_get (v := .int v15_27) hx hb hts (fun w h => mT (inX11 w h)) hown hG.1 hP (hst.1 255 (by decide)) hf28 rfl 15 (by decide) (hts _ (mT wg_1351)) (fun _ h => h) rfl dX11_sends_110 ?_
                        refine lv_icmp_ge (tgt := 200) hx hb dX11_sends_113 (by decide) (fun c30 => ?_) (fun c30 => ?_)
                        ·
                          have cc31 : v15_27.toInt ≤ y107_l6.toInt := i32_le.mp c30
                          have hb32 : In y107_l6 3 2147483647 := In.ge1 hy107_l6 hb29 cc31 (by omega) (by omega)
                          exact hJ200 _ _ _ _ hP hD hS hT hfr (lv_sub hl [0, 1, 2, 3, 4] rfl)
                        ·
                          have cc33 : y107_l6.toInt < v15_27.toInt := i32_nle c30
                          have hb34 : In y107_l6 0 8 := In.lt1 hy107_l6 hb29 cc33 (by omega) (by omega)
                          refine lv_aload_n hx hb dX11_sends_116 rfl (lv_at hl 0 rfl) ?_
                          refine lv_iload_n hx hb dX11_sends_117 rfl (lv_at hl 1 rfl) ?_
                          refine lv_iload_n hx hb dX11_sends_118 rfl (lv_at hl 2 rfl) ?_
                          refine lv_iload hx hb dX11_sends_119 (lv_at hl 4 rfl) ?_
                          refine lv_iload hx hb dX11_sends_121 (lv_at hl 6 rfl) ?_
                          refine lv_iload hx hb dX11_sends_123 (lv_at hl 5 rfl) ?_
                          refine call_i (run_V (rm := rm_X11_letterOf) hx hb hml hown hts (s_X11_letterOf l g ad th _ _ _ z1 z2 y43_l4 y107_l6 y102_s0 hst hT ) cV_X11_letterOf wg_1660 ⟨Nat.le_of_ble_eq_true rfl, Nat.le_of_ble_eq_true rfl⟩ hG hE hA hP hD hS (hst.1 255 (by decide)) hf28 rfl rfl hl.1 (As := [.int z1, .int z2, .int y43_l4, .int y107_l6, .int y102_s0]) (rest := []) rfl (Nat.le_of_ble_eq_true rfl) dX11_sends_125 ⟨Nat.le_of_ble_eq_true rfl, Nat.le_of_ble_eq_true rfl⟩) hA hD hS (fun r35 L36 f37 H locs hp38 hP hD hS => ?_)
                          obtain ⟨eL39L, eL39T, eL39F⟩ := hp38
                          have eL39L : L36 = L := eL39L
                          rw [eL39L] at hP hD
                          have hT : TI g ad th f37 := eL39T
                          have eL39F : ∀ b, b ≠ (ad 255) → f37 b = f_107 b := eL39F
                          have hfr : (∀ b, b ≠ (ad 255) → b ≠ (ad 268) → f37 b = f b) := fun b z0_ z1_ => (eL39F b z0_).trans (hfr b z0_ z1_)
                          refine lv_istore (lv' := [(7, .int r35), (0, .ref (ad 255)), (1, .int z1), (2, .int z2), (3, .int y15_s0), (4, .int y43_l4), (5, .int y102_s0), (6, .int y107_l6)]) hx hb dX11_sends_128 hl (by decide) rfl (fun ls hl => ?_)
                          refine lv_aload_n hx hb dX11_sends_130 rfl (lv_at hl 1 rfl) ?_
                          obtain ⟨v0_40, v2_40, v3_40, v4_40, v5_40, v6_40, v8_40, v9_40, v12_40, v13_40, v14_40, v15_40, v16_40, v17_40, v18_40, v19_40, v20_40, v21_40, v22_40, v23_40, v25_40, v36_40, v37_40, v38_40, v39_40, v40_40, v45_40, v46_40, v47_40, v48_40, v50_40, v51_40, v53_40, v55_40, hf41, hv0_40, hv2_40, hv3_40, hv4_40, hv5_40, hv6_40, hv8_40, hv12_40, hv13_40, hv14_40, hg14_40, hv15_40, hg15_40, hv17_40, hg17_40, hv20_40, hv23_40, hg23_40, hv25_40, hv36_40, hv47_40, hv48_40, hv53_40, hv55_40⟩ := hT.2.2 0 (by decide)
                          have hb42 : In v15_40 3 9 := ⟨by rw [hg15_40]; exact hn3, hv15_40.2⟩
                          refine pl_get (v := .ref (ad 268)) hx hb hts (fun w h => mT (inX11 w h)) hown hG.1 hP (hst.1 255 (by decide)) hf41 rfl 33 (by decide) (hts _ (mT wg_1369)) (fun _ h => h) rfl dX11_sends_131 ?_
                          refine lv_bipush (v := 9) hx hb dX11_sends_134 (by decide) ?_
                          refine lv_iload hx hb dX11_sends_136 (lv_at hl 5 rfl) ?_
                          refine lv_imul hx hb dX11_sends_138 ?_
                          refine lv_topi (fun x43 ex43 => ?_)
                          have hb44 : In x43 0 72 := ex43 ▸ In.mul (⟨by decide, by decide⟩ : In 9 9 9) hb23 (by decide) (by decide) (by decide) (by decide) (by decide)
                          refine lv_iload hx hb dX11_sends_139 (lv_at hl 7 rfl) ?_
                          refine lv_iadd hx hb dX11_sends_141 ?_
                          refine lv_topi (fun x45 ex45 => ?_)
                          have hb46 : In x45 0 80 := ex45 ▸ In.add hb44 hb34 (by decide) (by decide) (by decide) (by decide)
                          have et47 : x45.toInt = x43.toInt + y107_l6.toInt := In.add2e ex45 hb44 hb34 (by decide) (by decide)
                          refine lv_iload hx hb dX11_sends_142 (lv_at hl 0 rfl) ?_
                          obtain ⟨rw48, hf49⟩ := hT.2.2 13 (by decide)
                          refine pl_iastE hx hb hG.1 hP hD hS (hst.1 268 (by decide)) 0 hf49 rfl (In.inb hb46 (by decide) (by decide)) dX11_sends_144 (fun H locs f50 r53 er53 hf51 ho52 hP hD hS => ?_)
                          have hf54 := (ho52 (ad 255) (hst.ne (by decide) (by decide) (by decide))).trans hf41
                          have hfr : (∀ b, b ≠ (ad 255) → b ≠ (ad 268) → f50 b = f b) := fun b z0_ z1_ => (ho52 b z1_).trans (hfr b z0_ z1_)
                          refine lv_iload hx hb dX11_sends_145 (lv_at hl 0 rfl) ?_
                          refine lv_iconst (v := 2) hx hb dX11_sends_147 (by decide) ?_
                          have hT := TI.updM hT hst (k := 13) (by decide) hf51 ho52 ⟨r53, rfl⟩
                          have hJ194 : ∀ (f_194 : HP) (H : Heap) (locs : List Loc) (ls : Array Slot), va_P g.1 vwCl (va_pl L f_194) H → va_D A (va_pl L f_194) → va_S A s.heap H locs → TI g ad th f_194 → (∀ b, b ≠ (ad 255) → b ≠ (ad 268) → f_194 b = f b) → f_194 (ad 268) = .inl (g.2.1 0, 81, .inl (r53)) → lv_has ls 8 [(0, .ref (ad 255)), (1, .int z1), (2, .int z2), (3, .int y15_s0), (4, .int y43_l4), (5, .int y102_s0), (6, .int y107_l6), (7, .int r35)] → W p l e rm_X11_sends s m [.ref (ad 255), .int z1, .int z2].toArray below meth c H locs 0 0 (MQ below (va_Qv (po_X11_sends g ad th L f z1 z2) (PstB g A) A) [.ref (ad 255), .int z1, .int z2].toArray s rm_X11_sends.cells rm_X11_sends.slots A) (F0 m 194 ls []) := by
                            intro f_194 H locs ls hP hD hS hT hfr hf55 hl
                            obtain ⟨x56, ex56⟩ : ∃ y : Int32, y = y107_l6 + 1 := ⟨_, rfl⟩
                            have hb57 : In x56 1 9 := ex56 ▸ In.add hb34 (⟨by decide, by decide⟩ : In 1 1 1) (by decide) (by decide) (by decide) (by decide)
                            have et58 : x56.toInt = y107_l6.toInt + 1 := In.adde ex56 hb34 (k := 1) (by decide) (by decide) (by decide)
                            refine lv_iinc (v := x56) (lv' := [(6, .int x56), (0, .ref (ad 255)), (1, .int z1), (2, .int z2), (3, .int y15_s0), (4, .int y43_l4), (5, .int y102_s0), (7, .int r35)]) hx hb dX11_sends_194 hl (k := 6) rfl (by rw [ex56]; rfl) (by decide) rfl (fun ls hl => ?_)
                            refine lv_goto (tgt := 107) hx hb dX11_sends_197 (by decide) ?_
                            exact ih107 x56 _ _ _ _ (In.mono hb57 (by decide) (by decide)) hP hD hS hT hfr (lv_sub hl [1, 2, 3, 4, 5, 6, 0] rfl) (msu et58 (by decide) hmz107)
                          refine lv_icmp_eq (tgt := 194) hx hb dX11_sends_148 (by decide) (fun c59 => ?_) (fun c59 => ?_)
                          ·
                            have cc60 : r35.toInt = (2 : Int32).toInt := congrArg Int32.toInt c59
                            have hb61 : In r35 2 2 := In.eq1 (In.full r35) (⟨by decide, by decide⟩ : In 2 2 2) cc60 (by omega) (by omega)
                            exact hJ194 _ _ _ _ hP hD hS hT hfr hf51 (lv_sub hl [1, 2, 3, 4, 5, 6, 7, 0] rfl)
                          ·
                            refine lv_iload hx hb dX11_sends_151 (lv_at hl 5 rfl) ?_
                            refine lv_iload hx hb dX11_sends_153 (lv_at hl 7 rfl) ?_
                            refine lv_icmp_ne (tgt := 161) hx hb dX11_sends_155 (by decide) (fun c62 => ?_) (fun c62 => ?_)
                            ·
                              refine lv_aload_n hx hb dX11_sends_161 rfl (lv_at hl 1 rfl) ?_
                              refine lv_dup hx hb dX11_sends_162 rfl ?_
                              refine pl_get (v := .int v37_40) hx hb hts (fun w h => mT (inX11 w h)) hown hG.1 hP (hst.1 255 (by decide)) hf54 rfl 37 (by decide) (hts _ (mT wg_1373)) (fun _ h => h) rfl dX11_sends_163 ?_
                              refine lv_iconst (v := 1) hx hb dX11_sends_166 (by decide) ?_
                              refine lv_iadd hx hb dX11_sends_167 ?_
                              refine lv_topi (fun x63 ex63 => ?_)
                              refine pl_put (ty := .int) (v := .int x63) (fs' := [.int v0_40, .ref (ad 256), .int v2_40, .int v3_40, .int v4_40, .int v5_40, .int v6_40, .ref (ad 257), .int v8_40, .int v9_40, .ref (ad 258), .ref (ad 259), .int v12_40, .int v13_40, .int v14_40, .int v15_40, .int v16_40, .int v17_40, .int v18_40, .int v19_40, .int v20_40, .long v21_40, .long v22_40, .int v23_40, .ref (ad 260), .int v25_40, .ref (ad 261), .ref (ad 262), .ref (ad 263), .ref (ad 264), .ref (ad 265), .ref (ad 266), .ref (ad 267), .ref (ad 268), .ref (ad 269), .ref (ad 270), .int v36_40, .int x63, .int v38_40, .int v39_40, .int v40_40, .ref (ad 271), .ref (ad 272), .ref (ad 273), .ref (ad 274), .long v45_40, .long v46_40, .int v47_40, .int v48_40, .ref (ad 275), .int v50_40, .int v51_40, .ref (ad 276), .int v53_40, .ref (ad 277), .int v55_40]) hx hb hts (fun w h => mT (inX11 w h)) tyX11 tyX11_ok nmX11 hown hG.1 hP hD hS (hst.1 255 (by decide)) hf54 rfl 37 (by decide) (hts _ (mT wg_1373)) (fun _ h => h) rfl (by decide +kernel) (rfl) (rfl) (Nat.le_of_ble_eq_true rfl) rfl dX11_sends_168 (fun H locs f64 hf65 ho66 hP hD hS => ?_)
                              have hf67 := (ho66 (ad 268) (hst.ne (by decide) (by decide) (by decide))).trans hf51
                              have hfr : (∀ b, b ≠ (ad 255) → b ≠ (ad 268) → f64 b = f b) := fun b z0_ z1_ => (ho66 b z0_).trans (hfr b z0_ z1_)
                              refine lv_aload_n hx hb dX11_sends_171 rfl (lv_at hl 1 rfl) ?_
                              refine lv_dup hx hb dX11_sends_172 rfl ?_
                              refine pl_get (v := .int v38_40) hx hb hts (fun w h => mT (inX11 w h)) hown hG.1 hP (hst.1 255 (by decide)) hf65 rfl 38 (by decide) (hts _ (mT wg_1374)) (fun _ h => h) rfl dX11_sends_173 ?_
                              refine lv_aload_n hx hb dX11_sends_176 rfl (lv_at hl 1 rfl) ?_
                              refine lv_iload hx hb dX11_sends_177 (lv_at hl 5 rfl) ?_
                              have hT := TI.updM hT hst (k := 0) (by decide) hf65 ho66 ⟨v0_40, v2_40, v3_40, v4_40, v5_40, v6_40, v8_40, v9_40, v12_40, v13_40, v14_40, v15_40, v16_40, v17_40, v18_40, v19_40, v20_40, v21_40, v22_40, v23_40, v25_40, v36_40, x63, v38_40, v39_40, v40_40, v45_40, v46_40, v47_40, v48_40, v50_40, v51_40, v53_40, v55_40, rfl, hv0_40, hv2_40, hv3_40, hv4_40, hv5_40, hv6_40, hv8_40, hv12_40, hv13_40, hv14_40, hg14_40, (In.mono hb42 (by decide) (by decide)), hg15_40, hv17_40, hg17_40, hv20_40, hv23_40, hg23_40, hv25_40, hv36_40, hv47_40, hv48_40, hv53_40, hv55_40⟩
                              refine call_i (run_V (rm := rm_X11_isLiar) hx hb hml hown hts (s_X11_isLiar l g ad th _ _ _ y43_l4 hst hT ) cV_X11_isLiar wg_1664 ⟨Nat.le_of_ble_eq_true rfl, Nat.le_of_ble_eq_true rfl⟩ hG hE hA hP hD hS (hst.1 255 (by decide)) hf65 rfl rfl hl.1 (As := [.int y43_l4]) (rest := [.int v38_40, .ref (ad 255)]) rfl (Nat.le_of_ble_eq_true rfl) dX11_sends_179 ⟨Nat.le_of_ble_eq_true rfl, Nat.le_of_ble_eq_true rfl⟩) hA hD hS (fun r68 L69 f70 H locs hp71 hP hD hS => ?_)
                              obtain ⟨eL72L, eL72T, eL72R⟩ := hp71
                              have eL72L : L69 = L := eL72L
                              have eL72T : f70 = f64 := eL72T
                              rw [eL72L, eL72T] at hP hD
                              have eL72R : In r68 0 1 := eL72R
                              have hJ190 : ∀ (y190_s0 : Int32) (H : Heap) (locs : List Loc) (ls : Array Slot), In y190_s0 0 1 → va_P g.1 vwCl (va_pl L f64) H → va_D A (va_pl L f64) → va_S A s.heap H locs → lv_has ls 8 [(0, .ref (ad 255)), (1, .int z1), (2, .int z2), (3, .int y15_s0), (4, .int y43_l4), (5, .int y102_s0), (6, .int y107_l6), (7, .int r35)] → W p l e rm_X11_sends s m [.ref (ad 255), .int z1, .int z2].toArray below meth c H locs 0 0 (MQ below (va_Qv (po_X11_sends g ad th L f z1 z2) (PstB g A) A) [.ref (ad 255), .int z1, .int z2].toArray s rm_X11_sends.cells rm_X11_sends.slots A) (F0 m 190 ls [.int y190_s0, .int v38_40, .ref (ad 255)]) := by
                                intro y190_s0 H locs ls hy190_s0 hP hD hS hl
                                refine lv_iadd hx hb dX11_sends_190 ?_
                                refine lv_topi (fun x73 ex73 => ?_)
                                refine pl_put (ty := .int) (v := .int x73) (fs' := [.int v0_40, .ref (ad 256), .int v2_40, .int v3_40, .int v4_40, .int v5_40, .int v6_40, .ref (ad 257), .int v8_40, .int v9_40, .ref (ad 258), .ref (ad 259), .int v12_40, .int v13_40, .int v14_40, .int v15_40, .int v16_40, .int v17_40, .int v18_40, .int v19_40, .int v20_40, .long v21_40, .long v22_40, .int v23_40, .ref (ad 260), .int v25_40, .ref (ad 261), .ref (ad 262), .ref (ad 263), .ref (ad 264), .ref (ad 265), .ref (ad 266), .ref (ad 267), .ref (ad 268), .ref (ad 269), .ref (ad 270), .int v36_40, .int x63, .int x73, .int v39_40, .int v40_40, .ref (ad 271), .ref (ad 272), .ref (ad 273), .ref (ad 274), .long v45_40, .long v46_40, .int v47_40, .int v48_40, .ref (ad 275), .int v50_40, .int v51_40, .ref (ad 276), .int v53_40, .ref (ad 277), .int v55_40]) hx hb hts (fun w h => mT (inX11 w h)) tyX11 tyX11_ok nmX11 hown hG.1 hP hD hS (hst.1 255 (by decide)) hf65 rfl 38 (by decide) (hts _ (mT wg_1374)) (fun _ h => h) rfl (by decide +kernel) (rfl) (rfl) (Nat.le_of_ble_eq_true rfl) rfl dX11_sends_191 (fun H locs f74 hf75 ho76 hP hD hS => ?_)
                                have hf77 := (ho76 (ad 268) (hst.ne (by decide) (by decide) (by decide))).trans hf67
                                have hfr : (∀ b, b ≠ (ad 255) → b ≠ (ad 268) → f74 b = f b) := fun b z0_ z1_ => (ho76 b z0_).trans (hfr b z0_ z1_)
                                have hT := TI.updM hT hst (k := 0) (by decide) hf75 ho76 ⟨v0_40, v2_40, v3_40, v4_40, v5_40, v6_40, v8_40, v9_40, v12_40, v13_40, v14_40, v15_40, v16_40, v17_40, v18_40, v19_40, v20_40, v21_40, v22_40, v23_40, v25_40, v36_40, x63, x73, v39_40, v40_40, v45_40, v46_40, v47_40, v48_40, v50_40, v51_40, v53_40, v55_40, rfl, hv0_40, hv2_40, hv3_40, hv4_40, hv5_40, hv6_40, hv8_40, hv12_40, hv13_40, hv14_40, hg14_40, (In.mono hb42 (by decide) (by decide)), hg15_40, hv17_40, hg17_40, hv20_40, hv23_40, hg23_40, hv25_40, hv36_40, hv47_40, hv48_40, hv53_40, hv55_40⟩
                                exact hJ194 _ _ _ _ hP hD hS hT hfr hf77 (lv_sub hl [0, 1, 2, 3, 4, 5, 6, 7] rfl)
                              refine lv_if_eq (tgt := 189) hx hb dX11_sends_182 (by decide) (fun c78 => ?_) (fun c78 => ?_)
                              ·
                                have cc79 : r68.toInt = (0 : Int32).toInt := congrArg Int32.toInt c78
                                have hb80 : In r68 0 0 := In.eq1 eL72R (⟨by decide, by decide⟩ : In 0 0 0) cc79 (by omega) (by omega)
                                refine lv_iconst (v := 1) hx hb dX11_sends_189 (by decide) ?_
                                exact hJ190 1 _ _ _ (⟨by decide, by decide⟩ : In 1 0 1) hP hD hS (lv_sub hl [1, 2, 3, 4, 5, 6, 7, 0] rfl)
                              ·
                                have cc81 : r68.toInt ≠ (0 : Int32).toInt := i32_ne c78
                                have hb82 : In r68 1 1 := In.ne1 eL72R (⟨by decide, by decide⟩ : In 0 0 0) cc81 (by omega) (by omega)
                                refine lv_iconst (v := 0) hx hb dX11_sends_185 (by decide) ?_
                                refine lv_goto (tgt := 190) hx hb dX11_sends_186 (by decide) ?_
                                exact hJ190 0 _ _ _ (⟨by decide, by decide⟩ : In 0 0 1) hP hD hS (lv_sub hl [1, 2, 3, 4, 5, 6, 7, 0] rfl)
                            ·
                              refine lv_goto (tgt := 194) hx hb dX11_sends_158 (by decide) ?_
                              exact hJ194 _ _ _ _ hP hD hS hT hfr hf51 (lv_sub hl [1, 2, 3, 4, 5, 6, 7, 0] rfl)
                    exact hJ107 ((2147483647 - (0 : Int32).toInt).toNat + 1) 0 _ _ _ _ (⟨by decide, by decide⟩ : In 0 0 2147483647) hP hD hS hT hfr (lv_sub hl [2, 3, 4, 5, 6, 1, 0] rfl) (msI _)
                  have hJ85 : ∀ (H : Heap) (locs : List Loc) (ls : Array Slot), va_P g.1 vwCl (va_pl L f_43) H → va_D A (va_pl L f_43) → va_S A s.heap H locs → lv_has ls 8 [(0, .ref (ad 255)), (1, .int z1), (2, .int z2), (3, .int y15_s0), (4, .int y43_l4)] → W p l e rm_X11_sends s m [.ref (ad 255), .int z1, .int z2].toArray below meth c H locs 0 0 (MQ below (va_Qv (po_X11_sends g ad th L f z1 z2) (PstB g A) A) [.ref (ad 255), .int z1, .int z2].toArray s rm_X11_sends.cells rm_X11_sends.slots A) (F0 m 85 ls []) := by
                    intro H locs ls hP hD hS hl
                    refine lv_aload_n hx hb dX11_sends_85 rfl (lv_at hl 0 rfl) ?_
                    refine pl_get (v := .ref (ad 261)) hx hb hts (fun w h => mT (inX11 w h)) hown hG.1 hP (hst.1 255 (by decide)) hf17 rfl 26 (by decide) (hts _ (mT wg_1362)) (fun _ h => h) rfl dX11_sends_86 ?_
                    refine lv_iload hx hb dX11_sends_89 (lv_at hl 4 rfl) ?_
                    obtain ⟨rw83, hf84⟩ := hT.2.2 6 (by decide)
                    have hin85 : vp_in y43_l4 9 := In.inb hb23 (by decide) (by decide)
                    refine pl_iald hx hb hG.1 hP (hst.1 261 (by decide)) 0 hf84 rfl hin85 dX11_sends_91 ?_
                    refine lv_topi (fun x86 ex86 => ?_)
                    refine lv_goto (tgt := 102) hx hb dX11_sends_92 (by decide) ?_
                    exact hJ102 x86 _ _ _ (In.full x86) hP hD hS (lv_sub hl [0, 1, 2, 3, 4] rfl)
                  refine lv_if_eq (tgt := 85) hx hb dX11_sends_71 (by decide) (fun c87 => ?_) (fun c87 => ?_)
                  ·
                    have cc88 : z2.toInt = (0 : Int32).toInt := congrArg Int32.toInt c87
                    have hb89 : In z2 0 0 := In.eq1 (In.full z2) (⟨by decide, by decide⟩ : In 0 0 0) cc88 (by omega) (by omega)
                    exact hJ85 _ _ _ hP hD hS (lv_sub hl [0, 1, 2, 3, 4] rfl)
                  ·
                    refine lv_aload_n hx hb dX11_sends_74 rfl (lv_at hl 0 rfl) ?_
                    refine pl_get (v := .int v14_16) hx hb hts (fun w h => mT (inX11 w h)) hown hG.1 hP (hst.1 255 (by decide)) hf17 rfl 14 (by decide) (hts _ (mT wg_1350)) (fun _ h => h) rfl dX11_sends_75 ?_
                    have hJ95 : ∀ (H : Heap) (locs : List Loc) (ls : Array Slot), va_P g.1 vwCl (va_pl L f_43) H → va_D A (va_pl L f_43) → va_S A s.heap H locs → lv_has ls 8 [(0, .ref (ad 255)), (1, .int z1), (2, .int z2), (3, .int y15_s0), (4, .int y43_l4)] → W p l e rm_X11_sends s m [.ref (ad 255), .int z1, .int z2].toArray below meth c H locs 0 0 (MQ below (va_Qv (po_X11_sends g ad th L f z1 z2) (PstB g A) A) [.ref (ad 255), .int z1, .int z2].toArray s rm_X11_sends.cells rm_X11_sends.slots A) (F0 m 95 ls []) := by
                      intro H locs ls hP hD hS hl
                      refine lv_aload_n hx hb dX11_sends_95 rfl (lv_at hl 0 rfl) ?_
                      refine pl_get (v := .ref (ad 263)) hx hb hts (fun w h => mT (inX11 w h)) hown hG.1 hP (hst.1 255 (by decide)) hf17 rfl 28 (by decide) (hts _ (mT wg_1364)) (fun _ h => h) rfl dX11_sends_96 ?_
                      refine lv_iload hx hb dX11_sends_99 (lv_at hl 4 rfl) ?_
                      obtain ⟨rw90, hf91⟩ := hT.2.2 8 (by decide)
                      have hin92 : vp_in y43_l4 9 := In.inb hb23 (by decide) (by decide)
                      refine pl_iald hx hb hG.1 hP (hst.1 263 (by decide)) 0 hf91 rfl hin92 dX11_sends_101 ?_
                      refine lv_topi (fun x93 ex93 => ?_)
                      exact hJ102 x93 _ _ _ (In.full x93) hP hD hS (lv_sub hl [0, 1, 2, 3, 4] rfl)
                    refine lv_if_ne (tgt := 95) hx hb dX11_sends_78 (by decide) (fun c94 => ?_) (fun c94 => ?_)
                    ·
                      have cc95 : v14_16.toInt ≠ (0 : Int32).toInt := i32_ne c94
                      have hb96 : In v14_16 1 1 := In.ne1 hv14_16 (⟨by decide, by decide⟩ : In 0 0 0) cc95 (by omega) (by omega)
                      exact hJ95 _ _ _ hP hD hS (lv_sub hl [0, 1, 2, 3, 4] rfl)
                    ·
                      have cc97 : v14_16.toInt = (0 : Int32).toInt := congrArg Int32.toInt c94
                      have hb98 : In v14_16 0 0 := In.eq1 hv14_16 (⟨by decide, by decide⟩ : In 0 0 0) cc97 (by omega) (by omega)
                      refine lv_iload_n hx hb dX11_sends_81 rfl (lv_at hl 3 rfl) ?_
                      refine lv_if_eq (tgt := 95) hx hb dX11_sends_82 (by decide) (fun c99 => ?_) (fun c99 => ?_)
                      ·
                        have cc100 : y15_s0.toInt = (0 : Int32).toInt := congrArg Int32.toInt c99
                        have hb101 : In y15_s0 0 0 := In.eq1 hy15_s0 (⟨by decide, by decide⟩ : In 0 0 0) cc100 (by omega) (by omega)
                        exact hJ95 _ _ _ hP hD hS (lv_sub hl [0, 1, 2, 3, 4] rfl)
                      ·
                        have cc102 : y15_s0.toInt ≠ (0 : Int32).toInt := i32_ne c99
                        have hb103 : In y15_s0 1 1 := In.ne1 hy15_s0 (⟨by decide, by decide⟩ : In 0 0 0) cc102 (by omega) (by omega)
                        exact hJ85 _ _ _ hP hD hS (lv_sub hl [0, 1, 2, 3, 4] rfl)
                refine lv_if_eq (tgt := 70) hx hb dX11_sends_53 (by decide) (fun c104 => ?_) (fun c104 => ?_)
                ·
                  have cc105 : y15_s0.toInt = (0 : Int32).toInt := congrArg Int32.toInt c104
                  have hb106 : In y15_s0 0 0 := In.eq1 hy15_s0 (⟨by decide, by decide⟩ : In 0 0 0) cc105 (by omega) (by omega)
                  exact hJ70 _ _ _ hP hD hS (lv_sub hl [0, 1, 2, 3, 4] rfl)
                ·
                  have cc107 : y15_s0.toInt ≠ (0 : Int32).toInt := i32_ne c104
                  have hb108 : In y15_s0 1 1 := In.ne1 hy15_s0 (⟨by decide, by decide⟩ : In 0 0 0) cc107 (by omega) (by omega)
                  refine lv_iload hx hb dX11_sends_56 (lv_at hl 4 rfl) ?_
                  refine lv_iload_n hx hb dX11_sends_58 rfl (lv_at hl 1 rfl) ?_
                  refine lv_aload_n hx hb dX11_sends_59 rfl (lv_at hl 0 rfl) ?_
                  refine pl_get (v := .int v15_16) hx hb hts (fun w h => mT (inX11 w h)) hown hG.1 hP (hst.1 255 (by decide)) hf17 rfl 15 (by decide) (hts _ (mT wg_1351)) (fun _ h => h) rfl dX11_sends_60 ?_
                  refine lv_irem hx hb dX11_sends_63 (In.ne0 hb18 (by decide)) ?_
                  refine lv_topi (fun x109 ex109 => ?_)
                  have hb110 : In x109 0 8 := ex109 ▸ In.rem hz1 hb18 (by decide) (by decide) (by decide)
                  refine lv_icmp_eq (tgt := 70) hx hb dX11_sends_64 (by decide) (fun c111 => ?_) (fun c111 => ?_)
                  ·
                    exact hJ70 _ _ _ hP hD hS (lv_sub hl [0, 1, 2, 3, 4] rfl)
                  ·
                    refine lv_goto (tgt := 200) hx hb dX11_sends_67 (by decide) ?_
                    exact hJ200 _ _ _ _ hP hD hS hT hfr (lv_sub hl [0, 1, 2, 3, 4] rfl)
          exact hJ43 ((2147483647 - (0 : Int32).toInt).toNat + 1) 0 _ _ _ _ (⟨by decide, by decide⟩ : In 0 0 2147483647) hP hD hS hT hfr (lv_sub hl [1, 2, 3, 4, 0] rfl) (msI _)
        ·
          have cc112 : y19_l4.toInt < (81 : Int32).toInt := i32_nle c13
          have hb113 : In y19_l4 0 80 := In.lt1 hy19_l4 (⟨by decide, by decide⟩ : In 81 81 81) cc112 (by omega) (by omega)
          refine lv_aload_n hx hb dX11_sends_26 rfl (lv_at hl 0 rfl) ?_
          refine pl_get (v := .ref (ad 268)) hx hb hts (fun w h => mT (inX11 w h)) hown hG.1 hP (hst.1 255 (by decide)) hf12 rfl 33 (by decide) (hts _ (mT wg_1369)) (fun _ h => h) rfl dX11_sends_27 ?_
          refine lv_iload hx hb dX11_sends_30 (lv_at hl 4 rfl) ?_
          refine lv_iconst (v := (-1)) hx hb dX11_sends_32 (by decide) ?_
          obtain ⟨rw114, hf115⟩ := hT.2.2 13 (by decide)
          refine pl_iastE hx hb hG.1 hP hD hS (hst.1 268 (by decide)) 0 hf115 rfl (In.inb hb113 (by decide) (by decide)) dX11_sends_33 (fun H locs f116 r119 er119 hf117 ho118 hP hD hS => ?_)
          have hf120 := (ho118 (ad 255) (hst.ne (by decide) (by decide) (by decide))).trans hf12
          have hfr : (∀ b, b ≠ (ad 255) → b ≠ (ad 268) → f116 b = f b) := fun b z0_ z1_ => (ho118 b z1_).trans (hfr b z0_ z1_)
          obtain ⟨x121, ex121⟩ : ∃ y : Int32, y = y19_l4 + 1 := ⟨_, rfl⟩
          have hb122 : In x121 1 81 := ex121 ▸ In.add hb113 (⟨by decide, by decide⟩ : In 1 1 1) (by decide) (by decide) (by decide) (by decide)
          have et123 : x121.toInt = y19_l4.toInt + 1 := In.adde ex121 hb113 (k := 1) (by decide) (by decide) (by decide)
          refine lv_iinc (v := x121) (lv' := [(4, .int x121), (0, .ref (ad 255)), (1, .int z1), (2, .int z2), (3, .int y15_s0)]) hx hb dX11_sends_34 hl (k := 4) rfl (by rw [ex121]; rfl) (by decide) rfl (fun ls hl => ?_)
          have hT := TI.updM hT hst (k := 13) (by decide) hf117 ho118 ⟨r119, rfl⟩
          refine lv_goto (tgt := 19) hx hb dX11_sends_37 (by decide) ?_
          exact ih19 x121 _ _ _ _ (In.mono hb122 (by decide) (by decide)) hP hD hS hT hfr hf120 (lv_sub hl [1, 2, 3, 4, 0] rfl) (msu et123 (by decide) hmz19)
    exact hJ19 ((81 - (0 : Int32).toInt).toNat + 1) 0 _ _ _ _ (⟨by decide, by decide⟩ : In 0 0 81) hP hD hS hT hfr hf2 (lv_sub hl [2, 3, 4, 1, 0] rfl) (msI _)
  refine lv_icmp_ne (tgt := 14) hx hb dX11_sends_7 (by decide) (fun c124 => ?_) (fun c124 => ?_)
  ·
    refine lv_iconst (v := 0) hx hb dX11_sends_14 (by decide) ?_
    exact hJ15 0 _ _ _ (⟨by decide, by decide⟩ : In 0 0 1) hP hD hS (lv_sub hl [0, 1, 2] rfl)
  ·
    have cc125 : z2.toInt = x9.toInt := congrArg Int32.toInt c124
    have hb126 : In z2 1 2 := In.eq1 (In.full z2) hb10 cc125 (by omega) (by omega)
    refine lv_iconst (v := 1) hx hb dX11_sends_10 (by decide) ?_
    refine lv_goto (tgt := 15) hx hb dX11_sends_11 (by decide) ?_
    exact hJ15 1 _ _ _ (⟨by decide, by decide⟩ : In 1 0 1) hP hD hS (lv_sub hl [0, 1, 2] rfl)

abbrev rm_X11_countOf : Room := { frames := 0, cells := 0, slots := 0, locals := 0 }
abbrev po_X11_countOf (g : GG) (ad : Nat → Nat) (th : Nat → Int) (L : List Nat) (f : HP) (z1 : Int32) (z2 : Int32) : Int32 → (List Nat × HP) → Prop := fun _ u => u.1 = L ∧ u.2 = f
set_option maxHeartbeats 4000000 in
set_option maxRecDepth 100000 in
theorem s_X11_countOf (l : Launch) (g : GG) (ad : Nat → Nat) (th : Nat → Int) (L : List Nat) (f : HP) (sz : Nat) (z1 : Int32) (z2 : Int32) (hst : ST ad L) (hT : TI g ad th f) (hz1 : In z1 0 8) : MtI l g yX11_countOf cX11_countOf 5 (some .int) rm_X11_countOf [.ref (ad 255), .int z1, .int z2] L f sz (po_X11_countOf g ad th L f z1 z2) := by
  refine MtI.of (by decide +kernel) (Nat.le_of_ble_eq_true rfl) ?_
  intro p e s m below meth c A hEn hP hD hS ls hl
  obtain ⟨hx, hb, hr, hml, hown, hlocks, hts, hG, hA, hE, hnm⟩ := hEn
  have hown : s.vm.findClass "RulerWordModel" = some m.cls := hown
  have hl : lv_has ls 5 [(0, .ref (ad 255)), (1, .int z1), (2, .int z2)] := hl
  refine lv_iconst (v := 0) hx hb dX11_countOf_0 (by decide) ?_
  refine lv_istore_n (lv' := [(3, .int 0), (0, .ref (ad 255)), (1, .int z1), (2, .int z2)]) hx hb dX11_countOf_1 rfl hl (by decide) rfl (fun ls hl => ?_)
  refine lv_iconst (v := 0) hx hb dX11_countOf_2 (by decide) ?_
  refine lv_istore (lv' := [(4, .int 0), (3, .int 0), (0, .ref (ad 255)), (1, .int z1), (2, .int z2)]) hx hb dX11_countOf_3 hl (by decide) rfl (fun ls hl => ?_)
  have hJ5 : ∀ (k5 : Nat) (y5_l3 : Int32) (y5_l4 : Int32) (H : Heap) (locs : List Loc) (ls : Array Slot), In y5_l3 (-2147483648) 2147483647 → In y5_l4 0 9 → va_P g.1 vwCl (va_pl L f) H → va_D A (va_pl L f) → va_S A s.heap H locs → lv_has ls 5 [(0, .ref (ad 255)), (1, .int z1), (2, .int z2), (3, .int y5_l3), (4, .int y5_l4)] → 9 - y5_l4.toInt < ((k5 : Nat) : Int) → W p l e rm_X11_countOf s m [.ref (ad 255), .int z1, .int z2].toArray below meth c H locs 0 0 (MQ below (va_Qi (po_X11_countOf g ad th L f z1 z2) (PstB g A) A) [.ref (ad 255), .int z1, .int z2].toArray s rm_X11_countOf.cells rm_X11_countOf.slots A) (F0 m 5 ls []) := by
    intro k5
    induction k5 with
    | zero =>
      intro y5_l3 y5_l4 H locs ls hy5_l3 hy5_l4 hP hD hS hl hmz5
      exact ms0 hy5_l4 hmz5
    | succ k5 ih5 =>
      intro y5_l3 y5_l4 H locs ls hy5_l3 hy5_l4 hP hD hS hl hmz5
      refine lv_iload hx hb dX11_countOf_5 (lv_at hl 4 rfl) ?_
      refine lv_aload_n hx hb dX11_countOf_7 rfl (lv_at hl 0 rfl) ?_
      obtain ⟨v0_1, v2_1, v3_1, v4_1, v5_1, v6_1, v8_1, v9_1, v12_1, v13_1, v14_1, v15_1, v16_1, v17_1, v18_1, v19_1, v20_1, v21_1, v22_1, v23_1, v25_1, v36_1, v37_1, v38_1, v39_1, v40_1, v45_1, v46_1, v47_1, v48_1, v50_1, v51_1, v53_1, v55_1, hf2, hv0_1, hv2_1, hv3_1, hv4_1, hv5_1, hv6_1, hv8_1, hv12_1, hv13_1, hv14_1, hg14_1, hv15_1, hg15_1, hv17_1, hg17_1, hv20_1, hv23_1, hg23_1, hv25_1, hv36_1, hv47_1, hv48_1, hv53_1, hv55_1⟩ := hT.2.2 0 (by decide)
      refine pl_get (v := .int v15_1) hx hb hts (fun w h => mT (inX11 w h)) hown hG.1 hP (hst.1 255 (by decide)) hf2 rfl 15 (by decide) (hts _ (mT wg_1351)) (fun _ h => h) rfl dX11_countOf_8 ?_
      refine lv_icmp_ge (tgt := 44) hx hb dX11_countOf_11 (by decide) (fun c3 => ?_) (fun c3 => ?_)
      ·
        refine lv_iload_n hx hb dX11_countOf_44 rfl (lv_at hl 3 rfl) ?_
        exact ret_i (ty := .int) hx hb hr hlocks (rfl) hP hD hS (Nat.le_of_ble_eq_true rfl) (Nat.le_of_ble_eq_true rfl) (⟨rfl, rfl⟩) dX11_countOf_45
      ·
        have cc4 : y5_l4.toInt < v15_1.toInt := i32_nle c3
        have hb5 : In y5_l4 0 8 := In.lt1 hy5_l4 hv15_1 cc4 (by omega) (by omega)
        have hb6 : In v15_1 1 9 := In.lt2 hy5_l4 hv15_1 cc4 (by omega) (by omega)
        refine lv_iload_n hx hb dX11_countOf_14 rfl (lv_at hl 3 rfl) ?_
        refine lv_aload_n hx hb dX11_countOf_15 rfl (lv_at hl 0 rfl) ?_
        refine pl_get (v := .ref (ad 268)) hx hb hts (fun w h => mT (inX11 w h)) hown hG.1 hP (hst.1 255 (by decide)) hf2 rfl 33 (by decide) (hts _ (mT wg_1369)) (fun _ h => h) rfl dX11_countOf_16 ?_
        refine lv_bipush (v := 9) hx hb dX11_countOf_19 (by decide) ?_
        refine lv_iload hx hb dX11_countOf_21 (lv_at hl 4 rfl) ?_
        refine lv_imul hx hb dX11_countOf_23 ?_
        refine lv_topi (fun x7 ex7 => ?_)
        have hb8 : In x7 0 72 := ex7 ▸ In.mul (⟨by decide, by decide⟩ : In 9 9 9) hb5 (by decide) (by decide) (by decide) (by decide) (by decide)
        refine lv_iload_n hx hb dX11_countOf_24 rfl (lv_at hl 1 rfl) ?_
        refine lv_iadd hx hb dX11_countOf_25 ?_
        refine lv_topi (fun x9 ex9 => ?_)
        have hb10 : In x9 0 80 := ex9 ▸ In.add hb8 hz1 (by decide) (by decide) (by decide) (by decide)
        have et11 : x9.toInt = x7.toInt + z1.toInt := In.add2e ex9 hb8 hz1 (by decide) (by decide)
        obtain ⟨rw12, hf13⟩ := hT.2.2 13 (by decide)
        have hin14 : vp_in x9 81 := In.inb hb10 (by decide) (by decide)
        refine pl_iald hx hb hG.1 hP (hst.1 268 (by decide)) 0 hf13 rfl hin14 dX11_countOf_26 ?_
        refine lv_topi (fun x15 ex15 => ?_)
        refine lv_iload_n hx hb dX11_countOf_27 rfl (lv_at hl 2 rfl) ?_
        have hJ36 : ∀ (y36_s0 : Int32) (H : Heap) (locs : List Loc) (ls : Array Slot), In y36_s0 0 1 → va_P g.1 vwCl (va_pl L f) H → va_D A (va_pl L f) → va_S A s.heap H locs → lv_has ls 5 [(0, .ref (ad 255)), (1, .int z1), (2, .int z2), (3, .int y5_l3), (4, .int y5_l4)] → W p l e rm_X11_countOf s m [.ref (ad 255), .int z1, .int z2].toArray below meth c H locs 0 0 (MQ below (va_Qi (po_X11_countOf g ad th L f z1 z2) (PstB g A) A) [.ref (ad 255), .int z1, .int z2].toArray s rm_X11_countOf.cells rm_X11_countOf.slots A) (F0 m 36 ls [.int y36_s0, .int y5_l3]) := by
          intro y36_s0 H locs ls hy36_s0 hP hD hS hl
          refine lv_iadd hx hb dX11_countOf_36 ?_
          refine lv_topi (fun x16 ex16 => ?_)
          refine lv_istore_n (lv' := [(3, .int x16), (0, .ref (ad 255)), (1, .int z1), (2, .int z2), (4, .int y5_l4)]) hx hb dX11_countOf_37 rfl hl (by decide) rfl (fun ls hl => ?_)
          obtain ⟨x17, ex17⟩ : ∃ y : Int32, y = y5_l4 + 1 := ⟨_, rfl⟩
          have hb18 : In x17 1 9 := ex17 ▸ In.add hb5 (⟨by decide, by decide⟩ : In 1 1 1) (by decide) (by decide) (by decide) (by decide)
          have et19 : x17.toInt = y5_l4.toInt + 1 := In.adde ex17 hb5 (k := 1) (by decide) (by decide) (by decide)
          refine lv_iinc (v := x17) (lv' := [(4, .int x17), (3, .int x16), (0, .ref (ad 255)), (1, .int z1), (2, .int z2)]) hx hb dX11_countOf_38 hl (k := 4) rfl (by rw [ex17]; rfl) (by decide) rfl (fun ls hl => ?_)
          refine lv_goto (tgt := 5) hx hb dX11_countOf_41 (by decide) ?_
          exact ih5 x16 x17 _ _ _ (In.full x16) (In.mono hb18 (by decide) (by decide)) hP hD hS (lv_sub hl [2, 3, 4, 1, 0] rfl) (msu et19 (by decide) hmz5)
        refine lv_icmp_ne (tgt := 35) hx hb dX11_countOf_28 (by decide) (fun c20 => ?_) (fun c20 => ?_)
        ·
          refine lv_iconst (v := 0) hx hb dX11_countOf_35 (by decide) ?_
          exact hJ36 0 _ _ _ (⟨by decide, by decide⟩ : In 0 0 1) hP hD hS (lv_sub hl [0, 1, 2, 3, 4] rfl)
        ·
          refine lv_iconst (v := 1) hx hb dX11_countOf_31 (by decide) ?_
          refine lv_goto (tgt := 36) hx hb dX11_countOf_32 (by decide) ?_
          exact hJ36 1 _ _ _ (⟨by decide, by decide⟩ : In 1 0 1) hP hD hS (lv_sub hl [0, 1, 2, 3, 4] rfl)
  exact hJ5 ((9 - (0 : Int32).toInt).toNat + 1) 0 0 _ _ _ (⟨by decide, by decide⟩ : In 0 (-2147483648) 2147483647) (⟨by decide, by decide⟩ : In 0 0 9) hP hD hS (lv_sub hl [2, 3, 4, 1, 0] rfl) (msI _)

abbrev rm_X11_hearsAll : Room := { frames := 1, cells := 0, slots := 0, locals := 24 }
abbrev po_X11_hearsAll (g : GG) (ad : Nat → Nat) (th : Nat → Int) (L : List Nat) (f : HP) (z1 : Int32) : (List Nat × HP) → Prop := fun u => u.1 = L ∧ TI g ad th u.2 ∧ (∀ b, b ≠ (ad 265) → b ≠ (ad 269) → b ≠ (ad 263) → b ≠ (ad 264) → u.2 b = f b)
set_option maxHeartbeats 4000000 in
set_option maxRecDepth 100000 in
theorem s_X11_hearsAll (l : Launch) (g : GG) (ad : Nat → Nat) (th : Nat → Int) (L : List Nat) (f : HP) (sz : Nat) (z1 : Int32) (hst : ST ad L) (hT : TI g ad th f) (hz1 : In z1 0 8) : MtV l g yX11_hearsAll cX11_hearsAll 3 rm_X11_hearsAll [.ref (ad 255), .int z1] L f sz (po_X11_hearsAll g ad th L f z1) := by
  refine MtV.of (by decide +kernel) (Nat.le_of_ble_eq_true rfl) ?_
  intro p e s m below meth c A hEn hP hD hS ls hl
  obtain ⟨hx, hb, hr, hml, hown, hlocks, hts, hG, hA, hE, hnm⟩ := hEn
  have hown : s.vm.findClass "RulerWordModel" = some m.cls := hown
  have hl : lv_has ls 3 [(0, .ref (ad 255)), (1, .int z1)] := hl
  have hfr : (∀ b, b ≠ (ad 265) → b ≠ (ad 269) → b ≠ (ad 263) → b ≠ (ad 264) → f b = f b) := fun b z0_ z1_ z2_ z3_ => rfl
  refine lv_aload_n hx hb dX11_hearsAll_0 rfl (lv_at hl 0 rfl) ?_
  obtain ⟨v0_1, v2_1, v3_1, v4_1, v5_1, v6_1, v8_1, v9_1, v12_1, v13_1, v14_1, v15_1, v16_1, v17_1, v18_1, v19_1, v20_1, v21_1, v22_1, v23_1, v25_1, v36_1, v37_1, v38_1, v39_1, v40_1, v45_1, v46_1, v47_1, v48_1, v50_1, v51_1, v53_1, v55_1, hf2, hv0_1, hv2_1, hv3_1, hv4_1, hv5_1, hv6_1, hv8_1, hv12_1, hv13_1, hv14_1, hg14_1, hv15_1, hg15_1, hv17_1, hg17_1, hv20_1, hv23_1, hg23_1, hv25_1, hv36_1, hv47_1, hv48_1, hv53_1, hv55_1⟩ := hT.2.2 0 (by decide)
  refine pl_get (v := .ref (ad 264)) hx hb hts (fun w h => mT (inX11 w h)) hown hG.1 hP (hst.1 255 (by decide)) hf2 rfl 29 (by decide) (hts _ (mT wg_1365)) (fun _ h => h) rfl dX11_hearsAll_1 ?_
  refine lv_iload_n hx hb dX11_hearsAll_4 rfl (lv_at hl 1 rfl) ?_
  refine lv_aload_n hx hb dX11_hearsAll_5 rfl (lv_at hl 0 rfl) ?_
  refine lv_iload_n hx hb dX11_hearsAll_6 rfl (lv_at hl 1 rfl) ?_
  refine lv_iconst (v := 0) hx hb dX11_hearsAll_7 (by decide) ?_
  refine call_i (run_V (rm := rm_X11_countOf) hx hb hml hown hts (s_X11_countOf l g ad th _ _ _ z1 0 hst hT hz1) cV_X11_countOf wg_1686 ⟨Nat.le_of_ble_eq_true rfl, Nat.le_of_ble_eq_true rfl⟩ hG hE hA hP hD hS (hst.1 255 (by decide)) hf2 rfl rfl hl.1 (As := [.int z1, .int 0]) (rest := [.int z1, .ref (ad 264)]) rfl (Nat.le_of_ble_eq_true rfl) dX11_hearsAll_8 ⟨Nat.le_of_ble_eq_true rfl, Nat.le_of_ble_eq_true rfl⟩) hA hD hS (fun r3 L4 f5 H locs hp6 hP hD hS => ?_)
  obtain ⟨eL7L, eL7T⟩ := hp6
  have eL7L : L4 = L := eL7L
  have eL7T : f5 = f := eL7T
  rw [eL7L, eL7T] at hP hD
  obtain ⟨rw8, hf9⟩ := hT.2.2 9 (by decide)
  refine pl_iastE hx hb hG.1 hP hD hS (hst.1 264 (by decide)) 0 hf9 rfl (In.inb hz1 (by decide) (by decide)) dX11_hearsAll_11 (fun H locs f10 r13 er13 hf11 ho12 hP hD hS => ?_)
  have hf14 := (ho12 (ad 255) (hst.ne (by decide) (by decide) (by decide))).trans hf2
  have hfr : (∀ b, b ≠ (ad 265) → b ≠ (ad 269) → b ≠ (ad 263) → b ≠ (ad 264) → f10 b = f b) := fun b z0_ z1_ z2_ z3_ => (ho12 b z3_).trans (hfr b z0_ z1_ z2_ z3_)
  refine lv_aload_n hx hb dX11_hearsAll_12 rfl (lv_at hl 0 rfl) ?_
  refine pl_get (v := .ref (ad 265)) hx hb hts (fun w h => mT (inX11 w h)) hown hG.1 hP (hst.1 255 (by decide)) hf14 rfl 30 (by decide) (hts _ (mT wg_1366)) (fun _ h => h) rfl dX11_hearsAll_13 ?_
  refine lv_iload_n hx hb dX11_hearsAll_16 rfl (lv_at hl 1 rfl) ?_
  refine lv_aload_n hx hb dX11_hearsAll_17 rfl (lv_at hl 0 rfl) ?_
  refine lv_iload_n hx hb dX11_hearsAll_18 rfl (lv_at hl 1 rfl) ?_
  refine lv_iconst (v := 1) hx hb dX11_hearsAll_19 (by decide) ?_
  have hT := TI.updM hT hst (k := 9) (by decide) hf11 ho12 ⟨r13, rfl⟩
  refine call_i (run_V (rm := rm_X11_countOf) hx hb hml hown hts (s_X11_countOf l g ad th _ _ _ z1 1 hst hT hz1) cV_X11_countOf wg_1686 ⟨Nat.le_of_ble_eq_true rfl, Nat.le_of_ble_eq_true rfl⟩ hG hE hA hP hD hS (hst.1 255 (by decide)) hf14 rfl rfl hl.1 (As := [.int z1, .int 1]) (rest := [.int z1, .ref (ad 265)]) rfl (Nat.le_of_ble_eq_true rfl) dX11_hearsAll_20 ⟨Nat.le_of_ble_eq_true rfl, Nat.le_of_ble_eq_true rfl⟩) hA hD hS (fun r15 L16 f17 H locs hp18 hP hD hS => ?_)
  obtain ⟨eL19L, eL19T⟩ := hp18
  have eL19L : L16 = L := eL19L
  have eL19T : f17 = f10 := eL19T
  rw [eL19L, eL19T] at hP hD
  obtain ⟨rw20, hf21⟩ := hT.2.2 10 (by decide)
  refine pl_iastE hx hb hG.1 hP hD hS (hst.1 265 (by decide)) 0 hf21 rfl (In.inb hz1 (by decide) (by decide)) dX11_hearsAll_23 (fun H locs f22 r25 er25 hf23 ho24 hP hD hS => ?_)
  have hf26 := (ho24 (ad 255) (hst.ne (by decide) (by decide) (by decide))).trans hf14
  have hf27 := (ho24 (ad 264) (hst.ne (by decide) (by decide) (by decide))).trans hf11
  have hfr : (∀ b, b ≠ (ad 265) → b ≠ (ad 269) → b ≠ (ad 263) → b ≠ (ad 264) → f22 b = f b) := fun b z0_ z1_ z2_ z3_ => (ho24 b z0_).trans (hfr b z0_ z1_ z2_ z3_)
  refine lv_aload_n hx hb dX11_hearsAll_24 rfl (lv_at hl 0 rfl) ?_
  refine pl_get (v := .ref (ad 264)) hx hb hts (fun w h => mT (inX11 w h)) hown hG.1 hP (hst.1 255 (by decide)) hf26 rfl 29 (by decide) (hts _ (mT wg_1365)) (fun _ h => h) rfl dX11_hearsAll_25 ?_
  refine lv_iload_n hx hb dX11_hearsAll_28 rfl (lv_at hl 1 rfl) ?_
  have hin28 : vp_in z1 9 := In.inb hz1 (by decide) (by decide)
  refine pl_iald hx hb hG.1 hP (hst.1 264 (by decide)) 0 hf27 rfl hin28 dX11_hearsAll_29 ?_
  refine lv_topi (fun x29 ex29 => ?_)
  refine lv_aload_n hx hb dX11_hearsAll_30 rfl (lv_at hl 0 rfl) ?_
  refine pl_get (v := .ref (ad 265)) hx hb hts (fun w h => mT (inX11 w h)) hown hG.1 hP (hst.1 255 (by decide)) hf26 rfl 30 (by decide) (hts _ (mT wg_1366)) (fun _ h => h) rfl dX11_hearsAll_31 ?_
  refine lv_iload_n hx hb dX11_hearsAll_34 rfl (lv_at hl 1 rfl) ?_
  have hin30 : vp_in z1 9 := In.inb hz1 (by decide) (by decide)
  refine pl_iald hx hb hG.1 hP (hst.1 265 (by decide)) 0 hf23 rfl hin30 dX11_hearsAll_35 ?_
  refine lv_topi (fun x31 ex31 => ?_)
  refine va_mmax hx hb (hml.trans hl.1.symm) hown (hts _ (mT wg_1690)) (hts _ (mT wg_875)) (hts _ (mT wg_178)) (hts _ (mT (mG 876 (by decide +kernel) rfl))) (by decide) (by decide) (by decide) (by decide) dX11_hearsAll_36 ?_
  refine lv_topi (fun x32 ex32 => ?_)
  have hb33 : In x32 (-2147483648) 2147483647 := ex32 ▸ In.max (In.full x29) (In.full x31) (by omega) (by omega)
  refine lv_istore_n (lv' := [(2, .int x32), (0, .ref (ad 255)), (1, .int z1)]) hx hb dX11_hearsAll_39 rfl hl (by decide) rfl (fun ls hl => ?_)
  refine lv_aload_n hx hb dX11_hearsAll_40 rfl (lv_at hl 1 rfl) ?_
  refine pl_get (v := .int v14_1) hx hb hts (fun w h => mT (inX11 w h)) hown hG.1 hP (hst.1 255 (by decide)) hf26 rfl 14 (by decide) (hts _ (mT wg_1350)) (fun _ h => h) rfl dX11_hearsAll_41 ?_
  have hT := TI.updM hT hst (k := 10) (by decide) hf23 ho24 ⟨r25, rfl⟩
  refine lv_if_ne (tgt := 99) hx hb dX11_hearsAll_44 (by decide) (fun c34 => ?_) (fun c34 => ?_)
  ·
    have cc35 : v14_1.toInt ≠ (0 : Int32).toInt := i32_ne c34
    have hb36 : In v14_1 1 1 := In.ne1 hv14_1 (⟨by decide, by decide⟩ : In 0 0 0) cc35 (by omega) (by omega)
    refine lv_aload_n hx hb dX11_hearsAll_99 rfl (lv_at hl 1 rfl) ?_
    refine pl_get (v := .ref (ad 263)) hx hb hts (fun w h => mT (inX11 w h)) hown hG.1 hP (hst.1 255 (by decide)) hf26 rfl 28 (by decide) (hts _ (mT wg_1364)) (fun _ h => h) rfl dX11_hearsAll_100 ?_
    refine lv_iload_n hx hb dX11_hearsAll_103 rfl (lv_at hl 2 rfl) ?_
    refine lv_aload_n hx hb dX11_hearsAll_104 rfl (lv_at hl 1 rfl) ?_
    refine pl_get (v := .ref (ad 265)) hx hb hts (fun w h => mT (inX11 w h)) hown hG.1 hP (hst.1 255 (by decide)) hf26 rfl 30 (by decide) (hts _ (mT wg_1366)) (fun _ h => h) rfl dX11_hearsAll_105 ?_
    refine lv_iload_n hx hb dX11_hearsAll_108 rfl (lv_at hl 2 rfl) ?_
    have hin37 : vp_in z1 9 := In.inb hz1 (by decide) (by decide)
    refine pl_iald hx hb hG.1 hP (hst.1 265 (by decide)) 0 hf23 rfl hin37 dX11_hearsAll_109 ?_
    refine lv_topi (fun x38 ex38 => ?_)
    obtain rfl : x31 = x38 := ex31.trans ex38.symm
    refine lv_aload_n hx hb dX11_hearsAll_110 rfl (lv_at hl 1 rfl) ?_
    refine pl_get (v := .ref (ad 264)) hx hb hts (fun w h => mT (inX11 w h)) hown hG.1 hP (hst.1 255 (by decide)) hf26 rfl 29 (by decide) (hts _ (mT wg_1365)) (fun _ h => h) rfl dX11_hearsAll_111 ?_
    refine lv_iload_n hx hb dX11_hearsAll_114 rfl (lv_at hl 2 rfl) ?_
    have hin39 : vp_in z1 9 := In.inb hz1 (by decide) (by decide)
    refine pl_iald hx hb hG.1 hP (hst.1 264 (by decide)) 0 hf27 rfl hin39 dX11_hearsAll_115 ?_
    refine lv_topi (fun x40 ex40 => ?_)
    obtain rfl : x29 = x40 := ex29.trans ex40.symm
    have hJ124 : ∀ (y124_s0 : Int32) (H : Heap) (locs : List Loc) (ls : Array Slot), In y124_s0 0 1 → va_P g.1 vwCl (va_pl L f22) H → va_D A (va_pl L f22) → va_S A s.heap H locs → lv_has ls 3 [(0, .ref (ad 255)), (1, .int z1), (2, .int x32)] → W p l e rm_X11_hearsAll s m [.ref (ad 255), .int z1].toArray below meth c H locs 0 0 (MQ below (va_Qv (po_X11_hearsAll g ad th L f z1) (PstB g A) A) [.ref (ad 255), .int z1].toArray s rm_X11_hearsAll.cells rm_X11_hearsAll.slots A) (F0 m 124 ls [.int y124_s0, .int z1, .ref (ad 263)]) := by
      intro y124_s0 H locs ls hy124_s0 hP hD hS hl
      obtain ⟨rw41, hf42⟩ := hT.2.2 8 (by decide)
      refine pl_iastE hx hb hG.1 hP hD hS (hst.1 263 (by decide)) 0 hf42 rfl (In.inb hz1 (by decide) (by decide)) dX11_hearsAll_124 (fun H locs f43 r46 er46 hf44 ho45 hP hD hS => ?_)
      have hf47 := (ho45 (ad 255) (hst.ne (by decide) (by decide) (by decide))).trans hf26
      have hf48 := (ho45 (ad 264) (hst.ne (by decide) (by decide) (by decide))).trans hf27
      have hf49 := (ho45 (ad 265) (hst.ne (by decide) (by decide) (by decide))).trans hf23
      have hfr : (∀ b, b ≠ (ad 265) → b ≠ (ad 269) → b ≠ (ad 263) → b ≠ (ad 264) → f43 b = f b) := fun b z0_ z1_ z2_ z3_ => (ho45 b z2_).trans (hfr b z0_ z1_ z2_ z3_)
      refine lv_aload_n hx hb dX11_hearsAll_125 rfl (lv_at hl 0 rfl) ?_
      refine pl_get (v := .ref (ad 269)) hx hb hts (fun w h => mT (inX11 w h)) hown hG.1 hP (hst.1 255 (by decide)) hf47 rfl 34 (by decide) (hts _ (mT wg_1370)) (fun _ h => h) rfl dX11_hearsAll_126 ?_
      refine lv_iload_n hx hb dX11_hearsAll_129 rfl (lv_at hl 1 rfl) ?_
      refine lv_iconst (v := 2) hx hb dX11_hearsAll_130 (by decide) ?_
      refine lv_iload_n hx hb dX11_hearsAll_131 rfl (lv_at hl 2 rfl) ?_
      refine lv_imul hx hb dX11_hearsAll_132 ?_
      refine lv_topi (fun x50 ex50 => ?_)
      refine lv_aload_n hx hb dX11_hearsAll_133 rfl (lv_at hl 0 rfl) ?_
      refine pl_get (v := .int v15_1) hx hb hts (fun w h => mT (inX11 w h)) hown hG.1 hP (hst.1 255 (by decide)) hf47 rfl 15 (by decide) (hts _ (mT wg_1351)) (fun _ h => h) rfl dX11_hearsAll_134 ?_
      refine lv_iconst (v := 2) hx hb dX11_hearsAll_137 (by decide) ?_
      refine lv_aload_n hx hb dX11_hearsAll_138 rfl (lv_at hl 0 rfl) ?_
      refine pl_get (v := .int v16_1) hx hb hts (fun w h => mT (inX11 w h)) hown hG.1 hP (hst.1 255 (by decide)) hf47 rfl 16 (by decide) (hts _ (mT wg_1352)) (fun _ h => h) rfl dX11_hearsAll_139 ?_
      refine lv_imul hx hb dX11_hearsAll_142 ?_
      refine lv_topi (fun x51 ex51 => ?_)
      refine lv_iadd hx hb dX11_hearsAll_143 ?_
      refine lv_topi (fun x52 ex52 => ?_)
      have hT := TI.updM hT hst (k := 8) (by decide) hf44 ho45 ⟨r46, rfl⟩
      refine lv_icmp_le (tgt := 151) hx hb dX11_hearsAll_144 (by decide) (fun c53 => ?_) (fun c53 => ?_)
      ·
        refine lv_iconst (v := 0) hx hb dX11_hearsAll_151 (by decide) ?_
        obtain ⟨rw54, hf55⟩ := hT.2.2 14 (by decide)
        refine pl_zastE hx hb hG.1 hP hD hS (hst.1 269 (by decide)) 3 hf55 rfl (In.inb hz1 (by decide) (by decide)) dX11_hearsAll_152 (fun H locs f56 r59 er59 hf57 ho58 hP hD hS => ?_)
        have hf60 := (ho58 (ad 255) (hst.ne (by decide) (by decide) (by decide))).trans hf47
        have hf61 := (ho58 (ad 264) (hst.ne (by decide) (by decide) (by decide))).trans hf48
        have hf62 := (ho58 (ad 265) (hst.ne (by decide) (by decide) (by decide))).trans hf49
        have hf63 := (ho58 (ad 263) (hst.ne (by decide) (by decide) (by decide))).trans hf44
        have hfr : (∀ b, b ≠ (ad 265) → b ≠ (ad 269) → b ≠ (ad 263) → b ≠ (ad 264) → f56 b = f b) := fun b z0_ z1_ z2_ z3_ => (ho58 b z1_).trans (hfr b z0_ z1_ z2_ z3_)
        have hT := TI.updM hT hst (k := 14) (by decide) hf57 ho58 ⟨r59, rfl⟩
        exact ret_v hx hb hr hlocks hP hD hS (Nat.le_of_ble_eq_true rfl) (Nat.le_of_ble_eq_true rfl) (⟨rfl, hT, hfr⟩) dX11_hearsAll_153
      ·
        have cc64 : x52.toInt < x50.toInt := i32_nle c53
        have hb65 : In x50 (-2147483647) 2147483647 := In.gt1 (In.full x50) (In.full x52) cc64 (by omega) (by omega)
        have hb66 : In x52 (-2147483648) 2147483646 := In.gt2 (In.full x50) (In.full x52) cc64 (by omega) (by omega)
        refine lv_iconst (v := 1) hx hb dX11_hearsAll_147 (by decide) ?_
        refine lv_goto (tgt := 152) hx hb dX11_hearsAll_148 (by decide) ?_
        obtain ⟨rw67, hf68⟩ := hT.2.2 14 (by decide)
        refine pl_zastE hx hb hG.1 hP hD hS (hst.1 269 (by decide)) 3 hf68 rfl (In.inb hz1 (by decide) (by decide)) dX11_hearsAll_152 (fun H locs f69 r72 er72 hf70 ho71 hP hD hS => ?_)
        have hf73 := (ho71 (ad 255) (hst.ne (by decide) (by decide) (by decide))).trans hf47
        have hf74 := (ho71 (ad 264) (hst.ne (by decide) (by decide) (by decide))).trans hf48
        have hf75 := (ho71 (ad 265) (hst.ne (by decide) (by decide) (by decide))).trans hf49
        have hf76 := (ho71 (ad 263) (hst.ne (by decide) (by decide) (by decide))).trans hf44
        have hfr : (∀ b, b ≠ (ad 265) → b ≠ (ad 269) → b ≠ (ad 263) → b ≠ (ad 264) → f69 b = f b) := fun b z0_ z1_ z2_ z3_ => (ho71 b z1_).trans (hfr b z0_ z1_ z2_ z3_)
        have hT := TI.updM hT hst (k := 14) (by decide) hf70 ho71 ⟨r72, rfl⟩
        exact ret_v hx hb hr hlocks hP hD hS (Nat.le_of_ble_eq_true rfl) (Nat.le_of_ble_eq_true rfl) (⟨rfl, hT, hfr⟩) dX11_hearsAll_153
    refine lv_icmp_le (tgt := 123) hx hb dX11_hearsAll_116 (by decide) (fun c77 => ?_) (fun c77 => ?_)
    ·
      refine lv_iconst (v := 0) hx hb dX11_hearsAll_123 (by decide) ?_
      exact hJ124 0 _ _ _ (⟨by decide, by decide⟩ : In 0 0 1) hP hD hS (lv_sub hl [1, 2, 0] rfl)
    ·
      have cc78 : x29.toInt < x31.toInt := i32_nle c77
      have hb79 : In x31 (-2147483647) 2147483647 := In.gt1 (In.full x31) (In.full x29) cc78 (by omega) (by omega)
      have hb80 : In x29 (-2147483648) 2147483646 := In.gt2 (In.full x31) (In.full x29) cc78 (by omega) (by omega)
      refine lv_iconst (v := 1) hx hb dX11_hearsAll_119 (by decide) ?_
      refine lv_goto (tgt := 124) hx hb dX11_hearsAll_120 (by decide) ?_
      exact hJ124 1 _ _ _ (⟨by decide, by decide⟩ : In 1 0 1) hP hD hS (lv_sub hl [1, 2, 0] rfl)
  ·
    have cc81 : v14_1.toInt = (0 : Int32).toInt := congrArg Int32.toInt c34
    have hb82 : In v14_1 0 0 := In.eq1 hv14_1 (⟨by decide, by decide⟩ : In 0 0 0) cc81 (by omega) (by omega)
    refine lv_aload_n hx hb dX11_hearsAll_47 rfl (lv_at hl 1 rfl) ?_
    refine pl_get (v := .ref (ad 263)) hx hb hts (fun w h => mT (inX11 w h)) hown hG.1 hP (hst.1 255 (by decide)) hf26 rfl 28 (by decide) (hts _ (mT wg_1364)) (fun _ h => h) rfl dX11_hearsAll_48 ?_
    refine lv_iload_n hx hb dX11_hearsAll_51 rfl (lv_at hl 2 rfl) ?_
    refine lv_aload_n hx hb dX11_hearsAll_52 rfl (lv_at hl 1 rfl) ?_
    refine pl_get (v := .ref (ad 264)) hx hb hts (fun w h => mT (inX11 w h)) hown hG.1 hP (hst.1 255 (by decide)) hf26 rfl 29 (by decide) (hts _ (mT wg_1365)) (fun _ h => h) rfl dX11_hearsAll_53 ?_
    refine lv_iload_n hx hb dX11_hearsAll_56 rfl (lv_at hl 2 rfl) ?_
    have hin83 : vp_in z1 9 := In.inb hz1 (by decide) (by decide)
    refine pl_iald hx hb hG.1 hP (hst.1 264 (by decide)) 0 hf27 rfl hin83 dX11_hearsAll_57 ?_
    refine lv_topi (fun x84 ex84 => ?_)
    obtain rfl : x29 = x84 := ex29.trans ex84.symm
    refine lv_aload_n hx hb dX11_hearsAll_58 rfl (lv_at hl 1 rfl) ?_
    refine pl_get (v := .int v15_1) hx hb hts (fun w h => mT (inX11 w h)) hown hG.1 hP (hst.1 255 (by decide)) hf26 rfl 15 (by decide) (hts _ (mT wg_1351)) (fun _ h => h) rfl dX11_hearsAll_59 ?_
    refine lv_aload_n hx hb dX11_hearsAll_62 rfl (lv_at hl 1 rfl) ?_
    refine pl_get (v := .int v16_1) hx hb hts (fun w h => mT (inX11 w h)) hown hG.1 hP (hst.1 255 (by decide)) hf26 rfl 16 (by decide) (hts _ (mT wg_1352)) (fun _ h => h) rfl dX11_hearsAll_63 ?_
    refine lv_isub hx hb dX11_hearsAll_66 ?_
    refine lv_topi (fun x85 ex85 => ?_)
    refine lv_icmp_lt (tgt := 74) hx hb dX11_hearsAll_67 (by decide) (fun c86 => ?_) (fun c86 => ?_)
    ·
      have cc87 : x29.toInt < x85.toInt := i32_lt.mp c86
      have hb88 : In x29 (-2147483648) 2147483646 := In.lt1 (In.full x29) (In.full x85) cc87 (by omega) (by omega)
      have hb89 : In x85 (-2147483647) 2147483647 := In.lt2 (In.full x29) (In.full x85) cc87 (by omega) (by omega)
      refine lv_aload_n hx hb dX11_hearsAll_74 rfl (lv_at hl 1 rfl) ?_
      refine pl_get (v := .ref (ad 265)) hx hb hts (fun w h => mT (inX11 w h)) hown hG.1 hP (hst.1 255 (by decide)) hf26 rfl 30 (by decide) (hts _ (mT wg_1366)) (fun _ h => h) rfl dX11_hearsAll_75 ?_
      refine lv_iload_n hx hb dX11_hearsAll_78 rfl (lv_at hl 2 rfl) ?_
      have hin90 : vp_in z1 9 := In.inb hz1 (by decide) (by decide)
      refine pl_iald hx hb hG.1 hP (hst.1 265 (by decide)) 0 hf23 rfl hin90 dX11_hearsAll_79 ?_
      refine lv_topi (fun x91 ex91 => ?_)
      obtain rfl : x31 = x91 := ex31.trans ex91.symm
      refine lv_aload_n hx hb dX11_hearsAll_80 rfl (lv_at hl 1 rfl) ?_
      refine pl_get (v := .int v15_1) hx hb hts (fun w h => mT (inX11 w h)) hown hG.1 hP (hst.1 255 (by decide)) hf26 rfl 15 (by decide) (hts _ (mT wg_1351)) (fun _ h => h) rfl dX11_hearsAll_81 ?_
      refine lv_aload_n hx hb dX11_hearsAll_84 rfl (lv_at hl 1 rfl) ?_
      refine pl_get (v := .int v16_1) hx hb hts (fun w h => mT (inX11 w h)) hown hG.1 hP (hst.1 255 (by decide)) hf26 rfl 16 (by decide) (hts _ (mT wg_1352)) (fun _ h => h) rfl dX11_hearsAll_85 ?_
      refine lv_isub hx hb dX11_hearsAll_88 ?_
      refine lv_topi (fun x92 ex92 => ?_)
      obtain rfl : x85 = x92 := ex85.trans ex92.symm
      refine lv_icmp_lt (tgt := 96) hx hb dX11_hearsAll_89 (by decide) (fun c93 => ?_) (fun c93 => ?_)
      ·
        have cc94 : x31.toInt < x85.toInt := i32_lt.mp c93
        have hb95 : In x31 (-2147483648) 2147483646 := In.lt1 (In.full x31) hb89 cc94 (by omega) (by omega)
        refine lv_iconst (v := 2) hx hb dX11_hearsAll_96 (by decide) ?_
        obtain ⟨rw96, hf97⟩ := hT.2.2 8 (by decide)
        refine pl_iastE hx hb hG.1 hP hD hS (hst.1 263 (by decide)) 0 hf97 rfl (In.inb hz1 (by decide) (by decide)) dX11_hearsAll_97 (fun H locs f98 r101 er101 hf99 ho100 hP hD hS => ?_)
        have hf102 := (ho100 (ad 255) (hst.ne (by decide) (by decide) (by decide))).trans hf26
        have hf103 := (ho100 (ad 264) (hst.ne (by decide) (by decide) (by decide))).trans hf27
        have hf104 := (ho100 (ad 265) (hst.ne (by decide) (by decide) (by decide))).trans hf23
        have hfr : (∀ b, b ≠ (ad 265) → b ≠ (ad 269) → b ≠ (ad 263) → b ≠ (ad 264) → f98 b = f b) := fun b z0_ z1_ z2_ z3_ => (ho100 b z2_).trans (hfr b z0_ z1_ z2_ z3_)
        have hT := TI.updM hT hst (k := 8) (by decide) hf99 ho100 ⟨r101, rfl⟩
        exact ret_v hx hb hr hlocks hP hD hS (Nat.le_of_ble_eq_true rfl) (Nat.le_of_ble_eq_true rfl) (⟨rfl, hT, hfr⟩) dX11_hearsAll_98
      ·
        have cc105 : x85.toInt ≤ x31.toInt := i32_nlt c93
        have hb106 : In x31 (-2147483647) 2147483647 := In.ge1 (In.full x31) hb89 cc105 (by omega) (by omega)
        refine lv_iconst (v := 1) hx hb dX11_hearsAll_92 (by decide) ?_
        refine lv_goto (tgt := 97) hx hb dX11_hearsAll_93 (by decide) ?_
        obtain ⟨rw107, hf108⟩ := hT.2.2 8 (by decide)
        refine pl_iastE hx hb hG.1 hP hD hS (hst.1 263 (by decide)) 0 hf108 rfl (In.inb hz1 (by decide) (by decide)) dX11_hearsAll_97 (fun H locs f109 r112 er112 hf110 ho111 hP hD hS => ?_)
        have hf113 := (ho111 (ad 255) (hst.ne (by decide) (by decide) (by decide))).trans hf26
        have hf114 := (ho111 (ad 264) (hst.ne (by decide) (by decide) (by decide))).trans hf27
        have hf115 := (ho111 (ad 265) (hst.ne (by decide) (by decide) (by decide))).trans hf23
        have hfr : (∀ b, b ≠ (ad 265) → b ≠ (ad 269) → b ≠ (ad 263) → b ≠ (ad 264) → f109 b = f b) := fun b z0_ z1_ z2_ z3_ => (ho111 b z2_).trans (hfr b z0_ z1_ z2_ z3_)
        have hT := TI.updM hT hst (k := 8) (by decide) hf110 ho111 ⟨r112, rfl⟩
        exact ret_v hx hb hr hlocks hP hD hS (Nat.le_of_ble_eq_true rfl) (Nat.le_of_ble_eq_true rfl) (⟨rfl, hT, hfr⟩) dX11_hearsAll_98
    ·
      refine lv_iconst (v := 0) hx hb dX11_hearsAll_70 (by decide) ?_
      refine lv_goto (tgt := 97) hx hb dX11_hearsAll_71 (by decide) ?_
      obtain ⟨rw116, hf117⟩ := hT.2.2 8 (by decide)
      refine pl_iastE hx hb hG.1 hP hD hS (hst.1 263 (by decide)) 0 hf117 rfl (In.inb hz1 (by decide) (by decide)) dX11_hearsAll_97 (fun H locs f118 r121 er121 hf119 ho120 hP hD hS => ?_)
      have hf122 := (ho120 (ad 255) (hst.ne (by decide) (by decide) (by decide))).trans hf26
      have hf123 := (ho120 (ad 264) (hst.ne (by decide) (by decide) (by decide))).trans hf27
      have hf124 := (ho120 (ad 265) (hst.ne (by decide) (by decide) (by decide))).trans hf23
      have hfr : (∀ b, b ≠ (ad 265) → b ≠ (ad 269) → b ≠ (ad 263) → b ≠ (ad 264) → f118 b = f b) := fun b z0_ z1_ z2_ z3_ => (ho120 b z2_).trans (hfr b z0_ z1_ z2_ z3_)
      have hT := TI.updM hT hst (k := 8) (by decide) hf119 ho120 ⟨r121, rfl⟩
      exact ret_v hx hb hr hlocks hP hD hS (Nat.le_of_ble_eq_true rfl) (Nat.le_of_ble_eq_true rfl) (⟨rfl, hT, hfr⟩) dX11_hearsAll_98

abbrev rm_X11_hearsOffers : Room := { frames := 1, cells := 0, slots := 0, locals := 24 }
abbrev po_X11_hearsOffers (g : GG) (ad : Nat → Nat) (th : Nat → Int) (L : List Nat) (f : HP) (z1 : Int32) : (List Nat × HP) → Prop := fun u => u.1 = L ∧ TI g ad th u.2 ∧ (∀ b, b ≠ (ad 266) → b ≠ (ad 267) → b ≠ (ad 269) → b ≠ (ad 261) → u.2 b = f b)
set_option maxHeartbeats 4000000 in
set_option maxRecDepth 100000 in
theorem s_X11_hearsOffers (l : Launch) (g : GG) (ad : Nat → Nat) (th : Nat → Int) (L : List Nat) (f : HP) (sz : Nat) (z1 : Int32) (hst : ST ad L) (hT : TI g ad th f) (hz1 : In z1 0 8) : MtV l g yX11_hearsOffers cX11_hearsOffers 3 rm_X11_hearsOffers [.ref (ad 255), .int z1] L f sz (po_X11_hearsOffers g ad th L f z1) := by
  refine MtV.of (by decide +kernel) (Nat.le_of_ble_eq_true rfl) ?_
  intro p e s m below meth c A hEn hP hD hS ls hl
  obtain ⟨hx, hb, hr, hml, hown, hlocks, hts, hG, hA, hE, hnm⟩ := hEn
  have hown : s.vm.findClass "RulerWordModel" = some m.cls := hown
  have hl : lv_has ls 3 [(0, .ref (ad 255)), (1, .int z1)] := hl
  have hfr : (∀ b, b ≠ (ad 266) → b ≠ (ad 267) → b ≠ (ad 269) → b ≠ (ad 261) → f b = f b) := fun b z0_ z1_ z2_ z3_ => rfl
  refine lv_aload_n hx hb dX11_hearsOffers_0 rfl (lv_at hl 0 rfl) ?_
  obtain ⟨v0_1, v2_1, v3_1, v4_1, v5_1, v6_1, v8_1, v9_1, v12_1, v13_1, v14_1, v15_1, v16_1, v17_1, v18_1, v19_1, v20_1, v21_1, v22_1, v23_1, v25_1, v36_1, v37_1, v38_1, v39_1, v40_1, v45_1, v46_1, v47_1, v48_1, v50_1, v51_1, v53_1, v55_1, hf2, hv0_1, hv2_1, hv3_1, hv4_1, hv5_1, hv6_1, hv8_1, hv12_1, hv13_1, hv14_1, hg14_1, hv15_1, hg15_1, hv17_1, hg17_1, hv20_1, hv23_1, hg23_1, hv25_1, hv36_1, hv47_1, hv48_1, hv53_1, hv55_1⟩ := hT.2.2 0 (by decide)
  refine pl_get (v := .ref (ad 266)) hx hb hts (fun w h => mT (inX11 w h)) hown hG.1 hP (hst.1 255 (by decide)) hf2 rfl 31 (by decide) (hts _ (mT wg_1367)) (fun _ h => h) rfl dX11_hearsOffers_1 ?_
  refine lv_iload_n hx hb dX11_hearsOffers_4 rfl (lv_at hl 1 rfl) ?_
  refine lv_aload_n hx hb dX11_hearsOffers_5 rfl (lv_at hl 0 rfl) ?_
  refine lv_iload_n hx hb dX11_hearsOffers_6 rfl (lv_at hl 1 rfl) ?_
  refine lv_iconst (v := 0) hx hb dX11_hearsOffers_7 (by decide) ?_
  refine call_i (run_V (rm := rm_X11_countOf) hx hb hml hown hts (s_X11_countOf l g ad th _ _ _ z1 0 hst hT hz1) cV_X11_countOf wg_1686 ⟨Nat.le_of_ble_eq_true rfl, Nat.le_of_ble_eq_true rfl⟩ hG hE hA hP hD hS (hst.1 255 (by decide)) hf2 rfl rfl hl.1 (As := [.int z1, .int 0]) (rest := [.int z1, .ref (ad 266)]) rfl (Nat.le_of_ble_eq_true rfl) dX11_hearsOffers_8 ⟨Nat.le_of_ble_eq_true rfl, Nat.le_of_ble_eq_true rfl⟩) hA hD hS (fun r3 L4 f5 H locs hp6 hP hD hS => ?_)
  obtain ⟨eL7L, eL7T⟩ := hp6
  have eL7L : L4 = L := eL7L
  have eL7T : f5 = f := eL7T
  rw [eL7L, eL7T] at hP hD
  obtain ⟨rw8, hf9⟩ := hT.2.2 11 (by decide)
  refine pl_iastE hx hb hG.1 hP hD hS (hst.1 266 (by decide)) 0 hf9 rfl (In.inb hz1 (by decide) (by decide)) dX11_hearsOffers_11 (fun H locs f10 r13 er13 hf11 ho12 hP hD hS => ?_)
  have hf14 := (ho12 (ad 255) (hst.ne (by decide) (by decide) (by decide))).trans hf2
  have hfr : (∀ b, b ≠ (ad 266) → b ≠ (ad 267) → b ≠ (ad 269) → b ≠ (ad 261) → f10 b = f b) := fun b z0_ z1_ z2_ z3_ => (ho12 b z0_).trans (hfr b z0_ z1_ z2_ z3_)
  refine lv_aload_n hx hb dX11_hearsOffers_12 rfl (lv_at hl 0 rfl) ?_
  refine pl_get (v := .ref (ad 267)) hx hb hts (fun w h => mT (inX11 w h)) hown hG.1 hP (hst.1 255 (by decide)) hf14 rfl 32 (by decide) (hts _ (mT wg_1368)) (fun _ h => h) rfl dX11_hearsOffers_13 ?_
  refine lv_iload_n hx hb dX11_hearsOffers_16 rfl (lv_at hl 1 rfl) ?_
  refine lv_aload_n hx hb dX11_hearsOffers_17 rfl (lv_at hl 0 rfl) ?_
  refine lv_iload_n hx hb dX11_hearsOffers_18 rfl (lv_at hl 1 rfl) ?_
  refine lv_iconst (v := 1) hx hb dX11_hearsOffers_19 (by decide) ?_
  have hT := TI.updM hT hst (k := 11) (by decide) hf11 ho12 ⟨r13, rfl⟩
  refine call_i (run_V (rm := rm_X11_countOf) hx hb hml hown hts (s_X11_countOf l g ad th _ _ _ z1 1 hst hT hz1) cV_X11_countOf wg_1686 ⟨Nat.le_of_ble_eq_true rfl, Nat.le_of_ble_eq_true rfl⟩ hG hE hA hP hD hS (hst.1 255 (by decide)) hf14 rfl rfl hl.1 (As := [.int z1, .int 1]) (rest := [.int z1, .ref (ad 267)]) rfl (Nat.le_of_ble_eq_true rfl) dX11_hearsOffers_20 ⟨Nat.le_of_ble_eq_true rfl, Nat.le_of_ble_eq_true rfl⟩) hA hD hS (fun r15 L16 f17 H locs hp18 hP hD hS => ?_)
  obtain ⟨eL19L, eL19T⟩ := hp18
  have eL19L : L16 = L := eL19L
  have eL19T : f17 = f10 := eL19T
  rw [eL19L, eL19T] at hP hD
  obtain ⟨rw20, hf21⟩ := hT.2.2 12 (by decide)
  refine pl_iastE hx hb hG.1 hP hD hS (hst.1 267 (by decide)) 0 hf21 rfl (In.inb hz1 (by decide) (by decide)) dX11_hearsOffers_23 (fun H locs f22 r25 er25 hf23 ho24 hP hD hS => ?_)
  have hf26 := (ho24 (ad 255) (hst.ne (by decide) (by decide) (by decide))).trans hf14
  have hf27 := (ho24 (ad 266) (hst.ne (by decide) (by decide) (by decide))).trans hf11
  have hfr : (∀ b, b ≠ (ad 266) → b ≠ (ad 267) → b ≠ (ad 269) → b ≠ (ad 261) → f22 b = f b) := fun b z0_ z1_ z2_ z3_ => (ho24 b z1_).trans (hfr b z0_ z1_ z2_ z3_)
  refine lv_aload_n hx hb dX11_hearsOffers_24 rfl (lv_at hl 0 rfl) ?_
  refine pl_get (v := .ref (ad 266)) hx hb hts (fun w h => mT (inX11 w h)) hown hG.1 hP (hst.1 255 (by decide)) hf26 rfl 31 (by decide) (hts _ (mT wg_1367)) (fun _ h => h) rfl dX11_hearsOffers_25 ?_
  refine lv_iload_n hx hb dX11_hearsOffers_28 rfl (lv_at hl 1 rfl) ?_
  have hin28 : vp_in z1 9 := In.inb hz1 (by decide) (by decide)
  refine pl_iald hx hb hG.1 hP (hst.1 266 (by decide)) 0 hf27 rfl hin28 dX11_hearsOffers_29 ?_
  refine lv_topi (fun x29 ex29 => ?_)
  refine lv_aload_n hx hb dX11_hearsOffers_30 rfl (lv_at hl 0 rfl) ?_
  refine pl_get (v := .ref (ad 267)) hx hb hts (fun w h => mT (inX11 w h)) hown hG.1 hP (hst.1 255 (by decide)) hf26 rfl 32 (by decide) (hts _ (mT wg_1368)) (fun _ h => h) rfl dX11_hearsOffers_31 ?_
  refine lv_iload_n hx hb dX11_hearsOffers_34 rfl (lv_at hl 1 rfl) ?_
  have hin30 : vp_in z1 9 := In.inb hz1 (by decide) (by decide)
  refine pl_iald hx hb hG.1 hP (hst.1 267 (by decide)) 0 hf23 rfl hin30 dX11_hearsOffers_35 ?_
  refine lv_topi (fun x31 ex31 => ?_)
  refine va_mmax hx hb (hml.trans hl.1.symm) hown (hts _ (mT wg_1690)) (hts _ (mT wg_875)) (hts _ (mT wg_178)) (hts _ (mT (mG 876 (by decide +kernel) rfl))) (by decide) (by decide) (by decide) (by decide) dX11_hearsOffers_36 ?_
  refine lv_topi (fun x32 ex32 => ?_)
  have hb33 : In x32 (-2147483648) 2147483647 := ex32 ▸ In.max (In.full x29) (In.full x31) (by omega) (by omega)
  refine lv_istore_n (lv' := [(2, .int x32), (0, .ref (ad 255)), (1, .int z1)]) hx hb dX11_hearsOffers_39 rfl hl (by decide) rfl (fun ls hl => ?_)
  refine lv_iload_n hx hb dX11_hearsOffers_40 rfl (lv_at hl 0 rfl) ?_
  refine lv_aload_n hx hb dX11_hearsOffers_41 rfl (lv_at hl 1 rfl) ?_
  refine pl_get (v := .int v16_1) hx hb hts (fun w h => mT (inX11 w h)) hown hG.1 hP (hst.1 255 (by decide)) hf26 rfl 16 (by decide) (hts _ (mT wg_1352)) (fun _ h => h) rfl dX11_hearsOffers_42 ?_
  have hT := TI.updM hT hst (k := 12) (by decide) hf23 ho24 ⟨r25, rfl⟩
  have hJ74 : ∀ (f_74 : HP) (H : Heap) (locs : List Loc) (ls : Array Slot), va_P g.1 vwCl (va_pl L f_74) H → va_D A (va_pl L f_74) → va_S A s.heap H locs → TI g ad th f_74 → (∀ b, b ≠ (ad 266) → b ≠ (ad 267) → b ≠ (ad 269) → b ≠ (ad 261) → f_74 b = f b) → f_74 (ad 255) = .inr (10, [.int v0_1, .ref (ad 256), .int v2_1, .int v3_1, .int v4_1, .int v5_1, .int v6_1, .ref (ad 257), .int v8_1, .int v9_1, .ref (ad 258), .ref (ad 259), .int v12_1, .int v13_1, .int v14_1, .int v15_1, .int v16_1, .int v17_1, .int v18_1, .int v19_1, .int v20_1, .long v21_1, .long v22_1, .int v23_1, .ref (ad 260), .int v25_1, .ref (ad 261), .ref (ad 262), .ref (ad 263), .ref (ad 264), .ref (ad 265), .ref (ad 266), .ref (ad 267), .ref (ad 268), .ref (ad 269), .ref (ad 270), .int v36_1, .int v37_1, .int v38_1, .int v39_1, .int v40_1, .ref (ad 271), .ref (ad 272), .ref (ad 273), .ref (ad 274), .long v45_1, .long v46_1, .int v47_1, .int v48_1, .ref (ad 275), .int v50_1, .int v51_1, .ref (ad 276), .int v53_1, .ref (ad 277), .int v55_1]) → f_74 (ad 266) = .inl (g.2.1 0, 9, .inl (r13)) → f_74 (ad 267) = .inl (g.2.1 0, 9, .inl (r25)) → lv_has ls 3 [(0, .ref (ad 255)), (1, .int z1), (2, .int x32)] → W p l e rm_X11_hearsOffers s m [.ref (ad 255), .int z1].toArray below meth c H locs 0 0 (MQ below (va_Qv (po_X11_hearsOffers g ad th L f z1) (PstB g A) A) [.ref (ad 255), .int z1].toArray s rm_X11_hearsOffers.cells rm_X11_hearsOffers.slots A) (F0 m 74 ls []) := by
    intro f_74 H locs ls hP hD hS hT hfr hf34 hf35 hf36 hl
    refine lv_aload_n hx hb dX11_hearsOffers_74 rfl (lv_at hl 0 rfl) ?_
    refine pl_get (v := .ref (ad 269)) hx hb hts (fun w h => mT (inX11 w h)) hown hG.1 hP (hst.1 255 (by decide)) hf34 rfl 34 (by decide) (hts _ (mT wg_1370)) (fun _ h => h) rfl dX11_hearsOffers_75 ?_
    refine lv_iload_n hx hb dX11_hearsOffers_78 rfl (lv_at hl 1 rfl) ?_
    refine lv_iload_n hx hb dX11_hearsOffers_79 rfl (lv_at hl 2 rfl) ?_
    refine lv_aload_n hx hb dX11_hearsOffers_80 rfl (lv_at hl 0 rfl) ?_
    refine pl_get (v := .int v15_1) hx hb hts (fun w h => mT (inX11 w h)) hown hG.1 hP (hst.1 255 (by decide)) hf34 rfl 15 (by decide) (hts _ (mT wg_1351)) (fun _ h => h) rfl dX11_hearsOffers_81 ?_
    refine lv_aload_n hx hb dX11_hearsOffers_84 rfl (lv_at hl 0 rfl) ?_
    refine pl_get (v := .int v16_1) hx hb hts (fun w h => mT (inX11 w h)) hown hG.1 hP (hst.1 255 (by decide)) hf34 rfl 16 (by decide) (hts _ (mT wg_1352)) (fun _ h => h) rfl dX11_hearsOffers_85 ?_
    refine lv_isub hx hb dX11_hearsOffers_88 ?_
    refine lv_topi (fun x37 ex37 => ?_)
    refine lv_icmp_lt (tgt := 96) hx hb dX11_hearsOffers_89 (by decide) (fun c38 => ?_) (fun c38 => ?_)
    ·
      have cc39 : x32.toInt < x37.toInt := i32_lt.mp c38
      have hb40 : In x32 (-2147483648) 2147483646 := In.lt1 hb33 (In.full x37) cc39 (by omega) (by omega)
      have hb41 : In x37 (-2147483647) 2147483647 := In.lt2 hb33 (In.full x37) cc39 (by omega) (by omega)
      refine lv_iconst (v := 0) hx hb dX11_hearsOffers_96 (by decide) ?_
      obtain ⟨rw42, hf43⟩ := hT.2.2 14 (by decide)
      refine pl_zastE hx hb hG.1 hP hD hS (hst.1 269 (by decide)) 3 hf43 rfl (In.inb hz1 (by decide) (by decide)) dX11_hearsOffers_97 (fun H locs f44 r47 er47 hf45 ho46 hP hD hS => ?_)
      have hf48 := (ho46 (ad 255) (hst.ne (by decide) (by decide) (by decide))).trans hf34
      have hf49 := (ho46 (ad 266) (hst.ne (by decide) (by decide) (by decide))).trans hf35
      have hf50 := (ho46 (ad 267) (hst.ne (by decide) (by decide) (by decide))).trans hf36
      have hfr : (∀ b, b ≠ (ad 266) → b ≠ (ad 267) → b ≠ (ad 269) → b ≠ (ad 261) → f44 b = f b) := fun b z0_ z1_ z2_ z3_ => (ho46 b z2_).trans (hfr b z0_ z1_ z2_ z3_)
      have hT := TI.updM hT hst (k := 14) (by decide) hf45 ho46 ⟨r47, rfl⟩
      exact ret_v hx hb hr hlocks hP hD hS (Nat.le_of_ble_eq_true rfl) (Nat.le_of_ble_eq_true rfl) (⟨rfl, hT, hfr⟩) dX11_hearsOffers_98
    ·
      refine lv_iconst (v := 1) hx hb dX11_hearsOffers_92 (by decide) ?_
      refine lv_goto (tgt := 97) hx hb dX11_hearsOffers_93 (by decide) ?_
      obtain ⟨rw51, hf52⟩ := hT.2.2 14 (by decide)
      refine pl_zastE hx hb hG.1 hP hD hS (hst.1 269 (by decide)) 3 hf52 rfl (In.inb hz1 (by decide) (by decide)) dX11_hearsOffers_97 (fun H locs f53 r56 er56 hf54 ho55 hP hD hS => ?_)
      have hf57 := (ho55 (ad 255) (hst.ne (by decide) (by decide) (by decide))).trans hf34
      have hf58 := (ho55 (ad 266) (hst.ne (by decide) (by decide) (by decide))).trans hf35
      have hf59 := (ho55 (ad 267) (hst.ne (by decide) (by decide) (by decide))).trans hf36
      have hfr : (∀ b, b ≠ (ad 266) → b ≠ (ad 267) → b ≠ (ad 269) → b ≠ (ad 261) → f53 b = f b) := fun b z0_ z1_ z2_ z3_ => (ho55 b z2_).trans (hfr b z0_ z1_ z2_ z3_)
      have hT := TI.updM hT hst (k := 14) (by decide) hf54 ho55 ⟨r56, rfl⟩
      exact ret_v hx hb hr hlocks hP hD hS (Nat.le_of_ble_eq_true rfl) (Nat.le_of_ble_eq_true rfl) (⟨rfl, hT, hfr⟩) dX11_hearsOffers_98
  refine lv_icmp_le (tgt := 74) hx hb dX11_hearsOffers_45 (by decide) (fun c60 => ?_) (fun c60 => ?_)
  ·
    exact hJ74 _ _ _ _ hP hD hS hT hfr hf26 hf27 hf23 (lv_sub hl [1, 2, 0] rfl)
  ·
    have cc61 : v16_1.toInt < x32.toInt := i32_nle c60
    have hb62 : In x32 (-2147483647) 2147483647 := In.gt1 hb33 (In.full v16_1) cc61 (by omega) (by omega)
    have hb63 : In v16_1 (-2147483648) 2147483646 := In.gt2 hb33 (In.full v16_1) cc61 (by omega) (by omega)
    refine lv_aload_n hx hb dX11_hearsOffers_48 rfl (lv_at hl 1 rfl) ?_
    refine pl_get (v := .ref (ad 261)) hx hb hts (fun w h => mT (inX11 w h)) hown hG.1 hP (hst.1 255 (by decide)) hf26 rfl 26 (by decide) (hts _ (mT wg_1362)) (fun _ h => h) rfl dX11_hearsOffers_49 ?_
    refine lv_iload_n hx hb dX11_hearsOffers_52 rfl (lv_at hl 2 rfl) ?_
    refine lv_aload_n hx hb dX11_hearsOffers_53 rfl (lv_at hl 1 rfl) ?_
    refine pl_get (v := .ref (ad 267)) hx hb hts (fun w h => mT (inX11 w h)) hown hG.1 hP (hst.1 255 (by decide)) hf26 rfl 32 (by decide) (hts _ (mT wg_1368)) (fun _ h => h) rfl dX11_hearsOffers_54 ?_
    refine lv_iload_n hx hb dX11_hearsOffers_57 rfl (lv_at hl 2 rfl) ?_
    have hin64 : vp_in z1 9 := In.inb hz1 (by decide) (by decide)
    refine pl_iald hx hb hG.1 hP (hst.1 267 (by decide)) 0 hf23 rfl hin64 dX11_hearsOffers_58 ?_
    refine lv_topi (fun x65 ex65 => ?_)
    obtain rfl : x31 = x65 := ex31.trans ex65.symm
    refine lv_aload_n hx hb dX11_hearsOffers_59 rfl (lv_at hl 1 rfl) ?_
    refine pl_get (v := .ref (ad 266)) hx hb hts (fun w h => mT (inX11 w h)) hown hG.1 hP (hst.1 255 (by decide)) hf26 rfl 31 (by decide) (hts _ (mT wg_1367)) (fun _ h => h) rfl dX11_hearsOffers_60 ?_
    refine lv_iload_n hx hb dX11_hearsOffers_63 rfl (lv_at hl 2 rfl) ?_
    have hin66 : vp_in z1 9 := In.inb hz1 (by decide) (by decide)
    refine pl_iald hx hb hG.1 hP (hst.1 266 (by decide)) 0 hf27 rfl hin66 dX11_hearsOffers_64 ?_
    refine lv_topi (fun x67 ex67 => ?_)
    obtain rfl : x29 = x67 := ex29.trans ex67.symm
    have hJ73 : ∀ (y73_s0 : Int32) (H : Heap) (locs : List Loc) (ls : Array Slot), In y73_s0 0 1 → va_P g.1 vwCl (va_pl L f22) H → va_D A (va_pl L f22) → va_S A s.heap H locs → lv_has ls 3 [(0, .ref (ad 255)), (1, .int z1), (2, .int x32)] → W p l e rm_X11_hearsOffers s m [.ref (ad 255), .int z1].toArray below meth c H locs 0 0 (MQ below (va_Qv (po_X11_hearsOffers g ad th L f z1) (PstB g A) A) [.ref (ad 255), .int z1].toArray s rm_X11_hearsOffers.cells rm_X11_hearsOffers.slots A) (F0 m 73 ls [.int y73_s0, .int z1, .ref (ad 261)]) := by
      intro y73_s0 H locs ls hy73_s0 hP hD hS hl
      obtain ⟨rw68, hf69⟩ := hT.2.2 6 (by decide)
      refine pl_iastE hx hb hG.1 hP hD hS (hst.1 261 (by decide)) 0 hf69 rfl (In.inb hz1 (by decide) (by decide)) dX11_hearsOffers_73 (fun H locs f70 r73 er73 hf71 ho72 hP hD hS => ?_)
      have hf74 := (ho72 (ad 255) (hst.ne (by decide) (by decide) (by decide))).trans hf26
      have hf75 := (ho72 (ad 266) (hst.ne (by decide) (by decide) (by decide))).trans hf27
      have hf76 := (ho72 (ad 267) (hst.ne (by decide) (by decide) (by decide))).trans hf23
      have hfr : (∀ b, b ≠ (ad 266) → b ≠ (ad 267) → b ≠ (ad 269) → b ≠ (ad 261) → f70 b = f b) := fun b z0_ z1_ z2_ z3_ => (ho72 b z3_).trans (hfr b z0_ z1_ z2_ z3_)
      have hT := TI.updM hT hst (k := 6) (by decide) hf71 ho72 ⟨r73, rfl⟩
      exact hJ74 _ _ _ _ hP hD hS hT hfr hf74 hf75 hf76 (lv_sub hl [0, 1, 2] rfl)
    refine lv_icmp_le (tgt := 72) hx hb dX11_hearsOffers_65 (by decide) (fun c77 => ?_) (fun c77 => ?_)
    ·
      refine lv_iconst (v := 0) hx hb dX11_hearsOffers_72 (by decide) ?_
      exact hJ73 0 _ _ _ (⟨by decide, by decide⟩ : In 0 0 1) hP hD hS (lv_sub hl [1, 2, 0] rfl)
    ·
      have cc78 : x29.toInt < x31.toInt := i32_nle c77
      have hb79 : In x31 (-2147483647) 2147483647 := In.gt1 (In.full x31) (In.full x29) cc78 (by omega) (by omega)
      have hb80 : In x29 (-2147483648) 2147483646 := In.gt2 (In.full x31) (In.full x29) cc78 (by omega) (by omega)
      refine lv_iconst (v := 1) hx hb dX11_hearsOffers_68 (by decide) ?_
      refine lv_goto (tgt := 73) hx hb dX11_hearsOffers_69 (by decide) ?_
      exact hJ73 1 _ _ _ (⟨by decide, by decide⟩ : In 1 0 1) hP hD hS (lv_sub hl [1, 2, 0] rfl)

abbrev rm_X11_hearsRuler : Room := { frames := 1, cells := 0, slots := 0, locals := 21 }
abbrev po_X11_hearsRuler (g : GG) (ad : Nat → Nat) (th : Nat → Int) (L : List Nat) (f : HP) (z1 : Int32) (z2 : Int32) : (List Nat × HP) → Prop := fun u => u.1 = L ∧ TI g ad th u.2 ∧ (∀ b, b ≠ (ad 270) → b ≠ (ad 261) → b ≠ (ad 262) → u.2 b = f b)
set_option maxHeartbeats 4000000 in
set_option maxRecDepth 100000 in
theorem s_X11_hearsRuler (l : Launch) (g : GG) (ad : Nat → Nat) (th : Nat → Int) (L : List Nat) (f : HP) (sz : Nat) (z1 : Int32) (z2 : Int32) (hst : ST ad L) (hT : TI g ad th f) (hz1 : In z1 0 8) (hz2 : In z2 0 8) : MtV l g yX11_hearsRuler cX11_hearsRuler 4 rm_X11_hearsRuler [.ref (ad 255), .int z1, .int z2] L f sz (po_X11_hearsRuler g ad th L f z1 z2) := by
  refine MtV.of (by decide +kernel) (Nat.le_of_ble_eq_true rfl) ?_
  intro p e s m below meth c A hEn hP hD hS ls hl
  obtain ⟨hx, hb, hr, hml, hown, hlocks, hts, hG, hA, hE, hnm⟩ := hEn
  have hown : s.vm.findClass "RulerWordModel" = some m.cls := hown
  have hl : lv_has ls 4 [(0, .ref (ad 255)), (1, .int z1), (2, .int z2)] := hl
  have hfr : (∀ b, b ≠ (ad 270) → b ≠ (ad 261) → b ≠ (ad 262) → f b = f b) := fun b z0_ z1_ z2_ => rfl
  refine lv_aload_n hx hb dX11_hearsRuler_0 rfl (lv_at hl 0 rfl) ?_
  obtain ⟨v0_1, v2_1, v3_1, v4_1, v5_1, v6_1, v8_1, v9_1, v12_1, v13_1, v14_1, v15_1, v16_1, v17_1, v18_1, v19_1, v20_1, v21_1, v22_1, v23_1, v25_1, v36_1, v37_1, v38_1, v39_1, v40_1, v45_1, v46_1, v47_1, v48_1, v50_1, v51_1, v53_1, v55_1, hf2, hv0_1, hv2_1, hv3_1, hv4_1, hv5_1, hv6_1, hv8_1, hv12_1, hv13_1, hv14_1, hg14_1, hv15_1, hg15_1, hv17_1, hg17_1, hv20_1, hv23_1, hg23_1, hv25_1, hv36_1, hv47_1, hv48_1, hv53_1, hv55_1⟩ := hT.2.2 0 (by decide)
  refine pl_get (v := .ref (ad 268)) hx hb hts (fun w h => mT (inX11 w h)) hown hG.1 hP (hst.1 255 (by decide)) hf2 rfl 33 (by decide) (hts _ (mT wg_1369)) (fun _ h => h) rfl dX11_hearsRuler_1 ?_
  refine lv_bipush (v := 9) hx hb dX11_hearsRuler_4 (by decide) ?_
  refine lv_iload_n hx hb dX11_hearsRuler_6 rfl (lv_at hl 2 rfl) ?_
  refine lv_imul hx hb dX11_hearsRuler_7 ?_
  refine lv_topi (fun x3 ex3 => ?_)
  have hb4 : In x3 0 72 := ex3 ▸ In.mul (⟨by decide, by decide⟩ : In 9 9 9) hz2 (by decide) (by decide) (by decide) (by decide) (by decide)
  refine lv_iload_n hx hb dX11_hearsRuler_8 rfl (lv_at hl 1 rfl) ?_
  refine lv_iadd hx hb dX11_hearsRuler_9 ?_
  refine lv_topi (fun x5 ex5 => ?_)
  have hb6 : In x5 0 80 := ex5 ▸ In.add hb4 hz1 (by decide) (by decide) (by decide) (by decide)
  have et7 : x5.toInt = x3.toInt + z1.toInt := In.add2e ex5 hb4 hz1 (by decide) (by decide)
  obtain ⟨rw8, hf9⟩ := hT.2.2 13 (by decide)
  have hin10 : vp_in x5 81 := In.inb hb6 (by decide) (by decide)
  refine pl_iald hx hb hG.1 hP (hst.1 268 (by decide)) 0 hf9 rfl hin10 dX11_hearsRuler_10 ?_
  refine lv_topi (fun x11 ex11 => ?_)
  refine lv_istore_n (lv' := [(3, .int x11), (0, .ref (ad 255)), (1, .int z1), (2, .int z2)]) hx hb dX11_hearsRuler_11 rfl hl (by decide) rfl (fun ls hl => ?_)
  refine lv_aload_n hx hb dX11_hearsRuler_12 rfl (lv_at hl 1 rfl) ?_
  refine pl_get (v := .ref (ad 269)) hx hb hts (fun w h => mT (inX11 w h)) hown hG.1 hP (hst.1 255 (by decide)) hf2 rfl 34 (by decide) (hts _ (mT wg_1370)) (fun _ h => h) rfl dX11_hearsRuler_13 ?_
  refine lv_iload_n hx hb dX11_hearsRuler_16 rfl (lv_at hl 2 rfl) ?_
  obtain ⟨rw12, hf13⟩ := hT.2.2 14 (by decide)
  have hin14 : vp_in z1 9 := In.inb hz1 (by decide) (by decide)
  refine pl_zald hx hb hG.1 hP (hst.1 269 (by decide)) 3 hf13 rfl hin14 dX11_hearsRuler_17 ?_
  refine lv_topi (fun x15 ex15 => ?_)
  refine lv_if_eq (tgt := 76) hx hb dX11_hearsRuler_18 (by decide) (fun c16 => ?_) (fun c16 => ?_)
  ·
    have cc17 : x15.toInt = (0 : Int32).toInt := congrArg Int32.toInt c16
    have hb18 : In x15 0 0 := In.eq1 (In.full x15) (⟨by decide, by decide⟩ : In 0 0 0) cc17 (by omega) (by omega)
    refine lv_aload_n hx hb dX11_hearsRuler_76 rfl (lv_at hl 1 rfl) ?_
    refine pl_get (v := .ref (ad 270)) hx hb hts (fun w h => mT (inX11 w h)) hown hG.1 hP (hst.1 255 (by decide)) hf2 rfl 35 (by decide) (hts _ (mT wg_1371)) (fun _ h => h) rfl dX11_hearsRuler_77 ?_
    refine lv_iload_n hx hb dX11_hearsRuler_80 rfl (lv_at hl 2 rfl) ?_
    refine lv_aload_n hx hb dX11_hearsRuler_81 rfl (lv_at hl 1 rfl) ?_
    refine pl_get (v := .int v18_1) hx hb hts (fun w h => mT (inX11 w h)) hown hG.1 hP (hst.1 255 (by decide)) hf2 rfl 18 (by decide) (hts _ (mT wg_1354)) (fun _ h => h) rfl dX11_hearsRuler_82 ?_
    have hJ106 : ∀ (y106_s0 : Int32) (H : Heap) (locs : List Loc) (ls : Array Slot), In y106_s0 0 1 → va_P g.1 vwCl (va_pl L f) H → va_D A (va_pl L f) → va_S A s.heap H locs → lv_has ls 4 [(0, .ref (ad 255)), (1, .int z1), (2, .int z2), (3, .int x11)] → W p l e rm_X11_hearsRuler s m [.ref (ad 255), .int z1, .int z2].toArray below meth c H locs 0 0 (MQ below (va_Qv (po_X11_hearsRuler g ad th L f z1 z2) (PstB g A) A) [.ref (ad 255), .int z1, .int z2].toArray s rm_X11_hearsRuler.cells rm_X11_hearsRuler.slots A) (F0 m 106 ls [.int y106_s0, .int z1, .ref (ad 270)]) := by
      intro y106_s0 H locs ls hy106_s0 hP hD hS hl
      obtain ⟨rw19, hf20⟩ := hT.2.2 15 (by decide)
      refine pl_zastE hx hb hG.1 hP hD hS (hst.1 270 (by decide)) 3 hf20 rfl (In.inb hz1 (by decide) (by decide)) dX11_hearsRuler_106 (fun H locs f21 r24 er24 hf22 ho23 hP hD hS => ?_)
      have hf25 := (ho23 (ad 255) (hst.ne (by decide) (by decide) (by decide))).trans hf2
      have hf26 := (ho23 (ad 268) (hst.ne (by decide) (by decide) (by decide))).trans hf9
      have hf27 := (ho23 (ad 269) (hst.ne (by decide) (by decide) (by decide))).trans hf13
      have hfr : (∀ b, b ≠ (ad 270) → b ≠ (ad 261) → b ≠ (ad 262) → f21 b = f b) := fun b z0_ z1_ z2_ => (ho23 b z0_).trans (hfr b z0_ z1_ z2_)
      refine lv_aload_n hx hb dX11_hearsRuler_107 rfl (lv_at hl 0 rfl) ?_
      refine pl_get (v := .ref (ad 270)) hx hb hts (fun w h => mT (inX11 w h)) hown hG.1 hP (hst.1 255 (by decide)) hf25 rfl 35 (by decide) (hts _ (mT wg_1371)) (fun _ h => h) rfl dX11_hearsRuler_108 ?_
      refine lv_iload_n hx hb dX11_hearsRuler_111 rfl (lv_at hl 1 rfl) ?_
      have hin28 : vp_in z1 9 := In.inb hz1 (by decide) (by decide)
      refine pl_zald hx hb hG.1 hP (hst.1 270 (by decide)) 3 hf22 rfl hin28 dX11_hearsRuler_112 ?_
      refine lv_topi (fun x29 ex29 => ?_)
      have hT := TI.updM hT hst (k := 15) (by decide) hf22 ho23 ⟨r24, rfl⟩
      refine lv_if_eq (tgt := 135) hx hb dX11_hearsRuler_113 (by decide) (fun c30 => ?_) (fun c30 => ?_)
      ·
        have cc31 : x29.toInt = (0 : Int32).toInt := congrArg Int32.toInt c30
        have hb32 : In x29 0 0 := In.eq1 (In.full x29) (⟨by decide, by decide⟩ : In 0 0 0) cc31 (by omega) (by omega)
        refine lv_aload_n hx hb dX11_hearsRuler_135 rfl (lv_at hl 0 rfl) ?_
        refine pl_get (v := .int v14_1) hx hb hts (fun w h => mT (inX11 w h)) hown hG.1 hP (hst.1 255 (by decide)) hf25 rfl 14 (by decide) (hts _ (mT wg_1350)) (fun _ h => h) rfl dX11_hearsRuler_136 ?_
        refine lv_iconst (v := 1) hx hb dX11_hearsRuler_139 (by decide) ?_
        refine lv_icmp_ne (tgt := 155) hx hb dX11_hearsRuler_140 (by decide) (fun c33 => ?_) (fun c33 => ?_)
        ·
          have cc34 : v14_1.toInt ≠ (1 : Int32).toInt := i32_ne c33
          have hb35 : In v14_1 0 0 := In.ne1 hv14_1 (⟨by decide, by decide⟩ : In 1 1 1) cc34 (by omega) (by omega)
          exact ret_v hx hb hr hlocks hP hD hS (Nat.le_of_ble_eq_true rfl) (Nat.le_of_ble_eq_true rfl) (⟨rfl, hT, hfr⟩) dX11_hearsRuler_155
        ·
          have cc36 : v14_1.toInt = (1 : Int32).toInt := congrArg Int32.toInt c33
          have hb37 : In v14_1 1 1 := In.eq1 hv14_1 (⟨by decide, by decide⟩ : In 1 1 1) cc36 (by omega) (by omega)
          refine lv_aload_n hx hb dX11_hearsRuler_143 rfl (lv_at hl 0 rfl) ?_
          refine pl_get (v := .ref (ad 261)) hx hb hts (fun w h => mT (inX11 w h)) hown hG.1 hP (hst.1 255 (by decide)) hf25 rfl 26 (by decide) (hts _ (mT wg_1362)) (fun _ h => h) rfl dX11_hearsRuler_144 ?_
          refine lv_iload_n hx hb dX11_hearsRuler_147 rfl (lv_at hl 1 rfl) ?_
          refine lv_aload_n hx hb dX11_hearsRuler_148 rfl (lv_at hl 0 rfl) ?_
          refine pl_get (v := .ref (ad 263)) hx hb hts (fun w h => mT (inX11 w h)) hown hG.1 hP (hst.1 255 (by decide)) hf25 rfl 28 (by decide) (hts _ (mT wg_1364)) (fun _ h => h) rfl dX11_hearsRuler_149 ?_
          refine lv_iload_n hx hb dX11_hearsRuler_152 rfl (lv_at hl 1 rfl) ?_
          obtain ⟨rw38, hf39⟩ := hT.2.2 8 (by decide)
          have hin40 : vp_in z1 9 := In.inb hz1 (by decide) (by decide)
          refine pl_iald hx hb hG.1 hP (hst.1 263 (by decide)) 0 hf39 rfl hin40 dX11_hearsRuler_153 ?_
          refine lv_topi (fun x41 ex41 => ?_)
          obtain ⟨rw42, hf43⟩ := hT.2.2 6 (by decide)
          refine pl_iastE hx hb hG.1 hP hD hS (hst.1 261 (by decide)) 0 hf43 rfl (In.inb hz1 (by decide) (by decide)) dX11_hearsRuler_154 (fun H locs f44 r47 er47 hf45 ho46 hP hD hS => ?_)
          have hf48 := (ho46 (ad 255) (hst.ne (by decide) (by decide) (by decide))).trans hf25
          have hf49 := (ho46 (ad 268) (hst.ne (by decide) (by decide) (by decide))).trans hf26
          have hf50 := (ho46 (ad 269) (hst.ne (by decide) (by decide) (by decide))).trans hf27
          have hf51 := (ho46 (ad 270) (hst.ne (by decide) (by decide) (by decide))).trans hf22
          have hf52 := (ho46 (ad 263) (hst.ne (by decide) (by decide) (by decide))).trans hf39
          have hfr : (∀ b, b ≠ (ad 270) → b ≠ (ad 261) → b ≠ (ad 262) → f44 b = f b) := fun b z0_ z1_ z2_ => (ho46 b z1_).trans (hfr b z0_ z1_ z2_)
          have hT := TI.updM hT hst (k := 6) (by decide) hf45 ho46 ⟨r47, rfl⟩
          exact ret_v hx hb hr hlocks hP hD hS (Nat.le_of_ble_eq_true rfl) (Nat.le_of_ble_eq_true rfl) (⟨rfl, hT, hfr⟩) dX11_hearsRuler_155
      ·
        refine lv_aload_n hx hb dX11_hearsRuler_116 rfl (lv_at hl 0 rfl) ?_
        refine pl_get (v := .ref (ad 261)) hx hb hts (fun w h => mT (inX11 w h)) hown hG.1 hP (hst.1 255 (by decide)) hf25 rfl 26 (by decide) (hts _ (mT wg_1362)) (fun _ h => h) rfl dX11_hearsRuler_117 ?_
        refine lv_iload_n hx hb dX11_hearsRuler_120 rfl (lv_at hl 1 rfl) ?_
        refine lv_iload_n hx hb dX11_hearsRuler_121 rfl (lv_at hl 3 rfl) ?_
        refine lv_iconst (v := 2) hx hb dX11_hearsRuler_122 (by decide) ?_
        have hJ131 : ∀ (y131_s0 : Int32) (H : Heap) (locs : List Loc) (ls : Array Slot), In y131_s0 (-2147483648) 2147483647 → va_P g.1 vwCl (va_pl L f21) H → va_D A (va_pl L f21) → va_S A s.heap H locs → lv_has ls 4 [(0, .ref (ad 255)), (1, .int z1), (2, .int z2), (3, .int x11)] → W p l e rm_X11_hearsRuler s m [.ref (ad 255), .int z1, .int z2].toArray below meth c H locs 0 0 (MQ below (va_Qv (po_X11_hearsRuler g ad th L f z1 z2) (PstB g A) A) [.ref (ad 255), .int z1, .int z2].toArray s rm_X11_hearsRuler.cells rm_X11_hearsRuler.slots A) (F0 m 131 ls [.int y131_s0, .int z1, .ref (ad 261)]) := by
          intro y131_s0 H locs ls hy131_s0 hP hD hS hl
          obtain ⟨rw53, hf54⟩ := hT.2.2 6 (by decide)
          refine pl_iastE hx hb hG.1 hP hD hS (hst.1 261 (by decide)) 0 hf54 rfl (In.inb hz1 (by decide) (by decide)) dX11_hearsRuler_131 (fun H locs f55 r58 er58 hf56 ho57 hP hD hS => ?_)
          have hf59 := (ho57 (ad 255) (hst.ne (by decide) (by decide) (by decide))).trans hf25
          have hf60 := (ho57 (ad 268) (hst.ne (by decide) (by decide) (by decide))).trans hf26
          have hf61 := (ho57 (ad 269) (hst.ne (by decide) (by decide) (by decide))).trans hf27
          have hf62 := (ho57 (ad 270) (hst.ne (by decide) (by decide) (by decide))).trans hf22
          have hfr : (∀ b, b ≠ (ad 270) → b ≠ (ad 261) → b ≠ (ad 262) → f55 b = f b) := fun b z0_ z1_ z2_ => (ho57 b z1_).trans (hfr b z0_ z1_ z2_)
          have hT := TI.updM hT hst (k := 6) (by decide) hf56 ho57 ⟨r58, rfl⟩
          refine lv_goto (tgt := 155) hx hb dX11_hearsRuler_132 (by decide) ?_
          exact ret_v hx hb hr hlocks hP hD hS (Nat.le_of_ble_eq_true rfl) (Nat.le_of_ble_eq_true rfl) (⟨rfl, hT, hfr⟩) dX11_hearsRuler_155
        refine lv_icmp_ne (tgt := 130) hx hb dX11_hearsRuler_123 (by decide) (fun c63 => ?_) (fun c63 => ?_)
        ·
          refine lv_iload_n hx hb dX11_hearsRuler_130 rfl (lv_at hl 3 rfl) ?_
          exact hJ131 x11 _ _ _ (In.full x11) hP hD hS (lv_sub hl [0, 1, 2, 3] rfl)
        ·
          have cc64 : x11.toInt = (2 : Int32).toInt := congrArg Int32.toInt c63
          have hb65 : In x11 2 2 := In.eq1 (In.full x11) (⟨by decide, by decide⟩ : In 2 2 2) cc64 (by omega) (by omega)
          refine lv_iconst (v := 0) hx hb dX11_hearsRuler_126 (by decide) ?_
          refine lv_goto (tgt := 131) hx hb dX11_hearsRuler_127 (by decide) ?_
          exact hJ131 0 _ _ _ (⟨by decide, by decide⟩ : In 0 (-2147483648) 2147483647) hP hD hS (lv_sub hl [0, 1, 2, 3] rfl)
    have hJ101 : ∀ (H : Heap) (locs : List Loc) (ls : Array Slot), va_P g.1 vwCl (va_pl L f) H → va_D A (va_pl L f) → va_S A s.heap H locs → lv_has ls 4 [(0, .ref (ad 255)), (1, .int z1), (2, .int z2), (3, .int x11)] → W p l e rm_X11_hearsRuler s m [.ref (ad 255), .int z1, .int z2].toArray below meth c H locs 0 0 (MQ below (va_Qv (po_X11_hearsRuler g ad th L f z1 z2) (PstB g A) A) [.ref (ad 255), .int z1, .int z2].toArray s rm_X11_hearsRuler.cells rm_X11_hearsRuler.slots A) (F0 m 101 ls [.int z1, .ref (ad 270)]) := by
      intro H locs ls hP hD hS hl
      refine lv_iconst (v := 1) hx hb dX11_hearsRuler_101 (by decide) ?_
      refine lv_goto (tgt := 106) hx hb dX11_hearsRuler_102 (by decide) ?_
      exact hJ106 1 _ _ _ (⟨by decide, by decide⟩ : In 1 0 1) hP hD hS (lv_sub hl [0, 1, 2, 3] rfl)
    refine lv_if_eq (tgt := 101) hx hb dX11_hearsRuler_85 (by decide) (fun c66 => ?_) (fun c66 => ?_)
    ·
      have cc67 : v18_1.toInt = (0 : Int32).toInt := congrArg Int32.toInt c66
      have hb68 : In v18_1 0 0 := In.eq1 (In.full v18_1) (⟨by decide, by decide⟩ : In 0 0 0) cc67 (by omega) (by omega)
      exact hJ101 _ _ _ hP hD hS (lv_sub hl [1, 2, 3, 0] rfl)
    ·
      refine lv_aload_n hx hb dX11_hearsRuler_88 rfl (lv_at hl 1 rfl) ?_
      refine pl_get (v := .ref (ad 262)) hx hb hts (fun w h => mT (inX11 w h)) hown hG.1 hP (hst.1 255 (by decide)) hf2 rfl 27 (by decide) (hts _ (mT wg_1363)) (fun _ h => h) rfl dX11_hearsRuler_89 ?_
      refine lv_iload_n hx hb dX11_hearsRuler_92 rfl (lv_at hl 2 rfl) ?_
      obtain ⟨rw69, hf70⟩ := hT.2.2 7 (by decide)
      have hin71 : vp_in z1 9 := In.inb hz1 (by decide) (by decide)
      refine pl_iald hx hb hG.1 hP (hst.1 262 (by decide)) 0 hf70 rfl hin71 dX11_hearsRuler_93 ?_
      refine lv_topi (fun x72 ex72 => ?_)
      refine lv_iload_n hx hb dX11_hearsRuler_94 rfl (lv_at hl 3 rfl) ?_
      refine call_i (run_S (rm := rm_X11_has) hx hb hml hown hts (s_X11_has l g ad th _ _ _ x72 z2 hst hT ) cS_X11_has wg_1563 ⟨Nat.le_of_ble_eq_true rfl, Nat.le_of_ble_eq_true rfl⟩ hG hE hA hP hD hS rfl hl.1 (As := [.int x72, .int z2]) (rest := [.int z1, .ref (ad 270)]) rfl (Nat.le_of_ble_eq_true rfl) dX11_hearsRuler_95 ⟨Nat.le_of_ble_eq_true rfl, Nat.le_of_ble_eq_true rfl⟩) hA hD hS (fun r73 L74 f75 H locs hp76 hP hD hS => ?_)
      obtain ⟨eL77L, eL77T, eL77R⟩ := hp76
      have eL77L : L74 = L := eL77L
      have eL77T : f75 = f := eL77T
      rw [eL77L, eL77T] at hP hD
      have eL77R : In r73 0 1 := eL77R
      refine lv_if_ne (tgt := 105) hx hb dX11_hearsRuler_98 (by decide) (fun c78 => ?_) (fun c78 => ?_)
      ·
        have cc79 : r73.toInt ≠ (0 : Int32).toInt := i32_ne c78
        have hb80 : In r73 1 1 := In.ne1 eL77R (⟨by decide, by decide⟩ : In 0 0 0) cc79 (by omega) (by omega)
        refine lv_iconst (v := 0) hx hb dX11_hearsRuler_105 (by decide) ?_
        exact hJ106 0 _ _ _ (⟨by decide, by decide⟩ : In 0 0 1) hP hD hS (lv_sub hl [1, 2, 3, 0] rfl)
      ·
        have cc81 : r73.toInt = (0 : Int32).toInt := congrArg Int32.toInt c78
        have hb82 : In r73 0 0 := In.eq1 eL77R (⟨by decide, by decide⟩ : In 0 0 0) cc81 (by omega) (by omega)
        exact hJ101 _ _ _ hP hD hS (lv_sub hl [1, 2, 3, 0] rfl)
  ·
    refine lv_aload_n hx hb dX11_hearsRuler_21 rfl (lv_at hl 1 rfl) ?_
    refine pl_get (v := .int v14_1) hx hb hts (fun w h => mT (inX11 w h)) hown hG.1 hP (hst.1 255 (by decide)) hf2 rfl 14 (by decide) (hts _ (mT wg_1350)) (fun _ h => h) rfl dX11_hearsRuler_22 ?_
    refine lv_iconst (v := 1) hx hb dX11_hearsRuler_25 (by decide) ?_
    have hJ41 : ∀ (f_41 : HP) (H : Heap) (locs : List Loc) (ls : Array Slot), va_P g.1 vwCl (va_pl L f_41) H → va_D A (va_pl L f_41) → va_S A s.heap H locs → TI g ad th f_41 → (∀ b, b ≠ (ad 270) → b ≠ (ad 261) → b ≠ (ad 262) → f_41 b = f b) → f_41 (ad 255) = .inr (10, [.int v0_1, .ref (ad 256), .int v2_1, .int v3_1, .int v4_1, .int v5_1, .int v6_1, .ref (ad 257), .int v8_1, .int v9_1, .ref (ad 258), .ref (ad 259), .int v12_1, .int v13_1, .int v14_1, .int v15_1, .int v16_1, .int v17_1, .int v18_1, .int v19_1, .int v20_1, .long v21_1, .long v22_1, .int v23_1, .ref (ad 260), .int v25_1, .ref (ad 261), .ref (ad 262), .ref (ad 263), .ref (ad 264), .ref (ad 265), .ref (ad 266), .ref (ad 267), .ref (ad 268), .ref (ad 269), .ref (ad 270), .int v36_1, .int v37_1, .int v38_1, .int v39_1, .int v40_1, .ref (ad 271), .ref (ad 272), .ref (ad 273), .ref (ad 274), .long v45_1, .long v46_1, .int v47_1, .int v48_1, .ref (ad 275), .int v50_1, .int v51_1, .ref (ad 276), .int v53_1, .ref (ad 277), .int v55_1]) → f_41 (ad 268) = .inl (g.2.1 0, 81, .inl (rw8)) → f_41 (ad 269) = .inl (g.2.1 3, 9, .inl (rw12)) → lv_has ls 4 [(0, .ref (ad 255)), (1, .int z1), (2, .int z2), (3, .int x11)] → W p l e rm_X11_hearsRuler s m [.ref (ad 255), .int z1, .int z2].toArray below meth c H locs 0 0 (MQ below (va_Qv (po_X11_hearsRuler g ad th L f z1 z2) (PstB g A) A) [.ref (ad 255), .int z1, .int z2].toArray s rm_X11_hearsRuler.cells rm_X11_hearsRuler.slots A) (F0 m 41 ls []) := by
      intro f_41 H locs ls hP hD hS hT hfr hf83 hf84 hf85 hl
      refine lv_aload_n hx hb dX11_hearsRuler_41 rfl (lv_at hl 0 rfl) ?_
      refine pl_get (v := .ref (ad 270)) hx hb hts (fun w h => mT (inX11 w h)) hown hG.1 hP (hst.1 255 (by decide)) hf83 rfl 35 (by decide) (hts _ (mT wg_1371)) (fun _ h => h) rfl dX11_hearsRuler_42 ?_
      refine lv_iload_n hx hb dX11_hearsRuler_45 rfl (lv_at hl 1 rfl) ?_
      refine lv_iconst (v := 0) hx hb dX11_hearsRuler_46 (by decide) ?_
      obtain ⟨rw86, hf87⟩ := hT.2.2 15 (by decide)
      refine pl_zastE hx hb hG.1 hP hD hS (hst.1 270 (by decide)) 3 hf87 rfl (In.inb hz1 (by decide) (by decide)) dX11_hearsRuler_47 (fun H locs f88 r91 er91 hf89 ho90 hP hD hS => ?_)
      have hf92 := (ho90 (ad 255) (hst.ne (by decide) (by decide) (by decide))).trans hf83
      have hf93 := (ho90 (ad 268) (hst.ne (by decide) (by decide) (by decide))).trans hf84
      have hf94 := (ho90 (ad 269) (hst.ne (by decide) (by decide) (by decide))).trans hf85
      have hfr : (∀ b, b ≠ (ad 270) → b ≠ (ad 261) → b ≠ (ad 262) → f88 b = f b) := fun b z0_ z1_ z2_ => (ho90 b z0_).trans (hfr b z0_ z1_ z2_)
      refine lv_iload_n hx hb dX11_hearsRuler_48 rfl (lv_at hl 3 rfl) ?_
      refine lv_aload_n hx hb dX11_hearsRuler_49 rfl (lv_at hl 0 rfl) ?_
      refine pl_get (v := .ref (ad 261)) hx hb hts (fun w h => mT (inX11 w h)) hown hG.1 hP (hst.1 255 (by decide)) hf92 rfl 26 (by decide) (hts _ (mT wg_1362)) (fun _ h => h) rfl dX11_hearsRuler_50 ?_
      refine lv_iload_n hx hb dX11_hearsRuler_53 rfl (lv_at hl 1 rfl) ?_
      have hT := TI.updM hT hst (k := 15) (by decide) hf89 ho90 ⟨r91, rfl⟩
      obtain ⟨rw95, hf96⟩ := hT.2.2 6 (by decide)
      have hin97 : vp_in z1 9 := In.inb hz1 (by decide) (by decide)
      refine pl_iald hx hb hG.1 hP (hst.1 261 (by decide)) 0 hf96 rfl hin97 dX11_hearsRuler_54 ?_
      refine lv_topi (fun x98 ex98 => ?_)
      refine lv_icmp_eq (tgt := 75) hx hb dX11_hearsRuler_55 (by decide) (fun c99 => ?_) (fun c99 => ?_)
      ·
        exact ret_v hx hb hr hlocks hP hD hS (Nat.le_of_ble_eq_true rfl) (Nat.le_of_ble_eq_true rfl) (⟨rfl, hT, hfr⟩) dX11_hearsRuler_75
      ·
        refine lv_iload_n hx hb dX11_hearsRuler_58 rfl (lv_at hl 1 rfl) ?_
        refine lv_iload_n hx hb dX11_hearsRuler_59 rfl (lv_at hl 2 rfl) ?_
        refine lv_icmp_eq (tgt := 75) hx hb dX11_hearsRuler_60 (by decide) (fun c100 => ?_) (fun c100 => ?_)
        ·
          exact ret_v hx hb hr hlocks hP hD hS (Nat.le_of_ble_eq_true rfl) (Nat.le_of_ble_eq_true rfl) (⟨rfl, hT, hfr⟩) dX11_hearsRuler_75
        ·
          refine lv_aload_n hx hb dX11_hearsRuler_63 rfl (lv_at hl 0 rfl) ?_
          refine pl_get (v := .ref (ad 262)) hx hb hts (fun w h => mT (inX11 w h)) hown hG.1 hP (hst.1 255 (by decide)) hf92 rfl 27 (by decide) (hts _ (mT wg_1363)) (fun _ h => h) rfl dX11_hearsRuler_64 ?_
          refine lv_iload_n hx hb dX11_hearsRuler_67 rfl (lv_at hl 1 rfl) ?_
          refine lv_dup2_11 hx hb dX11_hearsRuler_68 rfl rfl ?_
          obtain ⟨rw101, hf102⟩ := hT.2.2 7 (by decide)
          have hin103 : vp_in z1 9 := In.inb hz1 (by decide) (by decide)
          refine pl_iald hx hb hG.1 hP (hst.1 262 (by decide)) 0 hf102 rfl hin103 dX11_hearsRuler_69 ?_
          refine lv_topi (fun x104 ex104 => ?_)
          refine lv_iconst (v := 1) hx hb dX11_hearsRuler_70 (by decide) ?_
          refine lv_iload_n hx hb dX11_hearsRuler_71 rfl (lv_at hl 2 rfl) ?_
          refine lv_ishl hx hb dX11_hearsRuler_72 ?_
          refine lv_topi (fun x105 ex105 => ?_)
          have hb106 : In x105 1 256 := ex105 ▸ In.shl (⟨by decide, by decide⟩ : In 1 1 1) hz2 (by decide) (by decide) (by decide) (by decide) (by decide) (by decide)
          refine lv_ior hx hb dX11_hearsRuler_73 ?_
          refine lv_topi (fun x107 ex107 => ?_)
          refine pl_iastE hx hb hG.1 hP hD hS (hst.1 262 (by decide)) 0 hf102 rfl (In.inb hz1 (by decide) (by decide)) dX11_hearsRuler_74 (fun H locs f108 r111 er111 hf109 ho110 hP hD hS => ?_)
          have hf112 := (ho110 (ad 255) (hst.ne (by decide) (by decide) (by decide))).trans hf92
          have hf113 := (ho110 (ad 268) (hst.ne (by decide) (by decide) (by decide))).trans hf93
          have hf114 := (ho110 (ad 269) (hst.ne (by decide) (by decide) (by decide))).trans hf94
          have hf115 := (ho110 (ad 270) (hst.ne (by decide) (by decide) (by decide))).trans hf89
          have hf116 := (ho110 (ad 261) (hst.ne (by decide) (by decide) (by decide))).trans hf96
          have hfr : (∀ b, b ≠ (ad 270) → b ≠ (ad 261) → b ≠ (ad 262) → f108 b = f b) := fun b z0_ z1_ z2_ => (ho110 b z2_).trans (hfr b z0_ z1_ z2_)
          have hT := TI.updM hT hst (k := 7) (by decide) hf109 ho110 ⟨r111, rfl⟩
          exact ret_v hx hb hr hlocks hP hD hS (Nat.le_of_ble_eq_true rfl) (Nat.le_of_ble_eq_true rfl) (⟨rfl, hT, hfr⟩) dX11_hearsRuler_75
    refine lv_icmp_ne (tgt := 41) hx hb dX11_hearsRuler_26 (by decide) (fun c117 => ?_) (fun c117 => ?_)
    ·
      have cc118 : v14_1.toInt ≠ (1 : Int32).toInt := i32_ne c117
      have hb119 : In v14_1 0 0 := In.ne1 hv14_1 (⟨by decide, by decide⟩ : In 1 1 1) cc118 (by omega) (by omega)
      exact hJ41 _ _ _ _ hP hD hS hT hfr hf2 hf9 hf13 (lv_sub hl [1, 2, 3, 0] rfl)
    ·
      have cc120 : v14_1.toInt = (1 : Int32).toInt := congrArg Int32.toInt c117
      have hb121 : In v14_1 1 1 := In.eq1 hv14_1 (⟨by decide, by decide⟩ : In 1 1 1) cc120 (by omega) (by omega)
      refine lv_aload_n hx hb dX11_hearsRuler_29 rfl (lv_at hl 1 rfl) ?_
      refine pl_get (v := .ref (ad 261)) hx hb hts (fun w h => mT (inX11 w h)) hown hG.1 hP (hst.1 255 (by decide)) hf2 rfl 26 (by decide) (hts _ (mT wg_1362)) (fun _ h => h) rfl dX11_hearsRuler_30 ?_
      refine lv_iload_n hx hb dX11_hearsRuler_33 rfl (lv_at hl 2 rfl) ?_
      refine lv_aload_n hx hb dX11_hearsRuler_34 rfl (lv_at hl 1 rfl) ?_
      refine pl_get (v := .ref (ad 263)) hx hb hts (fun w h => mT (inX11 w h)) hown hG.1 hP (hst.1 255 (by decide)) hf2 rfl 28 (by decide) (hts _ (mT wg_1364)) (fun _ h => h) rfl dX11_hearsRuler_35 ?_
      refine lv_iload_n hx hb dX11_hearsRuler_38 rfl (lv_at hl 2 rfl) ?_
      obtain ⟨rw122, hf123⟩ := hT.2.2 8 (by decide)
      have hin124 : vp_in z1 9 := In.inb hz1 (by decide) (by decide)
      refine pl_iald hx hb hG.1 hP (hst.1 263 (by decide)) 0 hf123 rfl hin124 dX11_hearsRuler_39 ?_
      refine lv_topi (fun x125 ex125 => ?_)
      obtain ⟨rw126, hf127⟩ := hT.2.2 6 (by decide)
      refine pl_iastE hx hb hG.1 hP hD hS (hst.1 261 (by decide)) 0 hf127 rfl (In.inb hz1 (by decide) (by decide)) dX11_hearsRuler_40 (fun H locs f128 r131 er131 hf129 ho130 hP hD hS => ?_)
      have hf132 := (ho130 (ad 255) (hst.ne (by decide) (by decide) (by decide))).trans hf2
      have hf133 := (ho130 (ad 268) (hst.ne (by decide) (by decide) (by decide))).trans hf9
      have hf134 := (ho130 (ad 269) (hst.ne (by decide) (by decide) (by decide))).trans hf13
      have hf135 := (ho130 (ad 263) (hst.ne (by decide) (by decide) (by decide))).trans hf123
      have hfr : (∀ b, b ≠ (ad 270) → b ≠ (ad 261) → b ≠ (ad 262) → f128 b = f b) := fun b z0_ z1_ z2_ => (ho130 b z1_).trans (hfr b z0_ z1_ z2_)
      have hT := TI.updM hT hst (k := 6) (by decide) hf129 ho130 ⟨r131, rfl⟩
      exact hJ41 _ _ _ _ hP hD hS hT hfr hf132 hf133 hf134 (lv_sub hl [1, 2, 3, 0] rfl)

abbrev rm_X11_holders : Room := { frames := 0, cells := 0, slots := 0, locals := 0 }
abbrev po_X11_holders (g : GG) (ad : Nat → Nat) (th : Nat → Int) (L : List Nat) (f : HP)  : Int32 → (List Nat × HP) → Prop := fun _ u => u.1 = L ∧ u.2 = f
set_option maxHeartbeats 4000000 in
set_option maxRecDepth 100000 in
theorem s_X11_holders (l : Launch) (g : GG) (ad : Nat → Nat) (th : Nat → Int) (L : List Nat) (f : HP) (sz : Nat)  (hst : ST ad L) (hT : TI g ad th f)  : MtI l g yX11_holders cX11_holders 3 (some .int) rm_X11_holders [.ref (ad 255)] L f sz (po_X11_holders g ad th L f ) := by
  refine MtI.of (by decide +kernel) (Nat.le_of_ble_eq_true rfl) ?_
  intro p e s m below meth c A hEn hP hD hS ls hl
  obtain ⟨hx, hb, hr, hml, hown, hlocks, hts, hG, hA, hE, hnm⟩ := hEn
  have hown : s.vm.findClass "RulerWordModel" = some m.cls := hown
  have hl : lv_has ls 3 [(0, .ref (ad 255))] := hl
  refine lv_iconst (v := 0) hx hb dX11_holders_0 (by decide) ?_
  refine lv_istore_n (lv' := [(1, .int 0), (0, .ref (ad 255))]) hx hb dX11_holders_1 rfl hl (by decide) rfl (fun ls hl => ?_)
  refine lv_iconst (v := 0) hx hb dX11_holders_2 (by decide) ?_
  refine lv_istore_n (lv' := [(2, .int 0), (1, .int 0), (0, .ref (ad 255))]) hx hb dX11_holders_3 rfl hl (by decide) rfl (fun ls hl => ?_)
  have hJ4 : ∀ (k4 : Nat) (y4_l1 : Int32) (y4_l2 : Int32) (H : Heap) (locs : List Loc) (ls : Array Slot), In y4_l1 (-2147483648) 2147483647 → In y4_l2 0 9 → va_P g.1 vwCl (va_pl L f) H → va_D A (va_pl L f) → va_S A s.heap H locs → lv_has ls 3 [(0, .ref (ad 255)), (1, .int y4_l1), (2, .int y4_l2)] → 9 - y4_l2.toInt < ((k4 : Nat) : Int) → W p l e rm_X11_holders s m [.ref (ad 255)].toArray below meth c H locs 0 0 (MQ below (va_Qi (po_X11_holders g ad th L f ) (PstB g A) A) [.ref (ad 255)].toArray s rm_X11_holders.cells rm_X11_holders.slots A) (F0 m 4 ls []) := by
    intro k4
    induction k4 with
    | zero =>
      intro y4_l1 y4_l2 H locs ls hy4_l1 hy4_l2 hP hD hS hl hmz4
      exact ms0 hy4_l2 hmz4
    | succ k4 ih4 =>
      intro y4_l1 y4_l2 H locs ls hy4_l1 hy4_l2 hP hD hS hl hmz4
      refine lv_iload_n hx hb dX11_holders_4 rfl (lv_at hl 2 rfl) ?_
      refine lv_aload_n hx hb dX11_holders_5 rfl (lv_at hl 0 rfl) ?_
      obtain ⟨v0_1, v2_1, v3_1, v4_1, v5_1, v6_1, v8_1, v9_1, v12_1, v13_1, v14_1, v15_1, v16_1, v17_1, v18_1, v19_1, v20_1, v21_1, v22_1, v23_1, v25_1, v36_1, v37_1, v38_1, v39_1, v40_1, v45_1, v46_1, v47_1, v48_1, v50_1, v51_1, v53_1, v55_1, hf2, hv0_1, hv2_1, hv3_1, hv4_1, hv5_1, hv6_1, hv8_1, hv12_1, hv13_1, hv14_1, hg14_1, hv15_1, hg15_1, hv17_1, hg17_1, hv20_1, hv23_1, hg23_1, hv25_1, hv36_1, hv47_1, hv48_1, hv53_1, hv55_1⟩ := hT.2.2 0 (by decide)
      refine pl_get (v := .int v15_1) hx hb hts (fun w h => mT (inX11 w h)) hown hG.1 hP (hst.1 255 (by decide)) hf2 rfl 15 (by decide) (hts _ (mT wg_1351)) (fun _ h => h) rfl dX11_holders_6 ?_
      refine lv_icmp_ge (tgt := 29) hx hb dX11_holders_9 (by decide) (fun c3 => ?_) (fun c3 => ?_)
      ·
        refine lv_iload_n hx hb dX11_holders_29 rfl (lv_at hl 1 rfl) ?_
        exact ret_i (ty := .int) hx hb hr hlocks (rfl) hP hD hS (Nat.le_of_ble_eq_true rfl) (Nat.le_of_ble_eq_true rfl) (⟨rfl, rfl⟩) dX11_holders_30
      ·
        have cc4 : y4_l2.toInt < v15_1.toInt := i32_nle c3
        have hb5 : In y4_l2 0 8 := In.lt1 hy4_l2 hv15_1 cc4 (by omega) (by omega)
        have hb6 : In v15_1 1 9 := In.lt2 hy4_l2 hv15_1 cc4 (by omega) (by omega)
        refine lv_iload_n hx hb dX11_holders_12 rfl (lv_at hl 1 rfl) ?_
        refine lv_aload_n hx hb dX11_holders_13 rfl (lv_at hl 0 rfl) ?_
        refine pl_get (v := .ref (ad 261)) hx hb hts (fun w h => mT (inX11 w h)) hown hG.1 hP (hst.1 255 (by decide)) hf2 rfl 26 (by decide) (hts _ (mT wg_1362)) (fun _ h => h) rfl dX11_holders_14 ?_
        refine lv_iload_n hx hb dX11_holders_17 rfl (lv_at hl 2 rfl) ?_
        obtain ⟨rw7, hf8⟩ := hT.2.2 6 (by decide)
        have hin9 : vp_in y4_l2 9 := In.inb hb5 (by decide) (by decide)
        refine pl_iald hx hb hG.1 hP (hst.1 261 (by decide)) 0 hf8 rfl hin9 dX11_holders_18 ?_
        refine lv_topi (fun x10 ex10 => ?_)
        refine lv_iload_n hx hb dX11_holders_19 rfl (lv_at hl 2 rfl) ?_
        refine lv_ishl hx hb dX11_holders_20 ?_
        refine lv_topi (fun x11 ex11 => ?_)
        refine lv_ior hx hb dX11_holders_21 ?_
        refine lv_topi (fun x12 ex12 => ?_)
        refine lv_istore_n (lv' := [(1, .int x12), (0, .ref (ad 255)), (2, .int y4_l2)]) hx hb dX11_holders_22 rfl hl (by decide) rfl (fun ls hl => ?_)
        obtain ⟨x13, ex13⟩ : ∃ y : Int32, y = y4_l2 + 1 := ⟨_, rfl⟩
        have hb14 : In x13 1 9 := ex13 ▸ In.add hb5 (⟨by decide, by decide⟩ : In 1 1 1) (by decide) (by decide) (by decide) (by decide)
        have et15 : x13.toInt = y4_l2.toInt + 1 := In.adde ex13 hb5 (k := 1) (by decide) (by decide) (by decide)
        refine lv_iinc (v := x13) (lv' := [(2, .int x13), (1, .int x12), (0, .ref (ad 255))]) hx hb dX11_holders_23 hl (k := 2) rfl (by rw [ex13]; rfl) (by decide) rfl (fun ls hl => ?_)
        refine lv_goto (tgt := 4) hx hb dX11_holders_26 (by decide) ?_
        exact ih4 x12 x13 _ _ _ (In.full x12) (In.mono hb14 (by decide) (by decide)) hP hD hS (lv_sub hl [2, 1, 0] rfl) (msu et15 (by decide) hmz4)
  exact hJ4 ((9 - (0 : Int32).toInt).toNat + 1) 0 0 _ _ _ (⟨by decide, by decide⟩ : In 0 (-2147483648) 2147483647) (⟨by decide, by decide⟩ : In 0 0 9) hP hD hS (lv_sub hl [2, 1, 0] rfl) (msI _)

abbrev rm_X11_laysDown : Room := { frames := 0, cells := 0, slots := 0, locals := 0 }
abbrev po_X11_laysDown (g : GG) (ad : Nat → Nat) (th : Nat → Int) (L : List Nat) (f : HP)  : (List Nat × HP) → Prop := fun u => u.1 = L ∧ TI g ad th u.2 ∧ (∀ b, b ≠ (ad 255) → b ≠ (ad 271) → u.2 b = f b)
set_option maxHeartbeats 4000000 in
set_option maxRecDepth 100000 in
theorem s_X11_laysDown (l : Launch) (g : GG) (ad : Nat → Nat) (th : Nat → Int) (L : List Nat) (f : HP) (sz : Nat)  (hst : ST ad L) (hT : TI g ad th f)  : MtV l g yX11_laysDown cX11_laysDown 2 rm_X11_laysDown [.ref (ad 255)] L f sz (po_X11_laysDown g ad th L f ) := by
  refine MtV.of (by decide +kernel) (Nat.le_of_ble_eq_true rfl) ?_
  intro p e s m below meth c A hEn hP hD hS ls hl
  obtain ⟨hx, hb, hr, hml, hown, hlocks, hts, hG, hA, hE, hnm⟩ := hEn
  have hown : s.vm.findClass "RulerWordModel" = some m.cls := hown
  have hl : lv_has ls 2 [(0, .ref (ad 255))] := hl
  have hfr : (∀ b, b ≠ (ad 255) → b ≠ (ad 271) → f b = f b) := fun b z0_ z1_ => rfl
  refine lv_iconst (v := 0) hx hb dX11_laysDown_0 (by decide) ?_
  refine lv_istore_n (lv' := [(1, .int 0), (0, .ref (ad 255))]) hx hb dX11_laysDown_1 rfl hl (by decide) rfl (fun ls hl => ?_)
  have hJ2 : ∀ (k2 : Nat) (y2_l1 : Int32) (f_2 : HP) (H : Heap) (locs : List Loc) (ls : Array Slot), In y2_l1 0 9 → va_P g.1 vwCl (va_pl L f_2) H → va_D A (va_pl L f_2) → va_S A s.heap H locs → TI g ad th f_2 → (∀ b, b ≠ (ad 255) → b ≠ (ad 271) → f_2 b = f b) → lv_has ls 2 [(0, .ref (ad 255)), (1, .int y2_l1)] → 9 - y2_l1.toInt < ((k2 : Nat) : Int) → W p l e rm_X11_laysDown s m [.ref (ad 255)].toArray below meth c H locs 0 0 (MQ below (va_Qv (po_X11_laysDown g ad th L f ) (PstB g A) A) [.ref (ad 255)].toArray s rm_X11_laysDown.cells rm_X11_laysDown.slots A) (F0 m 2 ls []) := by
    intro k2
    induction k2 with
    | zero =>
      intro y2_l1 f_2 H locs ls hy2_l1 hP hD hS hT hfr hl hmz2
      exact ms0 hy2_l1 hmz2
    | succ k2 ih2 =>
      intro y2_l1 f_2 H locs ls hy2_l1 hP hD hS hT hfr hl hmz2
      refine lv_iload_n hx hb dX11_laysDown_2 rfl (lv_at hl 1 rfl) ?_
      refine lv_bipush (v := 9) hx hb dX11_laysDown_3 (by decide) ?_
      refine lv_icmp_ge (tgt := 141) hx hb dX11_laysDown_5 (by decide) (fun c1 => ?_) (fun c1 => ?_)
      ·
        have cc2 : (9 : Int32).toInt ≤ y2_l1.toInt := i32_le.mp c1
        have hb3 : In y2_l1 9 9 := In.ge1 hy2_l1 (⟨by decide, by decide⟩ : In 9 9 9) cc2 (by omega) (by omega)
        refine lv_aload_n hx hb dX11_laysDown_141 rfl (lv_at hl 0 rfl) ?_
        obtain ⟨v0_4, v2_4, v3_4, v4_4, v5_4, v6_4, v8_4, v9_4, v12_4, v13_4, v14_4, v15_4, v16_4, v17_4, v18_4, v19_4, v20_4, v21_4, v22_4, v23_4, v25_4, v36_4, v37_4, v38_4, v39_4, v40_4, v45_4, v46_4, v47_4, v48_4, v50_4, v51_4, v53_4, v55_4, hf5, hv0_4, hv2_4, hv3_4, hv4_4, hv5_4, hv6_4, hv8_4, hv12_4, hv13_4, hv14_4, hg14_4, hv15_4, hg15_4, hv17_4, hg17_4, hv20_4, hv23_4, hg23_4, hv25_4, hv36_4, hv47_4, hv48_4, hv53_4, hv55_4⟩ := hT.2.2 0 (by decide)
        refine pl_get (v := .ref (ad 271)) hx hb hts (fun w h => mT (inX11 w h)) hown hG.1 hP (hst.1 255 (by decide)) hf5 rfl 41 (by decide) (hts _ (mT wg_1377)) (fun _ h => h) rfl dX11_laysDown_142 ?_
        refine lv_bipush (v := 72) hx hb dX11_laysDown_145 (by decide) ?_
        refine lv_aload_n hx hb dX11_laysDown_147 rfl (lv_at hl 0 rfl) ?_
        refine pl_get (v := .int v36_4) hx hb hts (fun w h => mT (inX11 w h)) hown hG.1 hP (hst.1 255 (by decide)) hf5 rfl 36 (by decide) (hts _ (mT wg_1372)) (fun _ h => h) rfl dX11_laysDown_148 ?_
        obtain ⟨rw6, hf7⟩ := hT.2.2 16 (by decide)
        refine pl_iastE hx hb hG.1 hP hD hS (hst.1 271 (by decide)) 0 hf7 rfl (In.inb (⟨by decide, by decide⟩ : In 72 72 72) (by decide) (by decide)) dX11_laysDown_151 (fun H locs f8 r11 er11 hf9 ho10 hP hD hS => ?_)
        have hf12 := (ho10 (ad 255) (hst.ne (by decide) (by decide) (by decide))).trans hf5
        have hfr : (∀ b, b ≠ (ad 255) → b ≠ (ad 271) → f8 b = f b) := fun b z0_ z1_ => (ho10 b z1_).trans (hfr b z0_ z1_)
        refine lv_aload_n hx hb dX11_laysDown_152 rfl (lv_at hl 0 rfl) ?_
        refine pl_get (v := .ref (ad 271)) hx hb hts (fun w h => mT (inX11 w h)) hown hG.1 hP (hst.1 255 (by decide)) hf12 rfl 41 (by decide) (hts _ (mT wg_1377)) (fun _ h => h) rfl dX11_laysDown_153 ?_
        refine lv_bipush (v := 73) hx hb dX11_laysDown_156 (by decide) ?_
        refine lv_aload_n hx hb dX11_laysDown_158 rfl (lv_at hl 0 rfl) ?_
        refine pl_get (v := .int v37_4) hx hb hts (fun w h => mT (inX11 w h)) hown hG.1 hP (hst.1 255 (by decide)) hf12 rfl 37 (by decide) (hts _ (mT wg_1373)) (fun _ h => h) rfl dX11_laysDown_159 ?_
        refine pl_iastE hx hb hG.1 hP hD hS (hst.1 271 (by decide)) 0 hf9 rfl (In.inb (⟨by decide, by decide⟩ : In 73 73 73) (by decide) (by decide)) dX11_laysDown_162 (fun H locs f13 r16 er16 hf14 ho15 hP hD hS => ?_)
        have hf17 := (ho15 (ad 255) (hst.ne (by decide) (by decide) (by decide))).trans hf12
        have ho18 : ∀ b, b ≠ (ad 271) → f13 b = _ := fun b hb => (ho15 b hb).trans (ho10 b hb)
        have hfr : (∀ b, b ≠ (ad 255) → b ≠ (ad 271) → f13 b = f b) := fun b z0_ z1_ => (ho15 b z1_).trans (hfr b z0_ z1_)
        refine lv_aload_n hx hb dX11_laysDown_163 rfl (lv_at hl 0 rfl) ?_
        refine pl_get (v := .ref (ad 271)) hx hb hts (fun w h => mT (inX11 w h)) hown hG.1 hP (hst.1 255 (by decide)) hf17 rfl 41 (by decide) (hts _ (mT wg_1377)) (fun _ h => h) rfl dX11_laysDown_164 ?_
        refine lv_bipush (v := 74) hx hb dX11_laysDown_167 (by decide) ?_
        refine lv_aload_n hx hb dX11_laysDown_169 rfl (lv_at hl 0 rfl) ?_
        refine pl_get (v := .int v38_4) hx hb hts (fun w h => mT (inX11 w h)) hown hG.1 hP (hst.1 255 (by decide)) hf17 rfl 38 (by decide) (hts _ (mT wg_1374)) (fun _ h => h) rfl dX11_laysDown_170 ?_
        refine pl_iastE hx hb hG.1 hP hD hS (hst.1 271 (by decide)) 0 hf14 rfl (In.inb (⟨by decide, by decide⟩ : In 74 74 74) (by decide) (by decide)) dX11_laysDown_173 (fun H locs f19 r22 er22 hf20 ho21 hP hD hS => ?_)
        have hf23 := (ho21 (ad 255) (hst.ne (by decide) (by decide) (by decide))).trans hf17
        have ho24 : ∀ b, b ≠ (ad 271) → f19 b = _ := fun b hb => (ho21 b hb).trans (ho18 b hb)
        have hfr : (∀ b, b ≠ (ad 255) → b ≠ (ad 271) → f19 b = f b) := fun b z0_ z1_ => (ho21 b z1_).trans (hfr b z0_ z1_)
        refine lv_aload_n hx hb dX11_laysDown_174 rfl (lv_at hl 0 rfl) ?_
        refine pl_get (v := .ref (ad 271)) hx hb hts (fun w h => mT (inX11 w h)) hown hG.1 hP (hst.1 255 (by decide)) hf23 rfl 41 (by decide) (hts _ (mT wg_1377)) (fun _ h => h) rfl dX11_laysDown_175 ?_
        refine lv_bipush (v := 75) hx hb dX11_laysDown_178 (by decide) ?_
        refine lv_aload_n hx hb dX11_laysDown_180 rfl (lv_at hl 0 rfl) ?_
        refine pl_get (v := .int v19_4) hx hb hts (fun w h => mT (inX11 w h)) hown hG.1 hP (hst.1 255 (by decide)) hf23 rfl 19 (by decide) (hts _ (mT wg_1355)) (fun _ h => h) rfl dX11_laysDown_181 ?_
        refine pl_iastE hx hb hG.1 hP hD hS (hst.1 271 (by decide)) 0 hf20 rfl (In.inb (⟨by decide, by decide⟩ : In 75 75 75) (by decide) (by decide)) dX11_laysDown_184 (fun H locs f25 r28 er28 hf26 ho27 hP hD hS => ?_)
        have hf29 := (ho27 (ad 255) (hst.ne (by decide) (by decide) (by decide))).trans hf23
        have ho30 : ∀ b, b ≠ (ad 271) → f25 b = _ := fun b hb => (ho27 b hb).trans (ho24 b hb)
        have hfr : (∀ b, b ≠ (ad 255) → b ≠ (ad 271) → f25 b = f b) := fun b z0_ z1_ => (ho27 b z1_).trans (hfr b z0_ z1_)
        refine lv_aload_n hx hb dX11_laysDown_185 rfl (lv_at hl 0 rfl) ?_
        refine pl_get (v := .ref (ad 271)) hx hb hts (fun w h => mT (inX11 w h)) hown hG.1 hP (hst.1 255 (by decide)) hf29 rfl 41 (by decide) (hts _ (mT wg_1377)) (fun _ h => h) rfl dX11_laysDown_186 ?_
        refine lv_bipush (v := 76) hx hb dX11_laysDown_189 (by decide) ?_
        refine lv_aload_n hx hb dX11_laysDown_191 rfl (lv_at hl 0 rfl) ?_
        refine pl_get (v := .int v20_4) hx hb hts (fun w h => mT (inX11 w h)) hown hG.1 hP (hst.1 255 (by decide)) hf29 rfl 20 (by decide) (hts _ (mT wg_1356)) (fun _ h => h) rfl dX11_laysDown_192 ?_
        refine pl_iastE hx hb hG.1 hP hD hS (hst.1 271 (by decide)) 0 hf26 rfl (In.inb (⟨by decide, by decide⟩ : In 76 76 76) (by decide) (by decide)) dX11_laysDown_195 (fun H locs f31 r34 er34 hf32 ho33 hP hD hS => ?_)
        have hf35 := (ho33 (ad 255) (hst.ne (by decide) (by decide) (by decide))).trans hf29
        have ho36 : ∀ b, b ≠ (ad 271) → f31 b = _ := fun b hb => (ho33 b hb).trans (ho30 b hb)
        have hfr : (∀ b, b ≠ (ad 255) → b ≠ (ad 271) → f31 b = f b) := fun b z0_ z1_ => (ho33 b z1_).trans (hfr b z0_ z1_)
        refine lv_aload_n hx hb dX11_laysDown_196 rfl (lv_at hl 0 rfl) ?_
        refine pl_get (v := .ref (ad 271)) hx hb hts (fun w h => mT (inX11 w h)) hown hG.1 hP (hst.1 255 (by decide)) hf35 rfl 41 (by decide) (hts _ (mT wg_1377)) (fun _ h => h) rfl dX11_laysDown_197 ?_
        refine lv_bipush (v := 77) hx hb dX11_laysDown_200 (by decide) ?_
        refine lv_aload_n hx hb dX11_laysDown_202 rfl (lv_at hl 0 rfl) ?_
        refine pl_get (v := .int v25_4) hx hb hts (fun w h => mT (inX11 w h)) hown hG.1 hP (hst.1 255 (by decide)) hf35 rfl 25 (by decide) (hts _ (mT wg_1361)) (fun _ h => h) rfl dX11_laysDown_203 ?_
        refine pl_iastE hx hb hG.1 hP hD hS (hst.1 271 (by decide)) 0 hf32 rfl (In.inb (⟨by decide, by decide⟩ : In 77 77 77) (by decide) (by decide)) dX11_laysDown_206 (fun H locs f37 r40 er40 hf38 ho39 hP hD hS => ?_)
        have hf41 := (ho39 (ad 255) (hst.ne (by decide) (by decide) (by decide))).trans hf35
        have ho42 : ∀ b, b ≠ (ad 271) → f37 b = _ := fun b hb => (ho39 b hb).trans (ho36 b hb)
        have hfr : (∀ b, b ≠ (ad 255) → b ≠ (ad 271) → f37 b = f b) := fun b z0_ z1_ => (ho39 b z1_).trans (hfr b z0_ z1_)
        refine lv_iconst (v := 0) hx hb dX11_laysDown_207 (by decide) ?_
        refine lv_istore_n (lv' := [(1, .int 0), (0, .ref (ad 255))]) hx hb dX11_laysDown_208 rfl hl (by decide) rfl (fun ls hl => ?_)
        have hT := TI.updM hT hst (k := 16) (by decide) hf38 ho42 ⟨r40, rfl⟩
        have hJ209 : ∀ (k209 : Nat) (y209_l1 : Int32) (f_209 : HP) (H : Heap) (locs : List Loc) (ls : Array Slot), In y209_l1 0 2147483647 → va_P g.1 vwCl (va_pl L f_209) H → va_D A (va_pl L f_209) → va_S A s.heap H locs → TI g ad th f_209 → (∀ b, b ≠ (ad 255) → b ≠ (ad 271) → f_209 b = f b) → f_209 (ad 255) = .inr (10, [.int v0_4, .ref (ad 256), .int v2_4, .int v3_4, .int v4_4, .int v5_4, .int v6_4, .ref (ad 257), .int v8_4, .int v9_4, .ref (ad 258), .ref (ad 259), .int v12_4, .int v13_4, .int v14_4, .int v15_4, .int v16_4, .int v17_4, .int v18_4, .int v19_4, .int v20_4, .long v21_4, .long v22_4, .int v23_4, .ref (ad 260), .int v25_4, .ref (ad 261), .ref (ad 262), .ref (ad 263), .ref (ad 264), .ref (ad 265), .ref (ad 266), .ref (ad 267), .ref (ad 268), .ref (ad 269), .ref (ad 270), .int v36_4, .int v37_4, .int v38_4, .int v39_4, .int v40_4, .ref (ad 271), .ref (ad 272), .ref (ad 273), .ref (ad 274), .long v45_4, .long v46_4, .int v47_4, .int v48_4, .ref (ad 275), .int v50_4, .int v51_4, .ref (ad 276), .int v53_4, .ref (ad 277), .int v55_4]) → lv_has ls 2 [(0, .ref (ad 255)), (1, .int y209_l1)] → 2147483647 - y209_l1.toInt < ((k209 : Nat) : Int) → W p l e rm_X11_laysDown s m [.ref (ad 255)].toArray below meth c H locs 0 0 (MQ below (va_Qv (po_X11_laysDown g ad th L f ) (PstB g A) A) [.ref (ad 255)].toArray s rm_X11_laysDown.cells rm_X11_laysDown.slots A) (F0 m 209 ls []) := by
          intro k209
          induction k209 with
          | zero =>
            intro y209_l1 f_209 H locs ls hy209_l1 hP hD hS hT hfr hf43 hl hmz209
            exact ms0 hy209_l1 hmz209
          | succ k209 ih209 =>
            intro y209_l1 f_209 H locs ls hy209_l1 hP hD hS hT hfr hf43 hl hmz209
            refine lv_iload_n hx hb dX11_laysDown_209 rfl (lv_at hl 1 rfl) ?_
            refine lv_sipush (v := 150) hx hb dX11_laysDown_210 (by decide) ?_
            refine lv_icmp_ge (tgt := 238) hx hb dX11_laysDown_213 (by decide) (fun c44 => ?_) (fun c44 => ?_)
            ·
              have cc45 : (150 : Int32).toInt ≤ y209_l1.toInt := i32_le.mp c44
              have hb46 : In y209_l1 150 2147483647 := In.ge1 hy209_l1 (⟨by decide, by decide⟩ : In 150 150 150) cc45 (by omega) (by omega)
              refine lv_aload_n hx hb dX11_laysDown_238 rfl (lv_at hl 0 rfl) ?_
              refine lv_aload_n hx hb dX11_laysDown_239 rfl (lv_at hl 0 rfl) ?_
              refine pl_get (v := .long v22_4) hx hb hts (fun w h => mT (inX11 w h)) hown hG.1 hP (hst.1 255 (by decide)) hf43 rfl 22 (by decide) (hts _ (mT wg_1358)) (fun _ h => h) rfl dX11_laysDown_240 ?_
              refine pl_put (ty := .long) (v := .long v22_4) (fs' := [.int v0_4, .ref (ad 256), .int v2_4, .int v3_4, .int v4_4, .int v5_4, .int v6_4, .ref (ad 257), .int v8_4, .int v9_4, .ref (ad 258), .ref (ad 259), .int v12_4, .int v13_4, .int v14_4, .int v15_4, .int v16_4, .int v17_4, .int v18_4, .int v19_4, .int v20_4, .long v21_4, .long v22_4, .int v23_4, .ref (ad 260), .int v25_4, .ref (ad 261), .ref (ad 262), .ref (ad 263), .ref (ad 264), .ref (ad 265), .ref (ad 266), .ref (ad 267), .ref (ad 268), .ref (ad 269), .ref (ad 270), .int v36_4, .int v37_4, .int v38_4, .int v39_4, .int v40_4, .ref (ad 271), .ref (ad 272), .ref (ad 273), .ref (ad 274), .long v22_4, .long v46_4, .int v47_4, .int v48_4, .ref (ad 275), .int v50_4, .int v51_4, .ref (ad 276), .int v53_4, .ref (ad 277), .int v55_4]) hx hb hts (fun w h => mT (inX11 w h)) tyX11 tyX11_ok nmX11 hown hG.1 hP hD hS (hst.1 255 (by decide)) hf43 rfl 45 (by decide) (hts _ (mT wg_1381)) (fun _ h => h) rfl (by decide +kernel) (rfl) (rfl) (Nat.le_of_ble_eq_true rfl) rfl dX11_laysDown_243 (fun H locs f47 hf48 ho49 hP hD hS => ?_)
              have hfr : (∀ b, b ≠ (ad 255) → b ≠ (ad 271) → f47 b = f b) := fun b z0_ z1_ => (ho49 b z0_).trans (hfr b z0_ z1_)
              have hT := TI.updM hT hst (k := 0) (by decide) hf48 ho49 ⟨v0_4, v2_4, v3_4, v4_4, v5_4, v6_4, v8_4, v9_4, v12_4, v13_4, v14_4, v15_4, v16_4, v17_4, v18_4, v19_4, v20_4, v21_4, v22_4, v23_4, v25_4, v36_4, v37_4, v38_4, v39_4, v40_4, v22_4, v46_4, v47_4, v48_4, v50_4, v51_4, v53_4, v55_4, rfl, hv0_4, hv2_4, hv3_4, hv4_4, hv5_4, hv6_4, hv8_4, hv12_4, hv13_4, hv14_4, hg14_4, hv15_4, hg15_4, hv17_4, hg17_4, hv20_4, hv23_4, hg23_4, hv25_4, hv36_4, hv47_4, hv48_4, hv53_4, hv55_4⟩
              exact ret_v hx hb hr hlocks hP hD hS (Nat.le_of_ble_eq_true rfl) (Nat.le_of_ble_eq_true rfl) (⟨rfl, hT, hfr⟩) dX11_laysDown_246
            ·
              have cc50 : y209_l1.toInt < (150 : Int32).toInt := i32_nle c44
              have hb51 : In y209_l1 0 149 := In.lt1 hy209_l1 (⟨by decide, by decide⟩ : In 150 150 150) cc50 (by omega) (by omega)
              refine lv_aload_n hx hb dX11_laysDown_216 rfl (lv_at hl 0 rfl) ?_
              refine pl_get (v := .ref (ad 271)) hx hb hts (fun w h => mT (inX11 w h)) hown hG.1 hP (hst.1 255 (by decide)) hf43 rfl 41 (by decide) (hts _ (mT wg_1377)) (fun _ h => h) rfl dX11_laysDown_217 ?_
              refine lv_sipush (v := 1976) hx hb dX11_laysDown_220 (by decide) ?_
              refine lv_iload_n hx hb dX11_laysDown_223 rfl (lv_at hl 1 rfl) ?_
              refine lv_iadd hx hb dX11_laysDown_224 ?_
              refine lv_topi (fun x52 ex52 => ?_)
              have hb53 : In x52 1976 2125 := ex52 ▸ In.add (⟨by decide, by decide⟩ : In 1976 1976 1976) hb51 (by decide) (by decide) (by decide) (by decide)
              have et54 : x52.toInt = (1976 : Int32).toInt + y209_l1.toInt := In.add2e ex52 (⟨by decide, by decide⟩ : In 1976 1976 1976) hb51 (by decide) (by decide)
              refine lv_aload_n hx hb dX11_laysDown_225 rfl (lv_at hl 0 rfl) ?_
              refine pl_get (v := .ref (ad 260)) hx hb hts (fun w h => mT (inX11 w h)) hown hG.1 hP (hst.1 255 (by decide)) hf43 rfl 24 (by decide) (hts _ (mT wg_1360)) (fun _ h => h) rfl dX11_laysDown_226 ?_
              refine lv_iload_n hx hb dX11_laysDown_229 rfl (lv_at hl 1 rfl) ?_
              obtain ⟨rw55, hf56⟩ := hT.2.2 5 (by decide)
              have hin57 : vp_in y209_l1 150 := In.inb hb51 (by decide) (by decide)
              refine pl_iald hx hb hG.1 hP (hst.1 260 (by decide)) 0 hf56 rfl hin57 dX11_laysDown_230 ?_
              refine lv_topi (fun x58 ex58 => ?_)
              obtain ⟨rw59, hf60⟩ := hT.2.2 16 (by decide)
              refine pl_iastE hx hb hG.1 hP hD hS (hst.1 271 (by decide)) 0 hf60 rfl (In.inb hb53 (by decide) (by decide)) dX11_laysDown_231 (fun H locs f61 r64 er64 hf62 ho63 hP hD hS => ?_)
              have hf65 := (ho63 (ad 255) (hst.ne (by decide) (by decide) (by decide))).trans hf43
              have hf66 := (ho63 (ad 260) (hst.ne (by decide) (by decide) (by decide))).trans hf56
              have hfr : (∀ b, b ≠ (ad 255) → b ≠ (ad 271) → f61 b = f b) := fun b z0_ z1_ => (ho63 b z1_).trans (hfr b z0_ z1_)
              obtain ⟨x67, ex67⟩ : ∃ y : Int32, y = y209_l1 + 1 := ⟨_, rfl⟩
              have hb68 : In x67 1 150 := ex67 ▸ In.add hb51 (⟨by decide, by decide⟩ : In 1 1 1) (by decide) (by decide) (by decide) (by decide)
              have et69 : x67.toInt = y209_l1.toInt + 1 := In.adde ex67 hb51 (k := 1) (by decide) (by decide) (by decide)
              refine lv_iinc (v := x67) (lv' := [(1, .int x67), (0, .ref (ad 255))]) hx hb dX11_laysDown_232 hl (k := 1) rfl (by rw [ex67]; rfl) (by decide) rfl (fun ls hl => ?_)
              have hT := TI.updM hT hst (k := 16) (by decide) hf62 ho63 ⟨r64, rfl⟩
              refine lv_goto (tgt := 209) hx hb dX11_laysDown_235 (by decide) ?_
              exact ih209 x67 _ _ _ _ (In.mono hb68 (by decide) (by decide)) hP hD hS hT hfr hf65 (lv_sub hl [1, 0] rfl) (msu et69 (by decide) hmz209)
        exact hJ209 ((2147483647 - (0 : Int32).toInt).toNat + 1) 0 _ _ _ _ (⟨by decide, by decide⟩ : In 0 0 2147483647) hP hD hS hT hfr hf41 (lv_sub hl [1, 0] rfl) (msI _)
      ·
        have cc70 : y2_l1.toInt < (9 : Int32).toInt := i32_nle c1
        have hb71 : In y2_l1 0 8 := In.lt1 hy2_l1 (⟨by decide, by decide⟩ : In 9 9 9) cc70 (by omega) (by omega)
        refine lv_aload_n hx hb dX11_laysDown_8 rfl (lv_at hl 0 rfl) ?_
        obtain ⟨v0_72, v2_72, v3_72, v4_72, v5_72, v6_72, v8_72, v9_72, v12_72, v13_72, v14_72, v15_72, v16_72, v17_72, v18_72, v19_72, v20_72, v21_72, v22_72, v23_72, v25_72, v36_72, v37_72, v38_72, v39_72, v40_72, v45_72, v46_72, v47_72, v48_72, v50_72, v51_72, v53_72, v55_72, hf73, hv0_72, hv2_72, hv3_72, hv4_72, hv5_72, hv6_72, hv8_72, hv12_72, hv13_72, hv14_72, hg14_72, hv15_72, hg15_72, hv17_72, hg17_72, hv20_72, hv23_72, hg23_72, hv25_72, hv36_72, hv47_72, hv48_72, hv53_72, hv55_72⟩ := hT.2.2 0 (by decide)
        refine pl_get (v := .ref (ad 271)) hx hb hts (fun w h => mT (inX11 w h)) hown hG.1 hP (hst.1 255 (by decide)) hf73 rfl 41 (by decide) (hts _ (mT wg_1377)) (fun _ h => h) rfl dX11_laysDown_9 ?_
        refine lv_iconst (v := 0) hx hb dX11_laysDown_12 (by decide) ?_
        refine lv_iload_n hx hb dX11_laysDown_13 rfl (lv_at hl 1 rfl) ?_
        refine lv_iadd hx hb dX11_laysDown_14 ?_
        refine lv_topi (fun x74 ex74 => ?_)
        have hb75 : In x74 0 8 := ex74 ▸ In.add (⟨by decide, by decide⟩ : In 0 0 0) hb71 (by decide) (by decide) (by decide) (by decide)
        have et76 : x74.toInt = (0 : Int32).toInt + y2_l1.toInt := In.add2e ex74 (⟨by decide, by decide⟩ : In 0 0 0) hb71 (by decide) (by decide)
        refine lv_aload_n hx hb dX11_laysDown_15 rfl (lv_at hl 0 rfl) ?_
        refine pl_get (v := .ref (ad 261)) hx hb hts (fun w h => mT (inX11 w h)) hown hG.1 hP (hst.1 255 (by decide)) hf73 rfl 26 (by decide) (hts _ (mT wg_1362)) (fun _ h => h) rfl dX11_laysDown_16 ?_
        refine lv_iload_n hx hb dX11_laysDown_19 rfl (lv_at hl 1 rfl) ?_
        obtain ⟨rw77, hf78⟩ := hT.2.2 6 (by decide)
        have hin79 : vp_in y2_l1 9 := In.inb hb71 (by decide) (by decide)
        refine pl_iald hx hb hG.1 hP (hst.1 261 (by decide)) 0 hf78 rfl hin79 dX11_laysDown_20 ?_
        refine lv_topi (fun x80 ex80 => ?_)
        obtain ⟨rw81, hf82⟩ := hT.2.2 16 (by decide)
        refine pl_iastE hx hb hG.1 hP hD hS (hst.1 271 (by decide)) 0 hf82 rfl (In.inb hb75 (by decide) (by decide)) dX11_laysDown_21 (fun H locs f83 r86 er86 hf84 ho85 hP hD hS => ?_)
        have hf87 := (ho85 (ad 255) (hst.ne (by decide) (by decide) (by decide))).trans hf73
        have hf88 := (ho85 (ad 261) (hst.ne (by decide) (by decide) (by decide))).trans hf78
        have hfr : (∀ b, b ≠ (ad 255) → b ≠ (ad 271) → f83 b = f b) := fun b z0_ z1_ => (ho85 b z1_).trans (hfr b z0_ z1_)
        refine lv_aload_n hx hb dX11_laysDown_22 rfl (lv_at hl 0 rfl) ?_
        refine pl_get (v := .ref (ad 271)) hx hb hts (fun w h => mT (inX11 w h)) hown hG.1 hP (hst.1 255 (by decide)) hf87 rfl 41 (by decide) (hts _ (mT wg_1377)) (fun _ h => h) rfl dX11_laysDown_23 ?_
        refine lv_bipush (v := 9) hx hb dX11_laysDown_26 (by decide) ?_
        refine lv_iload_n hx hb dX11_laysDown_28 rfl (lv_at hl 1 rfl) ?_
        refine lv_iadd hx hb dX11_laysDown_29 ?_
        refine lv_topi (fun x89 ex89 => ?_)
        have hb90 : In x89 9 17 := ex89 ▸ In.add (⟨by decide, by decide⟩ : In 9 9 9) hb71 (by decide) (by decide) (by decide) (by decide)
        have et91 : x89.toInt = (9 : Int32).toInt + y2_l1.toInt := In.add2e ex89 (⟨by decide, by decide⟩ : In 9 9 9) hb71 (by decide) (by decide)
        refine lv_aload_n hx hb dX11_laysDown_30 rfl (lv_at hl 0 rfl) ?_
        refine pl_get (v := .ref (ad 262)) hx hb hts (fun w h => mT (inX11 w h)) hown hG.1 hP (hst.1 255 (by decide)) hf87 rfl 27 (by decide) (hts _ (mT wg_1363)) (fun _ h => h) rfl dX11_laysDown_31 ?_
        refine lv_iload_n hx hb dX11_laysDown_34 rfl (lv_at hl 1 rfl) ?_
        have hT := TI.updM hT hst (k := 16) (by decide) hf84 ho85 ⟨r86, rfl⟩
        obtain ⟨rw92, hf93⟩ := hT.2.2 7 (by decide)
        have hin94 : vp_in y2_l1 9 := In.inb hb71 (by decide) (by decide)
        refine pl_iald hx hb hG.1 hP (hst.1 262 (by decide)) 0 hf93 rfl hin94 dX11_laysDown_35 ?_
        refine lv_topi (fun x95 ex95 => ?_)
        refine pl_iastE hx hb hG.1 hP hD hS (hst.1 271 (by decide)) 0 hf84 rfl (In.inb hb90 (by decide) (by decide)) dX11_laysDown_36 (fun H locs f96 r99 er99 hf97 ho98 hP hD hS => ?_)
        have hf100 := (ho98 (ad 255) (hst.ne (by decide) (by decide) (by decide))).trans hf87
        have hf101 := (ho98 (ad 261) (hst.ne (by decide) (by decide) (by decide))).trans hf88
        have hf102 := (ho98 (ad 262) (hst.ne (by decide) (by decide) (by decide))).trans hf93
        have hfr : (∀ b, b ≠ (ad 255) → b ≠ (ad 271) → f96 b = f b) := fun b z0_ z1_ => (ho98 b z1_).trans (hfr b z0_ z1_)
        refine lv_aload_n hx hb dX11_laysDown_37 rfl (lv_at hl 0 rfl) ?_
        refine pl_get (v := .ref (ad 271)) hx hb hts (fun w h => mT (inX11 w h)) hown hG.1 hP (hst.1 255 (by decide)) hf100 rfl 41 (by decide) (hts _ (mT wg_1377)) (fun _ h => h) rfl dX11_laysDown_38 ?_
        refine lv_bipush (v := 18) hx hb dX11_laysDown_41 (by decide) ?_
        refine lv_iload_n hx hb dX11_laysDown_43 rfl (lv_at hl 1 rfl) ?_
        refine lv_iadd hx hb dX11_laysDown_44 ?_
        refine lv_topi (fun x103 ex103 => ?_)
        have hb104 : In x103 18 26 := ex103 ▸ In.add (⟨by decide, by decide⟩ : In 18 18 18) hb71 (by decide) (by decide) (by decide) (by decide)
        have et105 : x103.toInt = (18 : Int32).toInt + y2_l1.toInt := In.add2e ex103 (⟨by decide, by decide⟩ : In 18 18 18) hb71 (by decide) (by decide)
        refine lv_aload_n hx hb dX11_laysDown_45 rfl (lv_at hl 0 rfl) ?_
        refine pl_get (v := .ref (ad 263)) hx hb hts (fun w h => mT (inX11 w h)) hown hG.1 hP (hst.1 255 (by decide)) hf100 rfl 28 (by decide) (hts _ (mT wg_1364)) (fun _ h => h) rfl dX11_laysDown_46 ?_
        refine lv_iload_n hx hb dX11_laysDown_49 rfl (lv_at hl 1 rfl) ?_
        have hT := TI.updM hT hst (k := 16) (by decide) hf97 ho98 ⟨r99, rfl⟩
        obtain ⟨rw106, hf107⟩ := hT.2.2 8 (by decide)
        have hin108 : vp_in y2_l1 9 := In.inb hb71 (by decide) (by decide)
        refine pl_iald hx hb hG.1 hP (hst.1 263 (by decide)) 0 hf107 rfl hin108 dX11_laysDown_50 ?_
        refine lv_topi (fun x109 ex109 => ?_)
        refine pl_iastE hx hb hG.1 hP hD hS (hst.1 271 (by decide)) 0 hf97 rfl (In.inb hb104 (by decide) (by decide)) dX11_laysDown_51 (fun H locs f110 r113 er113 hf111 ho112 hP hD hS => ?_)
        have hf114 := (ho112 (ad 255) (hst.ne (by decide) (by decide) (by decide))).trans hf100
        have hf115 := (ho112 (ad 261) (hst.ne (by decide) (by decide) (by decide))).trans hf101
        have hf116 := (ho112 (ad 262) (hst.ne (by decide) (by decide) (by decide))).trans hf102
        have hf117 := (ho112 (ad 263) (hst.ne (by decide) (by decide) (by decide))).trans hf107
        have hfr : (∀ b, b ≠ (ad 255) → b ≠ (ad 271) → f110 b = f b) := fun b z0_ z1_ => (ho112 b z1_).trans (hfr b z0_ z1_)
        refine lv_aload_n hx hb dX11_laysDown_52 rfl (lv_at hl 0 rfl) ?_
        refine pl_get (v := .ref (ad 271)) hx hb hts (fun w h => mT (inX11 w h)) hown hG.1 hP (hst.1 255 (by decide)) hf114 rfl 41 (by decide) (hts _ (mT wg_1377)) (fun _ h => h) rfl dX11_laysDown_53 ?_
        refine lv_bipush (v := 27) hx hb dX11_laysDown_56 (by decide) ?_
        refine lv_iload_n hx hb dX11_laysDown_58 rfl (lv_at hl 1 rfl) ?_
        refine lv_iadd hx hb dX11_laysDown_59 ?_
        refine lv_topi (fun x118 ex118 => ?_)
        have hb119 : In x118 27 35 := ex118 ▸ In.add (⟨by decide, by decide⟩ : In 27 27 27) hb71 (by decide) (by decide) (by decide) (by decide)
        have et120 : x118.toInt = (27 : Int32).toInt + y2_l1.toInt := In.add2e ex118 (⟨by decide, by decide⟩ : In 27 27 27) hb71 (by decide) (by decide)
        refine lv_aload_n hx hb dX11_laysDown_60 rfl (lv_at hl 0 rfl) ?_
        refine pl_get (v := .ref (ad 269)) hx hb hts (fun w h => mT (inX11 w h)) hown hG.1 hP (hst.1 255 (by decide)) hf114 rfl 34 (by decide) (hts _ (mT wg_1370)) (fun _ h => h) rfl dX11_laysDown_61 ?_
        refine lv_iload_n hx hb dX11_laysDown_64 rfl (lv_at hl 1 rfl) ?_
        have hT := TI.updM hT hst (k := 16) (by decide) hf111 ho112 ⟨r113, rfl⟩
        obtain ⟨rw121, hf122⟩ := hT.2.2 14 (by decide)
        have hin123 : vp_in y2_l1 9 := In.inb hb71 (by decide) (by decide)
        refine pl_zald hx hb hG.1 hP (hst.1 269 (by decide)) 3 hf122 rfl hin123 dX11_laysDown_65 ?_
        refine lv_topi (fun x124 ex124 => ?_)
        have hJ74 : ∀ (y74_s0 : Int32) (H : Heap) (locs : List Loc) (ls : Array Slot), In y74_s0 0 1 → va_P g.1 vwCl (va_pl L f110) H → va_D A (va_pl L f110) → va_S A s.heap H locs → lv_has ls 2 [(0, .ref (ad 255)), (1, .int y2_l1)] → W p l e rm_X11_laysDown s m [.ref (ad 255)].toArray below meth c H locs 0 0 (MQ below (va_Qv (po_X11_laysDown g ad th L f ) (PstB g A) A) [.ref (ad 255)].toArray s rm_X11_laysDown.cells rm_X11_laysDown.slots A) (F0 m 74 ls [.int y74_s0, .int x118, .ref (ad 271)]) := by
          intro y74_s0 H locs ls hy74_s0 hP hD hS hl
          refine pl_iastE hx hb hG.1 hP hD hS (hst.1 271 (by decide)) 0 hf111 rfl (In.inb hb119 (by decide) (by decide)) dX11_laysDown_74 (fun H locs f125 r128 er128 hf126 ho127 hP hD hS => ?_)
          have hf129 := (ho127 (ad 255) (hst.ne (by decide) (by decide) (by decide))).trans hf114
          have hf130 := (ho127 (ad 261) (hst.ne (by decide) (by decide) (by decide))).trans hf115
          have hf131 := (ho127 (ad 262) (hst.ne (by decide) (by decide) (by decide))).trans hf116
          have hf132 := (ho127 (ad 263) (hst.ne (by decide) (by decide) (by decide))).trans hf117
          have hf133 := (ho127 (ad 269) (hst.ne (by decide) (by decide) (by decide))).trans hf122
          have hfr : (∀ b, b ≠ (ad 255) → b ≠ (ad 271) → f125 b = f b) := fun b z0_ z1_ => (ho127 b z1_).trans (hfr b z0_ z1_)
          refine lv_aload_n hx hb dX11_laysDown_75 rfl (lv_at hl 0 rfl) ?_
          refine pl_get (v := .ref (ad 271)) hx hb hts (fun w h => mT (inX11 w h)) hown hG.1 hP (hst.1 255 (by decide)) hf129 rfl 41 (by decide) (hts _ (mT wg_1377)) (fun _ h => h) rfl dX11_laysDown_76 ?_
          refine lv_bipush (v := 36) hx hb dX11_laysDown_79 (by decide) ?_
          refine lv_iload_n hx hb dX11_laysDown_81 rfl (lv_at hl 1 rfl) ?_
          refine lv_iadd hx hb dX11_laysDown_82 ?_
          refine lv_topi (fun x134 ex134 => ?_)
          have hb135 : In x134 36 44 := ex134 ▸ In.add (⟨by decide, by decide⟩ : In 36 36 36) hb71 (by decide) (by decide) (by decide) (by decide)
          have et136 : x134.toInt = (36 : Int32).toInt + y2_l1.toInt := In.add2e ex134 (⟨by decide, by decide⟩ : In 36 36 36) hb71 (by decide) (by decide)
          refine lv_aload_n hx hb dX11_laysDown_83 rfl (lv_at hl 0 rfl) ?_
          refine pl_get (v := .ref (ad 264)) hx hb hts (fun w h => mT (inX11 w h)) hown hG.1 hP (hst.1 255 (by decide)) hf129 rfl 29 (by decide) (hts _ (mT wg_1365)) (fun _ h => h) rfl dX11_laysDown_84 ?_
          refine lv_iload_n hx hb dX11_laysDown_87 rfl (lv_at hl 1 rfl) ?_
          have hT := TI.updM hT hst (k := 16) (by decide) hf126 ho127 ⟨r128, rfl⟩
          obtain ⟨rw137, hf138⟩ := hT.2.2 9 (by decide)
          have hin139 : vp_in y2_l1 9 := In.inb hb71 (by decide) (by decide)
          refine pl_iald hx hb hG.1 hP (hst.1 264 (by decide)) 0 hf138 rfl hin139 dX11_laysDown_88 ?_
          refine lv_topi (fun x140 ex140 => ?_)
          refine pl_iastE hx hb hG.1 hP hD hS (hst.1 271 (by decide)) 0 hf126 rfl (In.inb hb135 (by decide) (by decide)) dX11_laysDown_89 (fun H locs f141 r144 er144 hf142 ho143 hP hD hS => ?_)
          have hf145 := (ho143 (ad 255) (hst.ne (by decide) (by decide) (by decide))).trans hf129
          have hf146 := (ho143 (ad 261) (hst.ne (by decide) (by decide) (by decide))).trans hf130
          have hf147 := (ho143 (ad 262) (hst.ne (by decide) (by decide) (by decide))).trans hf131
          have hf148 := (ho143 (ad 263) (hst.ne (by decide) (by decide) (by decide))).trans hf132
          have hf149 := (ho143 (ad 269) (hst.ne (by decide) (by decide) (by decide))).trans hf133
          have hf150 := (ho143 (ad 264) (hst.ne (by decide) (by decide) (by decide))).trans hf138
          have hfr : (∀ b, b ≠ (ad 255) → b ≠ (ad 271) → f141 b = f b) := fun b z0_ z1_ => (ho143 b z1_).trans (hfr b z0_ z1_)
          refine lv_aload_n hx hb dX11_laysDown_90 rfl (lv_at hl 0 rfl) ?_
          refine pl_get (v := .ref (ad 271)) hx hb hts (fun w h => mT (inX11 w h)) hown hG.1 hP (hst.1 255 (by decide)) hf145 rfl 41 (by decide) (hts _ (mT wg_1377)) (fun _ h => h) rfl dX11_laysDown_91 ?_
          refine lv_bipush (v := 45) hx hb dX11_laysDown_94 (by decide) ?_
          refine lv_iload_n hx hb dX11_laysDown_96 rfl (lv_at hl 1 rfl) ?_
          refine lv_iadd hx hb dX11_laysDown_97 ?_
          refine lv_topi (fun x151 ex151 => ?_)
          have hb152 : In x151 45 53 := ex151 ▸ In.add (⟨by decide, by decide⟩ : In 45 45 45) hb71 (by decide) (by decide) (by decide) (by decide)
          have et153 : x151.toInt = (45 : Int32).toInt + y2_l1.toInt := In.add2e ex151 (⟨by decide, by decide⟩ : In 45 45 45) hb71 (by decide) (by decide)
          refine lv_aload_n hx hb dX11_laysDown_98 rfl (lv_at hl 0 rfl) ?_
          refine pl_get (v := .ref (ad 265)) hx hb hts (fun w h => mT (inX11 w h)) hown hG.1 hP (hst.1 255 (by decide)) hf145 rfl 30 (by decide) (hts _ (mT wg_1366)) (fun _ h => h) rfl dX11_laysDown_99 ?_
          refine lv_iload_n hx hb dX11_laysDown_102 rfl (lv_at hl 1 rfl) ?_
          have hT := TI.updM hT hst (k := 16) (by decide) hf142 ho143 ⟨r144, rfl⟩
          obtain ⟨rw154, hf155⟩ := hT.2.2 10 (by decide)
          have hin156 : vp_in y2_l1 9 := In.inb hb71 (by decide) (by decide)
          refine pl_iald hx hb hG.1 hP (hst.1 265 (by decide)) 0 hf155 rfl hin156 dX11_laysDown_103 ?_
          refine lv_topi (fun x157 ex157 => ?_)
          refine pl_iastE hx hb hG.1 hP hD hS (hst.1 271 (by decide)) 0 hf142 rfl (In.inb hb152 (by decide) (by decide)) dX11_laysDown_104 (fun H locs f158 r161 er161 hf159 ho160 hP hD hS => ?_)
          have hf162 := (ho160 (ad 255) (hst.ne (by decide) (by decide) (by decide))).trans hf145
          have hf163 := (ho160 (ad 261) (hst.ne (by decide) (by decide) (by decide))).trans hf146
          have hf164 := (ho160 (ad 262) (hst.ne (by decide) (by decide) (by decide))).trans hf147
          have hf165 := (ho160 (ad 263) (hst.ne (by decide) (by decide) (by decide))).trans hf148
          have hf166 := (ho160 (ad 269) (hst.ne (by decide) (by decide) (by decide))).trans hf149
          have hf167 := (ho160 (ad 264) (hst.ne (by decide) (by decide) (by decide))).trans hf150
          have hf168 := (ho160 (ad 265) (hst.ne (by decide) (by decide) (by decide))).trans hf155
          have hfr : (∀ b, b ≠ (ad 255) → b ≠ (ad 271) → f158 b = f b) := fun b z0_ z1_ => (ho160 b z1_).trans (hfr b z0_ z1_)
          refine lv_aload_n hx hb dX11_laysDown_105 rfl (lv_at hl 0 rfl) ?_
          refine pl_get (v := .ref (ad 271)) hx hb hts (fun w h => mT (inX11 w h)) hown hG.1 hP (hst.1 255 (by decide)) hf162 rfl 41 (by decide) (hts _ (mT wg_1377)) (fun _ h => h) rfl dX11_laysDown_106 ?_
          refine lv_bipush (v := 54) hx hb dX11_laysDown_109 (by decide) ?_
          refine lv_iload_n hx hb dX11_laysDown_111 rfl (lv_at hl 1 rfl) ?_
          refine lv_iadd hx hb dX11_laysDown_112 ?_
          refine lv_topi (fun x169 ex169 => ?_)
          have hb170 : In x169 54 62 := ex169 ▸ In.add (⟨by decide, by decide⟩ : In 54 54 54) hb71 (by decide) (by decide) (by decide) (by decide)
          have et171 : x169.toInt = (54 : Int32).toInt + y2_l1.toInt := In.add2e ex169 (⟨by decide, by decide⟩ : In 54 54 54) hb71 (by decide) (by decide)
          refine lv_aload_n hx hb dX11_laysDown_113 rfl (lv_at hl 0 rfl) ?_
          refine pl_get (v := .ref (ad 266)) hx hb hts (fun w h => mT (inX11 w h)) hown hG.1 hP (hst.1 255 (by decide)) hf162 rfl 31 (by decide) (hts _ (mT wg_1367)) (fun _ h => h) rfl dX11_laysDown_114 ?_
          refine lv_iload_n hx hb dX11_laysDown_117 rfl (lv_at hl 1 rfl) ?_
          have hT := TI.updM hT hst (k := 16) (by decide) hf159 ho160 ⟨r161, rfl⟩
          obtain ⟨rw172, hf173⟩ := hT.2.2 11 (by decide)
          have hin174 : vp_in y2_l1 9 := In.inb hb71 (by decide) (by decide)
          refine pl_iald hx hb hG.1 hP (hst.1 266 (by decide)) 0 hf173 rfl hin174 dX11_laysDown_118 ?_
          refine lv_topi (fun x175 ex175 => ?_)
          refine pl_iastE hx hb hG.1 hP hD hS (hst.1 271 (by decide)) 0 hf159 rfl (In.inb hb170 (by decide) (by decide)) dX11_laysDown_119 (fun H locs f176 r179 er179 hf177 ho178 hP hD hS => ?_)
          have hf180 := (ho178 (ad 255) (hst.ne (by decide) (by decide) (by decide))).trans hf162
          have hf181 := (ho178 (ad 261) (hst.ne (by decide) (by decide) (by decide))).trans hf163
          have hf182 := (ho178 (ad 262) (hst.ne (by decide) (by decide) (by decide))).trans hf164
          have hf183 := (ho178 (ad 263) (hst.ne (by decide) (by decide) (by decide))).trans hf165
          have hf184 := (ho178 (ad 269) (hst.ne (by decide) (by decide) (by decide))).trans hf166
          have hf185 := (ho178 (ad 264) (hst.ne (by decide) (by decide) (by decide))).trans hf167
          have hf186 := (ho178 (ad 265) (hst.ne (by decide) (by decide) (by decide))).trans hf168
          have hf187 := (ho178 (ad 266) (hst.ne (by decide) (by decide) (by decide))).trans hf173
          have hfr : (∀ b, b ≠ (ad 255) → b ≠ (ad 271) → f176 b = f b) := fun b z0_ z1_ => (ho178 b z1_).trans (hfr b z0_ z1_)
          refine lv_aload_n hx hb dX11_laysDown_120 rfl (lv_at hl 0 rfl) ?_
          refine pl_get (v := .ref (ad 271)) hx hb hts (fun w h => mT (inX11 w h)) hown hG.1 hP (hst.1 255 (by decide)) hf180 rfl 41 (by decide) (hts _ (mT wg_1377)) (fun _ h => h) rfl dX11_laysDown_121 ?_
          refine lv_bipush (v := 63) hx hb dX11_laysDown_124 (by decide) ?_
          refine lv_iload_n hx hb dX11_laysDown_126 rfl (lv_at hl 1 rfl) ?_
          refine lv_iadd hx hb dX11_laysDown_127 ?_
          refine lv_topi (fun x188 ex188 => ?_)
          have hb189 : In x188 63 71 := ex188 ▸ In.add (⟨by decide, by decide⟩ : In 63 63 63) hb71 (by decide) (by decide) (by decide) (by decide)
          have et190 : x188.toInt = (63 : Int32).toInt + y2_l1.toInt := In.add2e ex188 (⟨by decide, by decide⟩ : In 63 63 63) hb71 (by decide) (by decide)
          refine lv_aload_n hx hb dX11_laysDown_128 rfl (lv_at hl 0 rfl) ?_
          refine pl_get (v := .ref (ad 267)) hx hb hts (fun w h => mT (inX11 w h)) hown hG.1 hP (hst.1 255 (by decide)) hf180 rfl 32 (by decide) (hts _ (mT wg_1368)) (fun _ h => h) rfl dX11_laysDown_129 ?_
          refine lv_iload_n hx hb dX11_laysDown_132 rfl (lv_at hl 1 rfl) ?_
          have hT := TI.updM hT hst (k := 16) (by decide) hf177 ho178 ⟨r179, rfl⟩
          obtain ⟨rw191, hf192⟩ := hT.2.2 12 (by decide)
          have hin193 : vp_in y2_l1 9 := In.inb hb71 (by decide) (by decide)
          refine pl_iald hx hb hG.1 hP (hst.1 267 (by decide)) 0 hf192 rfl hin193 dX11_laysDown_133 ?_
          refine lv_topi (fun x194 ex194 => ?_)
          refine pl_iastE hx hb hG.1 hP hD hS (hst.1 271 (by decide)) 0 hf177 rfl (In.inb hb189 (by decide) (by decide)) dX11_laysDown_134 (fun H locs f195 r198 er198 hf196 ho197 hP hD hS => ?_)
          have hf199 := (ho197 (ad 255) (hst.ne (by decide) (by decide) (by decide))).trans hf180
          have hf200 := (ho197 (ad 261) (hst.ne (by decide) (by decide) (by decide))).trans hf181
          have hf201 := (ho197 (ad 262) (hst.ne (by decide) (by decide) (by decide))).trans hf182
          have hf202 := (ho197 (ad 263) (hst.ne (by decide) (by decide) (by decide))).trans hf183
          have hf203 := (ho197 (ad 269) (hst.ne (by decide) (by decide) (by decide))).trans hf184
          have hf204 := (ho197 (ad 264) (hst.ne (by decide) (by decide) (by decide))).trans hf185
          have hf205 := (ho197 (ad 265) (hst.ne (by decide) (by decide) (by decide))).trans hf186
          have hf206 := (ho197 (ad 266) (hst.ne (by decide) (by decide) (by decide))).trans hf187
          have hf207 := (ho197 (ad 267) (hst.ne (by decide) (by decide) (by decide))).trans hf192
          have hfr : (∀ b, b ≠ (ad 255) → b ≠ (ad 271) → f195 b = f b) := fun b z0_ z1_ => (ho197 b z1_).trans (hfr b z0_ z1_)
          obtain ⟨x208, ex208⟩ : ∃ y : Int32, y = y2_l1 + 1 := ⟨_, rfl⟩
          have hb209 : In x208 1 9 := ex208 ▸ In.add hb71 (⟨by decide, by decide⟩ : In 1 1 1) (by decide) (by decide) (by decide) (by decide)
          have et210 : x208.toInt = y2_l1.toInt + 1 := In.adde ex208 hb71 (k := 1) (by decide) (by decide) (by decide)
          refine lv_iinc (v := x208) (lv' := [(1, .int x208), (0, .ref (ad 255))]) hx hb dX11_laysDown_135 hl (k := 1) rfl (by rw [ex208]; rfl) (by decide) rfl (fun ls hl => ?_)
          have hT := TI.updM hT hst (k := 16) (by decide) hf196 ho197 ⟨r198, rfl⟩
          refine lv_goto (tgt := 2) hx hb dX11_laysDown_138 (by decide) ?_
          exact ih2 x208 _ _ _ _ (In.mono hb209 (by decide) (by decide)) hP hD hS hT hfr (lv_sub hl [1, 0] rfl) (msu et210 (by decide) hmz2)
        refine lv_if_eq (tgt := 73) hx hb dX11_laysDown_66 (by decide) (fun c211 => ?_) (fun c211 => ?_)
        ·
          have cc212 : x124.toInt = (0 : Int32).toInt := congrArg Int32.toInt c211
          have hb213 : In x124 0 0 := In.eq1 (In.full x124) (⟨by decide, by decide⟩ : In 0 0 0) cc212 (by omega) (by omega)
          refine lv_iconst (v := 0) hx hb dX11_laysDown_73 (by decide) ?_
          exact hJ74 0 _ _ _ (⟨by decide, by decide⟩ : In 0 0 1) hP hD hS (lv_sub hl [0, 1] rfl)
        ·
          refine lv_iconst (v := 1) hx hb dX11_laysDown_69 (by decide) ?_
          refine lv_goto (tgt := 74) hx hb dX11_laysDown_70 (by decide) ?_
          exact hJ74 1 _ _ _ (⟨by decide, by decide⟩ : In 1 0 1) hP hD hS (lv_sub hl [0, 1] rfl)
  exact hJ2 ((9 - (0 : Int32).toInt).toNat + 1) 0 _ _ _ _ (⟨by decide, by decide⟩ : In 0 0 9) hP hD hS hT hfr (lv_sub hl [1, 0] rfl) (msI _)

abbrev rm_X11_begins : Room := { frames := 1, cells := 0, slots := 0, locals := 21 }
abbrev po_X11_begins (g : GG) (ad : Nat → Nat) (th : Nat → Int) (L : List Nat) (f : HP)  : (List Nat × HP) → Prop := fun u => u.1 = L ∧ TI g ad th u.2 ∧ (∀ b, b ≠ (ad 255) → b ≠ (ad 271) → b ≠ (ad 261) → b ≠ (ad 262) → u.2 b = f b)
set_option maxHeartbeats 4000000 in
set_option maxRecDepth 100000 in
theorem s_X11_begins (l : Launch) (g : GG) (ad : Nat → Nat) (th : Nat → Int) (L : List Nat) (f : HP) (sz : Nat)  (hst : ST ad L) (hT : TI g ad th f)  : MtV l g yX11_begins cX11_begins 2 rm_X11_begins [.ref (ad 255)] L f sz (po_X11_begins g ad th L f ) := by
  refine MtV.of (by decide +kernel) (Nat.le_of_ble_eq_true rfl) ?_
  intro p e s m below meth c A hEn hP hD hS ls hl
  obtain ⟨hx, hb, hr, hml, hown, hlocks, hts, hG, hA, hE, hnm⟩ := hEn
  have hown : s.vm.findClass "RulerWordModel" = some m.cls := hown
  have hl : lv_has ls 2 [(0, .ref (ad 255))] := hl
  have hfr : (∀ b, b ≠ (ad 255) → b ≠ (ad 271) → b ≠ (ad 261) → b ≠ (ad 262) → f b = f b) := fun b z0_ z1_ z2_ z3_ => rfl
  refine lv_aload_n hx hb dX11_begins_0 rfl (lv_at hl 0 rfl) ?_
  obtain ⟨v0_1, v2_1, v3_1, v4_1, v5_1, v6_1, v8_1, v9_1, v12_1, v13_1, v14_1, v15_1, v16_1, v17_1, v18_1, v19_1, v20_1, v21_1, v22_1, v23_1, v25_1, v36_1, v37_1, v38_1, v39_1, v40_1, v45_1, v46_1, v47_1, v48_1, v50_1, v51_1, v53_1, v55_1, hf2, hv0_1, hv2_1, hv3_1, hv4_1, hv5_1, hv6_1, hv8_1, hv12_1, hv13_1, hv14_1, hg14_1, hv15_1, hg15_1, hv17_1, hg17_1, hv20_1, hv23_1, hg23_1, hv25_1, hv36_1, hv47_1, hv48_1, hv53_1, hv55_1⟩ := hT.2.2 0 (by decide)
  refine call_v (run_V (rm := rm_X11_startsAnew) hx hb hml hown hts (s_X11_startsAnew l g ad th _ _ _  hst hT ) cV_X11_startsAnew wg_1616 ⟨Nat.le_of_ble_eq_true rfl, Nat.le_of_ble_eq_true rfl⟩ hG hE hA hP hD hS (hst.1 255 (by decide)) hf2 rfl rfl hl.1 (As := []) (rest := []) rfl (Nat.le_of_ble_eq_true rfl) dX11_begins_1 ⟨Nat.le_of_ble_eq_true rfl, Nat.le_of_ble_eq_true rfl⟩) hA hD hS (fun L4 f5 H locs hp6 hP hD hS => ?_)
  obtain ⟨eL7L, eL7T, eL7F⟩ := hp6
  have eL7L : L4 = L := eL7L
  rw [eL7L] at hP hD
  have hT : TI g ad th f5 := eL7T
  have eL7F : ∀ b, b ≠ (ad 255) → b ≠ (ad 261) → b ≠ (ad 262) → f5 b = f b := eL7F
  have hfr : (∀ b, b ≠ (ad 255) → b ≠ (ad 271) → b ≠ (ad 261) → b ≠ (ad 262) → f5 b = f b) := fun b z0_ z1_ z2_ z3_ => (eL7F b z0_ z2_ z3_).trans (hfr b z0_ z1_ z2_ z3_)
  refine lv_iconst (v := 0) hx hb dX11_begins_4 (by decide) ?_
  refine lv_istore_n (lv' := [(1, .int 0), (0, .ref (ad 255))]) hx hb dX11_begins_5 rfl hl (by decide) rfl (fun ls hl => ?_)
  have hJ6 : ∀ (k6 : Nat) (y6_l1 : Int32) (f_6 : HP) (H : Heap) (locs : List Loc) (ls : Array Slot), In y6_l1 0 2147483647 → va_P g.1 vwCl (va_pl L f_6) H → va_D A (va_pl L f_6) → va_S A s.heap H locs → TI g ad th f_6 → (∀ b, b ≠ (ad 255) → b ≠ (ad 271) → b ≠ (ad 261) → b ≠ (ad 262) → f_6 b = f b) → lv_has ls 2 [(0, .ref (ad 255)), (1, .int y6_l1)] → 2147483647 - y6_l1.toInt < ((k6 : Nat) : Int) → W p l e rm_X11_begins s m [.ref (ad 255)].toArray below meth c H locs 0 0 (MQ below (va_Qv (po_X11_begins g ad th L f ) (PstB g A) A) [.ref (ad 255)].toArray s rm_X11_begins.cells rm_X11_begins.slots A) (F0 m 6 ls []) := by
    intro k6
    induction k6 with
    | zero =>
      intro y6_l1 f_6 H locs ls hy6_l1 hP hD hS hT hfr hl hmz6
      exact ms0 hy6_l1 hmz6
    | succ k6 ih6 =>
      intro y6_l1 f_6 H locs ls hy6_l1 hP hD hS hT hfr hl hmz6
      refine lv_iload_n hx hb dX11_begins_6 rfl (lv_at hl 1 rfl) ?_
      refine lv_sipush (v := 2126) hx hb dX11_begins_7 (by decide) ?_
      refine lv_icmp_ge (tgt := 26) hx hb dX11_begins_10 (by decide) (fun c8 => ?_) (fun c8 => ?_)
      ·
        have cc9 : (2126 : Int32).toInt ≤ y6_l1.toInt := i32_le.mp c8
        have hb10 : In y6_l1 2126 2147483647 := In.ge1 hy6_l1 (⟨by decide, by decide⟩ : In 2126 2126 2126) cc9 (by omega) (by omega)
        refine lv_aload_n hx hb dX11_begins_26 rfl (lv_at hl 0 rfl) ?_
        obtain ⟨v0_11, v2_11, v3_11, v4_11, v5_11, v6_11, v8_11, v9_11, v12_11, v13_11, v14_11, v15_11, v16_11, v17_11, v18_11, v19_11, v20_11, v21_11, v22_11, v23_11, v25_11, v36_11, v37_11, v38_11, v39_11, v40_11, v45_11, v46_11, v47_11, v48_11, v50_11, v51_11, v53_11, v55_11, hf12, hv0_11, hv2_11, hv3_11, hv4_11, hv5_11, hv6_11, hv8_11, hv12_11, hv13_11, hv14_11, hg14_11, hv15_11, hg15_11, hv17_11, hg17_11, hv20_11, hv23_11, hg23_11, hv25_11, hv36_11, hv47_11, hv48_11, hv53_11, hv55_11⟩ := hT.2.2 0 (by decide)
        refine call_v (run_V (rm := rm_X11_laysDown) hx hb hml hown hts (s_X11_laysDown l g ad th _ _ _  hst hT ) cV_X11_laysDown wg_1620 ⟨Nat.le_of_ble_eq_true rfl, Nat.le_of_ble_eq_true rfl⟩ hG hE hA hP hD hS (hst.1 255 (by decide)) hf12 rfl rfl hl.1 (As := []) (rest := []) rfl (Nat.le_of_ble_eq_true rfl) dX11_begins_27 ⟨Nat.le_of_ble_eq_true rfl, Nat.le_of_ble_eq_true rfl⟩) hA hD hS (fun L14 f15 H locs hp16 hP hD hS => ?_)
        obtain ⟨eL17L, eL17T, eL17F⟩ := hp16
        have eL17L : L14 = L := eL17L
        rw [eL17L] at hP hD
        have hT : TI g ad th f15 := eL17T
        have eL17F : ∀ b, b ≠ (ad 255) → b ≠ (ad 271) → f15 b = f_6 b := eL17F
        have hfr : (∀ b, b ≠ (ad 255) → b ≠ (ad 271) → b ≠ (ad 261) → b ≠ (ad 262) → f15 b = f b) := fun b z0_ z1_ z2_ z3_ => (eL17F b z0_ z1_).trans (hfr b z0_ z1_ z2_ z3_)
        exact ret_v hx hb hr hlocks hP hD hS (Nat.le_of_ble_eq_true rfl) (Nat.le_of_ble_eq_true rfl) (⟨rfl, hT, hfr⟩) dX11_begins_30
      ·
        have cc18 : y6_l1.toInt < (2126 : Int32).toInt := i32_nle c8
        have hb19 : In y6_l1 0 2125 := In.lt1 hy6_l1 (⟨by decide, by decide⟩ : In 2126 2126 2126) cc18 (by omega) (by omega)
        refine lv_aload_n hx hb dX11_begins_13 rfl (lv_at hl 0 rfl) ?_
        obtain ⟨v0_20, v2_20, v3_20, v4_20, v5_20, v6_20, v8_20, v9_20, v12_20, v13_20, v14_20, v15_20, v16_20, v17_20, v18_20, v19_20, v20_20, v21_20, v22_20, v23_20, v25_20, v36_20, v37_20, v38_20, v39_20, v40_20, v45_20, v46_20, v47_20, v48_20, v50_20, v51_20, v53_20, v55_20, hf21, hv0_20, hv2_20, hv3_20, hv4_20, hv5_20, hv6_20, hv8_20, hv12_20, hv13_20, hv14_20, hg14_20, hv15_20, hg15_20, hv17_20, hg17_20, hv20_20, hv23_20, hg23_20, hv25_20, hv36_20, hv47_20, hv48_20, hv53_20, hv55_20⟩ := hT.2.2 0 (by decide)
        refine pl_get (v := .ref (ad 271)) hx hb hts (fun w h => mT (inX11 w h)) hown hG.1 hP (hst.1 255 (by decide)) hf21 rfl 41 (by decide) (hts _ (mT wg_1377)) (fun _ h => h) rfl dX11_begins_14 ?_
        refine lv_iload_n hx hb dX11_begins_17 rfl (lv_at hl 1 rfl) ?_
        refine lv_iconst (v := (-1)) hx hb dX11_begins_18 (by decide) ?_
        obtain ⟨rw22, hf23⟩ := hT.2.2 16 (by decide)
        refine pl_iastE hx hb hG.1 hP hD hS (hst.1 271 (by decide)) 0 hf23 rfl (In.inb hb19 (by decide) (by decide)) dX11_begins_19 (fun H locs f24 r27 er27 hf25 ho26 hP hD hS => ?_)
        have hf28 := (ho26 (ad 255) (hst.ne (by decide) (by decide) (by decide))).trans hf21
        have hfr : (∀ b, b ≠ (ad 255) → b ≠ (ad 271) → b ≠ (ad 261) → b ≠ (ad 262) → f24 b = f b) := fun b z0_ z1_ z2_ z3_ => (ho26 b z1_).trans (hfr b z0_ z1_ z2_ z3_)
        obtain ⟨x29, ex29⟩ : ∃ y : Int32, y = y6_l1 + 1 := ⟨_, rfl⟩
        have hb30 : In x29 1 2126 := ex29 ▸ In.add hb19 (⟨by decide, by decide⟩ : In 1 1 1) (by decide) (by decide) (by decide) (by decide)
        have et31 : x29.toInt = y6_l1.toInt + 1 := In.adde ex29 hb19 (k := 1) (by decide) (by decide) (by decide)
        refine lv_iinc (v := x29) (lv' := [(1, .int x29), (0, .ref (ad 255))]) hx hb dX11_begins_20 hl (k := 1) rfl (by rw [ex29]; rfl) (by decide) rfl (fun ls hl => ?_)
        have hT := TI.updM hT hst (k := 16) (by decide) hf25 ho26 ⟨r27, rfl⟩
        refine lv_goto (tgt := 6) hx hb dX11_begins_23 (by decide) ?_
        exact ih6 x29 _ _ _ _ (In.mono hb30 (by decide) (by decide)) hP hD hS hT hfr (lv_sub hl [1, 0] rfl) (msu et31 (by decide) hmz6)
  exact hJ6 ((2147483647 - (0 : Int32).toInt).toNat + 1) 0 _ _ _ _ (⟨by decide, by decide⟩ : In 0 0 2147483647) hP hD hS hT hfr (lv_sub hl [1, 0] rfl) (msI _)

abbrev rm_X11_toldAt : Room := { frames := 0, cells := 0, slots := 0, locals := 0 }
abbrev po_X11_toldAt (g : GG) (ad : Nat → Nat) (th : Nat → Int) (L : List Nat) (f : HP) (z0 : Int32) (z1 : Int32) : Int32 → (List Nat × HP) → Prop := fun r u => u.1 = L ∧ u.2 = f ∧ In r 1538 1962
set_option maxHeartbeats 4000000 in
set_option maxRecDepth 100000 in
theorem s_X11_toldAt (l : Launch) (g : GG) (ad : Nat → Nat) (th : Nat → Int) (L : List Nat) (f : HP) (sz : Nat) (z0 : Int32) (z1 : Int32) (hst : ST ad L) (hT : TI g ad th f) (hz0 : In z0 0 5) (hz1 : In z1 0 8) : MtI l g yX11_toldAt cX11_toldAt 2 (some .int) rm_X11_toldAt [.int z0, .int z1] L f sz (po_X11_toldAt g ad th L f z0 z1) := by
  refine MtI.of (by decide +kernel) (Nat.le_of_ble_eq_true rfl) ?_
  intro p e s m below meth c A hEn hP hD hS ls hl
  obtain ⟨hx, hb, hr, hml, hown, hlocks, hts, hG, hA, hE, hnm⟩ := hEn
  have hown : s.vm.findClass "RulerWordModel" = some m.cls := hown
  have hl : lv_has ls 2 [(0, .int z0), (1, .int z1)] := hl
  refine lv_sipush (v := 1538) hx hb dX11_toldAt_0 (by decide) ?_
  refine lv_bipush (v := 8) hx hb dX11_toldAt_3 (by decide) ?_
  refine lv_bipush (v := 9) hx hb dX11_toldAt_5 (by decide) ?_
  refine lv_iload_n hx hb dX11_toldAt_7 rfl (lv_at hl 0 rfl) ?_
  refine lv_imul hx hb dX11_toldAt_8 ?_
  refine lv_topi (fun x1 ex1 => ?_)
  have hb2 : In x1 0 45 := ex1 ▸ In.mul (⟨by decide, by decide⟩ : In 9 9 9) hz0 (by decide) (by decide) (by decide) (by decide) (by decide)
  refine lv_iload_n hx hb dX11_toldAt_9 rfl (lv_at hl 1 rfl) ?_
  refine lv_iadd hx hb dX11_toldAt_10 ?_
  refine lv_topi (fun x3 ex3 => ?_)
  have hb4 : In x3 0 53 := ex3 ▸ In.add hb2 hz1 (by decide) (by decide) (by decide) (by decide)
  have et5 : x3.toInt = x1.toInt + z1.toInt := In.add2e ex3 hb2 hz1 (by decide) (by decide)
  refine lv_imul hx hb dX11_toldAt_11 ?_
  refine lv_topi (fun x6 ex6 => ?_)
  have hb7 : In x6 0 424 := ex6 ▸ In.mul (⟨by decide, by decide⟩ : In 8 8 8) hb4 (by decide) (by decide) (by decide) (by decide) (by decide)
  refine lv_iadd hx hb dX11_toldAt_12 ?_
  refine lv_topi (fun x8 ex8 => ?_)
  have hb9 : In x8 1538 1962 := ex8 ▸ In.add (⟨by decide, by decide⟩ : In 1538 1538 1538) hb7 (by decide) (by decide) (by decide) (by decide)
  have et10 : x8.toInt = (1538 : Int32).toInt + x6.toInt := In.add2e ex8 (⟨by decide, by decide⟩ : In 1538 1538 1538) hb7 (by decide) (by decide)
  exact ret_i (ty := .int) hx hb hr hlocks (rfl) hP hD hS (Nat.le_of_ble_eq_true rfl) (Nat.le_of_ble_eq_true rfl) (⟨rfl, rfl, hb9⟩) dX11_toldAt_13

abbrev rm_X11_inAll : Room := { frames := 1, cells := 0, slots := 0, locals := 20 }
abbrev po_X11_inAll (g : GG) (ad : Nat → Nat) (th : Nat → Int) (L : List Nat) (f : HP)  : Int32 → (List Nat × HP) → Prop := fun r u => u.1 = L ∧ u.2 = f ∧ In r 0 18
set_option maxHeartbeats 4000000 in
set_option maxRecDepth 100000 in
theorem s_X11_inAll (l : Launch) (g : GG) (ad : Nat → Nat) (th : Nat → Int) (L : List Nat) (f : HP) (sz : Nat)  (hst : ST ad L) (hT : TI g ad th f)  : MtI l g yX11_inAll cX11_inAll 1 (some .int) rm_X11_inAll [.ref (ad 255)] L f sz (po_X11_inAll g ad th L f ) := by
  refine MtI.of (by decide +kernel) (Nat.le_of_ble_eq_true rfl) ?_
  intro p e s m below meth c A hEn hP hD hS ls hl
  obtain ⟨hx, hb, hr, hml, hown, hlocks, hts, hG, hA, hE, hnm⟩ := hEn
  have hown : s.vm.findClass "RulerWordModel" = some m.cls := hown
  have hl : lv_has ls 1 [(0, .ref (ad 255))] := hl
  refine lv_aload_n hx hb dX11_inAll_0 rfl (lv_at hl 0 rfl) ?_
  obtain ⟨v0_1, v2_1, v3_1, v4_1, v5_1, v6_1, v8_1, v9_1, v12_1, v13_1, v14_1, v15_1, v16_1, v17_1, v18_1, v19_1, v20_1, v21_1, v22_1, v23_1, v25_1, v36_1, v37_1, v38_1, v39_1, v40_1, v45_1, v46_1, v47_1, v48_1, v50_1, v51_1, v53_1, v55_1, hf2, hv0_1, hv2_1, hv3_1, hv4_1, hv5_1, hv6_1, hv8_1, hv12_1, hv13_1, hv14_1, hg14_1, hv15_1, hg15_1, hv17_1, hg17_1, hv20_1, hv23_1, hg23_1, hv25_1, hv36_1, hv47_1, hv48_1, hv53_1, hv55_1⟩ := hT.2.2 0 (by decide)
  refine pl_get (v := .int v17_1) hx hb hts (fun w h => mT (inX11 w h)) hown hG.1 hP (hst.1 255 (by decide)) hf2 rfl 17 (by decide) (hts _ (mT wg_1353)) (fun _ h => h) rfl dX11_inAll_1 ?_
  refine lv_aload_n hx hb dX11_inAll_4 rfl (lv_at hl 0 rfl) ?_
  refine call_i (run_V (rm := rm_X11_each) hx hb hml hown hts (s_X11_each l g ad th _ _ _  hst hT ) cV_X11_each wg_1636 ⟨Nat.le_of_ble_eq_true rfl, Nat.le_of_ble_eq_true rfl⟩ hG hE hA hP hD hS (hst.1 255 (by decide)) hf2 rfl rfl hl.1 (As := []) (rest := [.int v17_1]) rfl (Nat.le_of_ble_eq_true rfl) dX11_inAll_5 ⟨Nat.le_of_ble_eq_true rfl, Nat.le_of_ble_eq_true rfl⟩) hA hD hS (fun r3 L4 f5 H locs hp6 hP hD hS => ?_)
  obtain ⟨eL7L, eL7T, eL7R⟩ := hp6
  have eL7L : L4 = L := eL7L
  have eL7T : f5 = f := eL7T
  rw [eL7L, eL7T] at hP hD
  have eL7R : In r3 2 3 := eL7R
  refine lv_imul hx hb dX11_inAll_8 ?_
  refine lv_topi (fun x8 ex8 => ?_)
  have hb9 : In x8 0 18 := ex8 ▸ In.mul hv17_1 eL7R (by decide) (by decide) (by decide) (by decide) (by decide)
  exact ret_i (ty := .int) hx hb hr hlocks (rfl) hP hD hS (Nat.le_of_ble_eq_true rfl) (Nat.le_of_ble_eq_true rfl) (⟨rfl, rfl, hb9⟩) dX11_inAll_9

abbrev rm_X11_refuse : Room := { frames := 0, cells := 0, slots := 0, locals := 0 }
abbrev po_X11_refuse (g : GG) (ad : Nat → Nat) (th : Nat → Int) (L : List Nat) (f : HP) (z1 : Int32) : Int32 → (List Nat × HP) → Prop := fun r u => u.1 = L ∧ TI g ad th u.2 ∧ (∀ b, b ≠ (ad 275) → u.2 b = f b)
set_option maxHeartbeats 4000000 in
set_option maxRecDepth 100000 in
theorem s_X11_refuse (l : Launch) (g : GG) (ad : Nat → Nat) (th : Nat → Int) (L : List Nat) (f : HP) (sz : Nat) (z1 : Int32) (hst : ST ad L) (hT : TI g ad th f) (hz1 : In z1 0 4) : MtI l g yX11_refuse cX11_refuse 2 (some .int) rm_X11_refuse [.ref (ad 255), .int z1] L f sz (po_X11_refuse g ad th L f z1) := by
  refine MtI.of (by decide +kernel) (Nat.le_of_ble_eq_true rfl) ?_
  intro p e s m below meth c A hEn hP hD hS ls hl
  obtain ⟨hx, hb, hr, hml, hown, hlocks, hts, hG, hA, hE, hnm⟩ := hEn
  have hown : s.vm.findClass "RulerWordModel" = some m.cls := hown
  have hl : lv_has ls 2 [(0, .ref (ad 255)), (1, .int z1)] := hl
  have hfr : (∀ b, b ≠ (ad 275) → f b = f b) := fun b z0_ => rfl
  refine lv_aload_n hx hb dX11_refuse_0 rfl (lv_at hl 0 rfl) ?_
  obtain ⟨v0_1, v2_1, v3_1, v4_1, v5_1, v6_1, v8_1, v9_1, v12_1, v13_1, v14_1, v15_1, v16_1, v17_1, v18_1, v19_1, v20_1, v21_1, v22_1, v23_1, v25_1, v36_1, v37_1, v38_1, v39_1, v40_1, v45_1, v46_1, v47_1, v48_1, v50_1, v51_1, v53_1, v55_1, hf2, hv0_1, hv2_1, hv3_1, hv4_1, hv5_1, hv6_1, hv8_1, hv12_1, hv13_1, hv14_1, hg14_1, hv15_1, hg15_1, hv17_1, hg17_1, hv20_1, hv23_1, hg23_1, hv25_1, hv36_1, hv47_1, hv48_1, hv53_1, hv55_1⟩ := hT.2.2 0 (by decide)
  refine pl_get (v := .ref (ad 275)) hx hb hts (fun w h => mT (inX11 w h)) hown hG.1 hP (hst.1 255 (by decide)) hf2 rfl 49 (by decide) (hts _ (mT wg_1385)) (fun _ h => h) rfl dX11_refuse_1 ?_
  refine lv_iload_n hx hb dX11_refuse_4 rfl (lv_at hl 1 rfl) ?_
  refine lv_dup2_11 hx hb dX11_refuse_5 rfl rfl ?_
  obtain ⟨rw3, hf4⟩ := hT.2.2 20 (by decide)
  have hin5 : vp_in z1 5 := In.inb hz1 (by decide) (by decide)
  refine pl_iald hx hb hG.1 hP (hst.1 275 (by decide)) 0 hf4 rfl hin5 dX11_refuse_6 ?_
  refine lv_topi (fun x6 ex6 => ?_)
  refine lv_iconst (v := 1) hx hb dX11_refuse_7 (by decide) ?_
  refine lv_iadd hx hb dX11_refuse_8 ?_
  refine lv_topi (fun x7 ex7 => ?_)
  refine pl_iastE hx hb hG.1 hP hD hS (hst.1 275 (by decide)) 0 hf4 rfl (In.inb hz1 (by decide) (by decide)) dX11_refuse_9 (fun H locs f8 r11 er11 hf9 ho10 hP hD hS => ?_)
  have hf12 := (ho10 (ad 255) (hst.ne (by decide) (by decide) (by decide))).trans hf2
  have hfr : (∀ b, b ≠ (ad 275) → f8 b = f b) := fun b z0_ => (ho10 b z0_).trans (hfr b z0_)
  refine lv_iconst (v := (-1)) hx hb dX11_refuse_10 (by decide) ?_
  have hT := TI.updM hT hst (k := 20) (by decide) hf9 ho10 ⟨r11, rfl⟩
  exact ret_i (ty := .int) hx hb hr hlocks (rfl) hP hD hS (Nat.le_of_ble_eq_true rfl) (Nat.le_of_ble_eq_true rfl) (⟨rfl, hT, hfr⟩) dX11_refuse_11

abbrev rm_X11_isPeer : Room := { frames := 1, cells := 0, slots := 0, locals := 25 }
abbrev po_X11_isPeer (g : GG) (ad : Nat → Nat) (th : Nat → Int) (L : List Nat) (f : HP) (z1 : Int32) : Int32 → (List Nat × HP) → Prop := fun r u => u.1 = L ∧ u.2 = f ∧ In r 0 1
set_option maxHeartbeats 4000000 in
set_option maxRecDepth 100000 in
theorem s_X11_isPeer (l : Launch) (g : GG) (ad : Nat → Nat) (th : Nat → Int) (L : List Nat) (f : HP) (sz : Nat) (z1 : Int32) (hst : ST ad L) (hT : TI g ad th f)  : MtI l g yX11_isPeer cX11_isPeer 2 (some .boolean) rm_X11_isPeer [.ref (ad 255), .int z1] L f sz (po_X11_isPeer g ad th L f z1) := by
  refine MtI.of (by decide +kernel) (Nat.le_of_ble_eq_true rfl) ?_
  intro p e s m below meth c A hEn hP hD hS ls hl
  obtain ⟨hx, hb, hr, hml, hown, hlocks, hts, hG, hA, hE, hnm⟩ := hEn
  have hown : s.vm.findClass "RulerWordModel" = some m.cls := hown
  have hl : lv_has ls 2 [(0, .ref (ad 255)), (1, .int z1)] := hl
  refine lv_aload_n hx hb dX11_isPeer_0 rfl (lv_at hl 0 rfl) ?_
  obtain ⟨v0_1, v2_1, v3_1, v4_1, v5_1, v6_1, v8_1, v9_1, v12_1, v13_1, v14_1, v15_1, v16_1, v17_1, v18_1, v19_1, v20_1, v21_1, v22_1, v23_1, v25_1, v36_1, v37_1, v38_1, v39_1, v40_1, v45_1, v46_1, v47_1, v48_1, v50_1, v51_1, v53_1, v55_1, hf2, hv0_1, hv2_1, hv3_1, hv4_1, hv5_1, hv6_1, hv8_1, hv12_1, hv13_1, hv14_1, hg14_1, hv15_1, hg15_1, hv17_1, hg17_1, hv20_1, hv23_1, hg23_1, hv25_1, hv36_1, hv47_1, hv48_1, hv53_1, hv55_1⟩ := hT.2.2 0 (by decide)
  refine pl_get (v := .int v23_1) hx hb hts (fun w h => mT (inX11 w h)) hown hG.1 hP (hst.1 255 (by decide)) hf2 rfl 23 (by decide) (hts _ (mT wg_1359)) (fun _ h => h) rfl dX11_isPeer_1 ?_
  have hJ27 : ∀ (H : Heap) (locs : List Loc) (ls : Array Slot), va_P g.1 vwCl (va_pl L f) H → va_D A (va_pl L f) → va_S A s.heap H locs → lv_has ls 2 [(0, .ref (ad 255)), (1, .int z1)] → W p l e rm_X11_isPeer s m [.ref (ad 255), .int z1].toArray below meth c H locs 0 0 (MQ below (va_Qi (po_X11_isPeer g ad th L f z1) (PstB g A) A) [.ref (ad 255), .int z1].toArray s rm_X11_isPeer.cells rm_X11_isPeer.slots A) (F0 m 27 ls []) := by
    intro H locs ls hP hD hS hl
    refine lv_iconst (v := 0) hx hb dX11_isPeer_27 (by decide) ?_
    exact ret_i (ty := .boolean) hx hb hr hlocks (rfl) hP hD hS (Nat.le_of_ble_eq_true rfl) (Nat.le_of_ble_eq_true rfl) (⟨rfl, rfl, (⟨by decide, by decide⟩ : In 0 0 1)⟩) dX11_isPeer_28
  refine lv_if_eq (tgt := 27) hx hb dX11_isPeer_4 (by decide) (fun c3 => ?_) (fun c3 => ?_)
  ·
    have cc4 : v23_1.toInt = (0 : Int32).toInt := congrArg Int32.toInt c3
    have hb5 : In v23_1 0 0 := In.eq1 hv23_1 (⟨by decide, by decide⟩ : In 0 0 0) cc4 (by omega) (by omega)
    exact hJ27 _ _ _ hP hD hS (lv_sub hl [0, 1] rfl)
  ·
    have cc6 : v23_1.toInt ≠ (0 : Int32).toInt := i32_ne c3
    have hb7 : In v23_1 1 1 := In.ne1 hv23_1 (⟨by decide, by decide⟩ : In 0 0 0) cc6 (by omega) (by omega)
    refine lv_iload_n hx hb dX11_isPeer_7 rfl (lv_at hl 1 rfl) ?_
    refine lv_i2l hx hb dX11_isPeer_8 rfl ?_
    refine lv_lconst (v := 0) hx hb dX11_isPeer_9 (by decide) ?_
    refine lv_aload_n hx hb dX11_isPeer_10 rfl (lv_at hl 0 rfl) ?_
    refine pl_get (v := .int v15_1) hx hb hts (fun w h => mT (inX11 w h)) hown hG.1 hP (hst.1 255 (by decide)) hf2 rfl 15 (by decide) (hts _ (mT wg_1351)) (fun _ h => h) rfl dX11_isPeer_11 ?_
    refine lv_iconst (v := 1) hx hb dX11_isPeer_14 (by decide) ?_
    refine lv_isub hx hb dX11_isPeer_15 ?_
    refine lv_topi (fun x8 ex8 => ?_)
    have hb9 : In x8 (-1) 8 := ex8 ▸ In.sub hv15_1 (⟨by decide, by decide⟩ : In 1 1 1) (by decide) (by decide) (by decide) (by decide)
    have et10 : x8.toInt = v15_1.toInt + (-1) := In.sube ex8 hv15_1 (k := 1) (by decide) (by decide) (by decide)
    refine lv_i2l hx hb dX11_isPeer_16 rfl ?_
    refine call_i (run_S (rm := rm_X11_isIn) hx hb hml hown hts (s_X11_isIn l g ad th _ _ _ (z1.toInt64) 0 (x8.toInt64) hst hT ) cS_X11_isIn wg_1581 ⟨Nat.le_of_ble_eq_true rfl, Nat.le_of_ble_eq_true rfl⟩ hG hE hA hP hD hS rfl hl.1 (As := [.long (z1.toInt64), .long 0, .long (x8.toInt64)]) (rest := []) rfl (Nat.le_of_ble_eq_true rfl) dX11_isPeer_17 ⟨Nat.le_of_ble_eq_true rfl, Nat.le_of_ble_eq_true rfl⟩) hA hD hS (fun r11 L12 f13 H locs hp14 hP hD hS => ?_)
    obtain ⟨eL15L, eL15T, eL15R⟩ := hp14
    have eL15L : L12 = L := eL15L
    have eL15T : f13 = f := eL15T
    rw [eL15L, eL15T] at hP hD
    have eL15R : In r11 0 1 := eL15R
    refine lv_if_eq (tgt := 27) hx hb dX11_isPeer_20 (by decide) (fun c16 => ?_) (fun c16 => ?_)
    ·
      have cc17 : r11.toInt = (0 : Int32).toInt := congrArg Int32.toInt c16
      have hb18 : In r11 0 0 := In.eq1 eL15R (⟨by decide, by decide⟩ : In 0 0 0) cc17 (by omega) (by omega)
      exact hJ27 _ _ _ hP hD hS (lv_sub hl [0, 1] rfl)
    ·
      have cc19 : r11.toInt ≠ (0 : Int32).toInt := i32_ne c16
      have hb20 : In r11 1 1 := In.ne1 eL15R (⟨by decide, by decide⟩ : In 0 0 0) cc19 (by omega) (by omega)
      refine lv_iconst (v := 1) hx hb dX11_isPeer_23 (by decide) ?_
      refine lv_goto (tgt := 28) hx hb dX11_isPeer_24 (by decide) ?_
      exact ret_i (ty := .boolean) hx hb hr hlocks (rfl) hP hD hS (Nat.le_of_ble_eq_true rfl) (Nat.le_of_ble_eq_true rfl) (⟨rfl, rfl, (⟨by decide, by decide⟩ : In 1 0 1)⟩) dX11_isPeer_28

abbrev rm_X11_undo : Room := { frames := 0, cells := 0, slots := 0, locals := 0 }
abbrev po_X11_undo (g : GG) (ad : Nat → Nat) (th : Nat → Int) (L : List Nat) (f : HP)  : Int32 → (List Nat × HP) → Prop := fun r u => u.1 = L ∧ TI g ad th u.2 ∧ (∀ b, b ≠ (ad 255) → b ≠ (ad 271) → u.2 b = f b)
set_option maxHeartbeats 4000000 in
set_option maxRecDepth 100000 in
theorem s_X11_undo (l : Launch) (g : GG) (ad : Nat → Nat) (th : Nat → Int) (L : List Nat) (f : HP) (sz : Nat)  (hst : ST ad L) (hT : TI g ad th f)  : MtI l g yX11_undo cX11_undo 2 (some .int) rm_X11_undo [.ref (ad 255)] L f sz (po_X11_undo g ad th L f ) := by
  refine MtI.of (by decide +kernel) (Nat.le_of_ble_eq_true rfl) ?_
  intro p e s m below meth c A hEn hP hD hS ls hl
  obtain ⟨hx, hb, hr, hml, hown, hlocks, hts, hG, hA, hE, hnm⟩ := hEn
  have hown : s.vm.findClass "RulerWordModel" = some m.cls := hown
  have hl : lv_has ls 2 [(0, .ref (ad 255))] := hl
  have hfr : (∀ b, b ≠ (ad 255) → b ≠ (ad 271) → f b = f b) := fun b z0_ z1_ => rfl
  refine lv_aload_n hx hb dX11_undo_0 rfl (lv_at hl 0 rfl) ?_
  refine lv_iconst (v := 0) hx hb dX11_undo_1 (by decide) ?_
  obtain ⟨v0_1, v2_1, v3_1, v4_1, v5_1, v6_1, v8_1, v9_1, v12_1, v13_1, v14_1, v15_1, v16_1, v17_1, v18_1, v19_1, v20_1, v21_1, v22_1, v23_1, v25_1, v36_1, v37_1, v38_1, v39_1, v40_1, v45_1, v46_1, v47_1, v48_1, v50_1, v51_1, v53_1, v55_1, hf2, hv0_1, hv2_1, hv3_1, hv4_1, hv5_1, hv6_1, hv8_1, hv12_1, hv13_1, hv14_1, hg14_1, hv15_1, hg15_1, hv17_1, hg17_1, hv20_1, hv23_1, hg23_1, hv25_1, hv36_1, hv47_1, hv48_1, hv53_1, hv55_1⟩ := hT.2.2 0 (by decide)
  refine pl_put (ty := .int) (v := .int 0) (fs' := [.int 0, .ref (ad 256), .int v2_1, .int v3_1, .int v4_1, .int v5_1, .int v6_1, .ref (ad 257), .int v8_1, .int v9_1, .ref (ad 258), .ref (ad 259), .int v12_1, .int v13_1, .int v14_1, .int v15_1, .int v16_1, .int v17_1, .int v18_1, .int v19_1, .int v20_1, .long v21_1, .long v22_1, .int v23_1, .ref (ad 260), .int v25_1, .ref (ad 261), .ref (ad 262), .ref (ad 263), .ref (ad 264), .ref (ad 265), .ref (ad 266), .ref (ad 267), .ref (ad 268), .ref (ad 269), .ref (ad 270), .int v36_1, .int v37_1, .int v38_1, .int v39_1, .int v40_1, .ref (ad 271), .ref (ad 272), .ref (ad 273), .ref (ad 274), .long v45_1, .long v46_1, .int v47_1, .int v48_1, .ref (ad 275), .int v50_1, .int v51_1, .ref (ad 276), .int v53_1, .ref (ad 277), .int v55_1]) hx hb hts (fun w h => mT (inX11 w h)) tyX11 tyX11_ok nmX11 hown hG.1 hP hD hS (hst.1 255 (by decide)) hf2 rfl 0 (by decide) (hts _ (mT wg_1336)) (fun _ h => h) rfl (by decide +kernel) (rfl) (rfl) (Nat.le_of_ble_eq_true rfl) rfl dX11_undo_2 (fun H locs f3 hf4 ho5 hP hD hS => ?_)
  have hfr : (∀ b, b ≠ (ad 255) → b ≠ (ad 271) → f3 b = f b) := fun b z0_ z1_ => (ho5 b z0_).trans (hfr b z0_ z1_)
  refine lv_aload_n hx hb dX11_undo_5 rfl (lv_at hl 0 rfl) ?_
  refine pl_get (v := .int v47_1) hx hb hts (fun w h => mT (inX11 w h)) hown hG.1 hP (hst.1 255 (by decide)) hf4 rfl 47 (by decide) (hts _ (mT wg_1383)) (fun _ h => h) rfl dX11_undo_6 ?_
  have hT := TI.updM hT hst (k := 0) (by decide) hf4 ho5 ⟨0, v2_1, v3_1, v4_1, v5_1, v6_1, v8_1, v9_1, v12_1, v13_1, v14_1, v15_1, v16_1, v17_1, v18_1, v19_1, v20_1, v21_1, v22_1, v23_1, v25_1, v36_1, v37_1, v38_1, v39_1, v40_1, v45_1, v46_1, v47_1, v48_1, v50_1, v51_1, v53_1, v55_1, rfl, (⟨by decide, by decide⟩ : In 0 0 1), hv2_1, hv3_1, hv4_1, hv5_1, hv6_1, hv8_1, hv12_1, hv13_1, hv14_1, hg14_1, hv15_1, hg15_1, hv17_1, hg17_1, hv20_1, hv23_1, hg23_1, hv25_1, hv36_1, hv47_1, hv48_1, hv53_1, hv55_1⟩
  refine lv_if_ne (tgt := 14) hx hb dX11_undo_9 (by decide) (fun c6 => ?_) (fun c6 => ?_)
  ·
    have cc7 : v47_1.toInt ≠ (0 : Int32).toInt := i32_ne c6
    have hb8 : In v47_1 1 20 := In.ne1 hv47_1 (⟨by decide, by decide⟩ : In 0 0 0) cc7 (by omega) (by omega)
    refine lv_aload_n hx hb dX11_undo_14 rfl (lv_at hl 0 rfl) ?_
    refine lv_dup hx hb dX11_undo_15 rfl ?_
    refine pl_get (v := .int v47_1) hx hb hts (fun w h => mT (inX11 w h)) hown hG.1 hP (hst.1 255 (by decide)) hf4 rfl 47 (by decide) (hts _ (mT wg_1383)) (fun _ h => h) rfl dX11_undo_16 ?_
    refine lv_iconst (v := 1) hx hb dX11_undo_19 (by decide) ?_
    refine lv_isub hx hb dX11_undo_20 ?_
    refine lv_topi (fun x9 ex9 => ?_)
    have hb10 : In x9 0 19 := ex9 ▸ In.sub hb8 (⟨by decide, by decide⟩ : In 1 1 1) (by decide) (by decide) (by decide) (by decide)
    have et11 : x9.toInt = v47_1.toInt + (-1) := In.sube ex9 hb8 (k := 1) (by decide) (by decide) (by decide)
    refine pl_put (ty := .int) (v := .int x9) (fs' := [.int 0, .ref (ad 256), .int v2_1, .int v3_1, .int v4_1, .int v5_1, .int v6_1, .ref (ad 257), .int v8_1, .int v9_1, .ref (ad 258), .ref (ad 259), .int v12_1, .int v13_1, .int v14_1, .int v15_1, .int v16_1, .int v17_1, .int v18_1, .int v19_1, .int v20_1, .long v21_1, .long v22_1, .int v23_1, .ref (ad 260), .int v25_1, .ref (ad 261), .ref (ad 262), .ref (ad 263), .ref (ad 264), .ref (ad 265), .ref (ad 266), .ref (ad 267), .ref (ad 268), .ref (ad 269), .ref (ad 270), .int v36_1, .int v37_1, .int v38_1, .int v39_1, .int v40_1, .ref (ad 271), .ref (ad 272), .ref (ad 273), .ref (ad 274), .long v45_1, .long v46_1, .int x9, .int v48_1, .ref (ad 275), .int v50_1, .int v51_1, .ref (ad 276), .int v53_1, .ref (ad 277), .int v55_1]) hx hb hts (fun w h => mT (inX11 w h)) tyX11 tyX11_ok nmX11 hown hG.1 hP hD hS (hst.1 255 (by decide)) hf4 rfl 47 (by decide) (hts _ (mT wg_1383)) (fun _ h => h) rfl (by decide +kernel) (rfl) (rfl) (Nat.le_of_ble_eq_true rfl) rfl dX11_undo_21 (fun H locs f12 hf13 ho14 hP hD hS => ?_)
    have hfr : (∀ b, b ≠ (ad 255) → b ≠ (ad 271) → f12 b = f b) := fun b z0_ z1_ => (ho14 b z0_).trans (hfr b z0_ z1_)
    refine lv_iconst (v := 0) hx hb dX11_undo_24 (by decide) ?_
    refine lv_istore_n (lv' := [(1, .int 0), (0, .ref (ad 255))]) hx hb dX11_undo_25 rfl hl (by decide) rfl (fun ls hl => ?_)
    have hT := TI.updM hT hst (k := 0) (by decide) hf13 ho14 ⟨0, v2_1, v3_1, v4_1, v5_1, v6_1, v8_1, v9_1, v12_1, v13_1, v14_1, v15_1, v16_1, v17_1, v18_1, v19_1, v20_1, v21_1, v22_1, v23_1, v25_1, v36_1, v37_1, v38_1, v39_1, v40_1, v45_1, v46_1, x9, v48_1, v50_1, v51_1, v53_1, v55_1, rfl, (⟨by decide, by decide⟩ : In 0 0 1), hv2_1, hv3_1, hv4_1, hv5_1, hv6_1, hv8_1, hv12_1, hv13_1, hv14_1, hg14_1, hv15_1, hg15_1, hv17_1, hg17_1, hv20_1, hv23_1, hg23_1, hv25_1, hv36_1, (In.mono hb10 (by decide) (by decide)), hv48_1, hv53_1, hv55_1⟩
    have hJ26 : ∀ (k26 : Nat) (y26_l1 : Int32) (f_26 : HP) (H : Heap) (locs : List Loc) (ls : Array Slot), In y26_l1 0 2147483647 → va_P g.1 vwCl (va_pl L f_26) H → va_D A (va_pl L f_26) → va_S A s.heap H locs → TI g ad th f_26 → (∀ b, b ≠ (ad 255) → b ≠ (ad 271) → f_26 b = f b) → f_26 (ad 255) = .inr (10, [.int 0, .ref (ad 256), .int v2_1, .int v3_1, .int v4_1, .int v5_1, .int v6_1, .ref (ad 257), .int v8_1, .int v9_1, .ref (ad 258), .ref (ad 259), .int v12_1, .int v13_1, .int v14_1, .int v15_1, .int v16_1, .int v17_1, .int v18_1, .int v19_1, .int v20_1, .long v21_1, .long v22_1, .int v23_1, .ref (ad 260), .int v25_1, .ref (ad 261), .ref (ad 262), .ref (ad 263), .ref (ad 264), .ref (ad 265), .ref (ad 266), .ref (ad 267), .ref (ad 268), .ref (ad 269), .ref (ad 270), .int v36_1, .int v37_1, .int v38_1, .int v39_1, .int v40_1, .ref (ad 271), .ref (ad 272), .ref (ad 273), .ref (ad 274), .long v45_1, .long v46_1, .int x9, .int v48_1, .ref (ad 275), .int v50_1, .int v51_1, .ref (ad 276), .int v53_1, .ref (ad 277), .int v55_1]) → lv_has ls 2 [(0, .ref (ad 255)), (1, .int y26_l1)] → 2147483647 - y26_l1.toInt < ((k26 : Nat) : Int) → W p l e rm_X11_undo s m [.ref (ad 255)].toArray below meth c H locs 0 0 (MQ below (va_Qi (po_X11_undo g ad th L f ) (PstB g A) A) [.ref (ad 255)].toArray s rm_X11_undo.cells rm_X11_undo.slots A) (F0 m 26 ls []) := by
      intro k26
      induction k26 with
      | zero =>
        intro y26_l1 f_26 H locs ls hy26_l1 hP hD hS hT hfr hf15 hl hmz26
        exact ms0 hy26_l1 hmz26
      | succ k26 ih26 =>
        intro y26_l1 f_26 H locs ls hy26_l1 hP hD hS hT hfr hf15 hl hmz26
        refine lv_iload_n hx hb dX11_undo_26 rfl (lv_at hl 1 rfl) ?_
        refine lv_sipush (v := 2126) hx hb dX11_undo_27 (by decide) ?_
        refine lv_icmp_ge (tgt := 60) hx hb dX11_undo_30 (by decide) (fun c16 => ?_) (fun c16 => ?_)
        ·
          have cc17 : (2126 : Int32).toInt ≤ y26_l1.toInt := i32_le.mp c16
          have hb18 : In y26_l1 2126 2147483647 := In.ge1 hy26_l1 (⟨by decide, by decide⟩ : In 2126 2126 2126) cc17 (by omega) (by omega)
          refine lv_aload_n hx hb dX11_undo_60 rfl (lv_at hl 0 rfl) ?_
          refine lv_aload_n hx hb dX11_undo_61 rfl (lv_at hl 0 rfl) ?_
          refine pl_get (v := .ref (ad 274)) hx hb hts (fun w h => mT (inX11 w h)) hown hG.1 hP (hst.1 255 (by decide)) hf15 rfl 44 (by decide) (hts _ (mT wg_1380)) (fun _ h => h) rfl dX11_undo_62 ?_
          refine lv_aload_n hx hb dX11_undo_65 rfl (lv_at hl 0 rfl) ?_
          refine pl_get (v := .int x9) hx hb hts (fun w h => mT (inX11 w h)) hown hG.1 hP (hst.1 255 (by decide)) hf15 rfl 47 (by decide) (hts _ (mT wg_1383)) (fun _ h => h) rfl dX11_undo_66 ?_
          obtain ⟨rw19, hf20⟩ := hT.2.2 19 (by decide)
          have hin21 : vp_in x9 20 := In.inb hb10 (by decide) (by decide)
          refine pl_lald hx hb hG.1 hP (hst.1 274 (by decide)) 1 hf20 rfl hin21 dX11_undo_69 ?_
          refine lv_topl (fun x22 ex22 => ?_)
          refine pl_put (ty := .long) (v := .long x22) (fs' := [.int 0, .ref (ad 256), .int v2_1, .int v3_1, .int v4_1, .int v5_1, .int v6_1, .ref (ad 257), .int v8_1, .int v9_1, .ref (ad 258), .ref (ad 259), .int v12_1, .int v13_1, .int v14_1, .int v15_1, .int v16_1, .int v17_1, .int v18_1, .int v19_1, .int v20_1, .long v21_1, .long v22_1, .int v23_1, .ref (ad 260), .int v25_1, .ref (ad 261), .ref (ad 262), .ref (ad 263), .ref (ad 264), .ref (ad 265), .ref (ad 266), .ref (ad 267), .ref (ad 268), .ref (ad 269), .ref (ad 270), .int v36_1, .int v37_1, .int v38_1, .int v39_1, .int v40_1, .ref (ad 271), .ref (ad 272), .ref (ad 273), .ref (ad 274), .long x22, .long v46_1, .int x9, .int v48_1, .ref (ad 275), .int v50_1, .int v51_1, .ref (ad 276), .int v53_1, .ref (ad 277), .int v55_1]) hx hb hts (fun w h => mT (inX11 w h)) tyX11 tyX11_ok nmX11 hown hG.1 hP hD hS (hst.1 255 (by decide)) hf15 rfl 45 (by decide) (hts _ (mT wg_1381)) (fun _ h => h) rfl (by decide +kernel) (rfl) (rfl) (Nat.le_of_ble_eq_true rfl) rfl dX11_undo_70 (fun H locs f23 hf24 ho25 hP hD hS => ?_)
          have hf26 := (ho25 (ad 274) (hst.ne (by decide) (by decide) (by decide))).trans hf20
          have hfr : (∀ b, b ≠ (ad 255) → b ≠ (ad 271) → f23 b = f b) := fun b z0_ z1_ => (ho25 b z0_).trans (hfr b z0_ z1_)
          refine lv_aload_n hx hb dX11_undo_73 rfl (lv_at hl 0 rfl) ?_
          refine pl_get (v := .int x9) hx hb hts (fun w h => mT (inX11 w h)) hown hG.1 hP (hst.1 255 (by decide)) hf24 rfl 47 (by decide) (hts _ (mT wg_1383)) (fun _ h => h) rfl dX11_undo_74 ?_
          have hT := TI.updM hT hst (k := 0) (by decide) hf24 ho25 ⟨0, v2_1, v3_1, v4_1, v5_1, v6_1, v8_1, v9_1, v12_1, v13_1, v14_1, v15_1, v16_1, v17_1, v18_1, v19_1, v20_1, v21_1, v22_1, v23_1, v25_1, v36_1, v37_1, v38_1, v39_1, v40_1, x22, v46_1, x9, v48_1, v50_1, v51_1, v53_1, v55_1, rfl, (⟨by decide, by decide⟩ : In 0 0 1), hv2_1, hv3_1, hv4_1, hv5_1, hv6_1, hv8_1, hv12_1, hv13_1, hv14_1, hg14_1, hv15_1, hg15_1, hv17_1, hg17_1, hv20_1, hv23_1, hg23_1, hv25_1, hv36_1, (In.mono hb10 (by decide) (by decide)), hv48_1, hv53_1, hv55_1⟩
          exact ret_i (ty := .int) hx hb hr hlocks (rfl) hP hD hS (Nat.le_of_ble_eq_true rfl) (Nat.le_of_ble_eq_true rfl) (⟨rfl, hT, hfr⟩) dX11_undo_77
        ·
          have cc27 : y26_l1.toInt < (2126 : Int32).toInt := i32_nle c16
          have hb28 : In y26_l1 0 2125 := In.lt1 hy26_l1 (⟨by decide, by decide⟩ : In 2126 2126 2126) cc27 (by omega) (by omega)
          refine lv_aload_n hx hb dX11_undo_33 rfl (lv_at hl 0 rfl) ?_
          refine pl_get (v := .ref (ad 271)) hx hb hts (fun w h => mT (inX11 w h)) hown hG.1 hP (hst.1 255 (by decide)) hf15 rfl 41 (by decide) (hts _ (mT wg_1377)) (fun _ h => h) rfl dX11_undo_34 ?_
          refine lv_iload_n hx hb dX11_undo_37 rfl (lv_at hl 1 rfl) ?_
          refine lv_aload_n hx hb dX11_undo_38 rfl (lv_at hl 0 rfl) ?_
          refine pl_get (v := .ref (ad 273)) hx hb hts (fun w h => mT (inX11 w h)) hown hG.1 hP (hst.1 255 (by decide)) hf15 rfl 43 (by decide) (hts _ (mT wg_1379)) (fun _ h => h) rfl dX11_undo_39 ?_
          refine lv_sipush (v := 2126) hx hb dX11_undo_42 (by decide) ?_
          refine lv_aload_n hx hb dX11_undo_45 rfl (lv_at hl 0 rfl) ?_
          refine pl_get (v := .int x9) hx hb hts (fun w h => mT (inX11 w h)) hown hG.1 hP (hst.1 255 (by decide)) hf15 rfl 47 (by decide) (hts _ (mT wg_1383)) (fun _ h => h) rfl dX11_undo_46 ?_
          refine lv_imul hx hb dX11_undo_49 ?_
          refine lv_topi (fun x29 ex29 => ?_)
          have hb30 : In x29 0 40394 := ex29 ▸ In.mul (⟨by decide, by decide⟩ : In 2126 2126 2126) hb10 (by decide) (by decide) (by decide) (by decide) (by decide)
          refine lv_iload_n hx hb dX11_undo_50 rfl (lv_at hl 1 rfl) ?_
          refine lv_iadd hx hb dX11_undo_51 ?_
          refine lv_topi (fun x31 ex31 => ?_)
          have hb32 : In x31 0 42519 := ex31 ▸ In.add hb30 hb28 (by decide) (by decide) (by decide) (by decide)
          have et33 : x31.toInt = x29.toInt + y26_l1.toInt := In.add2e ex31 hb30 hb28 (by decide) (by decide)
          obtain ⟨rw34, hf35⟩ := hT.2.2 18 (by decide)
          have hin36 : vp_in x31 42520 := In.inb hb32 (by decide) (by decide)
          refine pl_iald hx hb hG.1 hP (hst.1 273 (by decide)) 0 hf35 rfl hin36 dX11_undo_52 ?_
          refine lv_topi (fun x37 ex37 => ?_)
          obtain ⟨rw38, hf39⟩ := hT.2.2 16 (by decide)
          refine pl_iastE hx hb hG.1 hP hD hS (hst.1 271 (by decide)) 0 hf39 rfl (In.inb hb28 (by decide) (by decide)) dX11_undo_53 (fun H locs f40 r43 er43 hf41 ho42 hP hD hS => ?_)
          have hf44 := (ho42 (ad 255) (hst.ne (by decide) (by decide) (by decide))).trans hf15
          have hf45 := (ho42 (ad 273) (hst.ne (by decide) (by decide) (by decide))).trans hf35
          have hfr : (∀ b, b ≠ (ad 255) → b ≠ (ad 271) → f40 b = f b) := fun b z0_ z1_ => (ho42 b z1_).trans (hfr b z0_ z1_)
          obtain ⟨x46, ex46⟩ : ∃ y : Int32, y = y26_l1 + 1 := ⟨_, rfl⟩
          have hb47 : In x46 1 2126 := ex46 ▸ In.add hb28 (⟨by decide, by decide⟩ : In 1 1 1) (by decide) (by decide) (by decide) (by decide)
          have et48 : x46.toInt = y26_l1.toInt + 1 := In.adde ex46 hb28 (k := 1) (by decide) (by decide) (by decide)
          refine lv_iinc (v := x46) (lv' := [(1, .int x46), (0, .ref (ad 255))]) hx hb dX11_undo_54 hl (k := 1) rfl (by rw [ex46]; rfl) (by decide) rfl (fun ls hl => ?_)
          have hT := TI.updM hT hst (k := 16) (by decide) hf41 ho42 ⟨r43, rfl⟩
          refine lv_goto (tgt := 26) hx hb dX11_undo_57 (by decide) ?_
          exact ih26 x46 _ _ _ _ (In.mono hb47 (by decide) (by decide)) hP hD hS hT hfr hf44 (lv_sub hl [1, 0] rfl) (msu et48 (by decide) hmz26)
    exact hJ26 ((2147483647 - (0 : Int32).toInt).toNat + 1) 0 _ _ _ _ (⟨by decide, by decide⟩ : In 0 0 2147483647) hP hD hS hT hfr hf13 (lv_sub hl [1, 0] rfl) (msI _)
  ·
    have cc49 : v47_1.toInt = (0 : Int32).toInt := congrArg Int32.toInt c6
    have hb50 : In v47_1 0 0 := In.eq1 hv47_1 (⟨by decide, by decide⟩ : In 0 0 0) cc49 (by omega) (by omega)
    refine lv_iconst (v := (-1)) hx hb dX11_undo_12 (by decide) ?_
    exact ret_i (ty := .int) hx hb hr hlocks (rfl) hP hD hS (Nat.le_of_ble_eq_true rfl) (Nat.le_of_ble_eq_true rfl) (⟨rfl, hT, hfr⟩) dX11_undo_13

abbrev rm_X11_image : Room := { frames := 0, cells := 0, slots := 0, locals := 0 }
abbrev po_X11_image (g : GG) (ad : Nat → Nat) (th : Nat → Int) (L : List Nat) (f : HP)  : Int32 → (List Nat × HP) → Prop := fun r u => u.1 = L ∧ TI g ad th u.2 ∧ (∀ b, b ≠ (ad 255) → b ≠ (ad 272) → u.2 b = f b)
set_option maxHeartbeats 4000000 in
set_option maxRecDepth 100000 in
theorem s_X11_image (l : Launch) (g : GG) (ad : Nat → Nat) (th : Nat → Int) (L : List Nat) (f : HP) (sz : Nat)  (hst : ST ad L) (hT : TI g ad th f)  : MtI l g yX11_image cX11_image 2 (some .int) rm_X11_image [.ref (ad 255)] L f sz (po_X11_image g ad th L f ) := by
  refine MtI.of (by decide +kernel) (Nat.le_of_ble_eq_true rfl) ?_
  intro p e s m below meth c A hEn hP hD hS ls hl
  obtain ⟨hx, hb, hr, hml, hown, hlocks, hts, hG, hA, hE, hnm⟩ := hEn
  have hown : s.vm.findClass "RulerWordModel" = some m.cls := hown
  have hl : lv_has ls 2 [(0, .ref (ad 255))] := hl
  have hfr : (∀ b, b ≠ (ad 255) → b ≠ (ad 272) → f b = f b) := fun b z0_ z1_ => rfl
  refine lv_aload_n hx hb dX11_image_0 rfl (lv_at hl 0 rfl) ?_
  refine lv_iconst (v := 0) hx hb dX11_image_1 (by decide) ?_
  obtain ⟨v0_1, v2_1, v3_1, v4_1, v5_1, v6_1, v8_1, v9_1, v12_1, v13_1, v14_1, v15_1, v16_1, v17_1, v18_1, v19_1, v20_1, v21_1, v22_1, v23_1, v25_1, v36_1, v37_1, v38_1, v39_1, v40_1, v45_1, v46_1, v47_1, v48_1, v50_1, v51_1, v53_1, v55_1, hf2, hv0_1, hv2_1, hv3_1, hv4_1, hv5_1, hv6_1, hv8_1, hv12_1, hv13_1, hv14_1, hg14_1, hv15_1, hg15_1, hv17_1, hg17_1, hv20_1, hv23_1, hg23_1, hv25_1, hv36_1, hv47_1, hv48_1, hv53_1, hv55_1⟩ := hT.2.2 0 (by decide)
  refine pl_put (ty := .int) (v := .int 0) (fs' := [.int 0, .ref (ad 256), .int v2_1, .int v3_1, .int v4_1, .int v5_1, .int v6_1, .ref (ad 257), .int v8_1, .int v9_1, .ref (ad 258), .ref (ad 259), .int v12_1, .int v13_1, .int v14_1, .int v15_1, .int v16_1, .int v17_1, .int v18_1, .int v19_1, .int v20_1, .long v21_1, .long v22_1, .int v23_1, .ref (ad 260), .int v25_1, .ref (ad 261), .ref (ad 262), .ref (ad 263), .ref (ad 264), .ref (ad 265), .ref (ad 266), .ref (ad 267), .ref (ad 268), .ref (ad 269), .ref (ad 270), .int v36_1, .int v37_1, .int v38_1, .int v39_1, .int v40_1, .ref (ad 271), .ref (ad 272), .ref (ad 273), .ref (ad 274), .long v45_1, .long v46_1, .int v47_1, .int v48_1, .ref (ad 275), .int v50_1, .int v51_1, .ref (ad 276), .int v53_1, .ref (ad 277), .int v55_1]) hx hb hts (fun w h => mT (inX11 w h)) tyX11 tyX11_ok nmX11 hown hG.1 hP hD hS (hst.1 255 (by decide)) hf2 rfl 0 (by decide) (hts _ (mT wg_1336)) (fun _ h => h) rfl (by decide +kernel) (rfl) (rfl) (Nat.le_of_ble_eq_true rfl) rfl dX11_image_2 (fun H locs f3 hf4 ho5 hP hD hS => ?_)
  have hfr : (∀ b, b ≠ (ad 255) → b ≠ (ad 272) → f3 b = f b) := fun b z0_ z1_ => (ho5 b z0_).trans (hfr b z0_ z1_)
  refine lv_aload_n hx hb dX11_image_5 rfl (lv_at hl 0 rfl) ?_
  refine pl_get (v := .int v23_1) hx hb hts (fun w h => mT (inX11 w h)) hown hG.1 hP (hst.1 255 (by decide)) hf4 rfl 23 (by decide) (hts _ (mT wg_1359)) (fun _ h => h) rfl dX11_image_6 ?_
  have hT := TI.updM hT hst (k := 0) (by decide) hf4 ho5 ⟨0, v2_1, v3_1, v4_1, v5_1, v6_1, v8_1, v9_1, v12_1, v13_1, v14_1, v15_1, v16_1, v17_1, v18_1, v19_1, v20_1, v21_1, v22_1, v23_1, v25_1, v36_1, v37_1, v38_1, v39_1, v40_1, v45_1, v46_1, v47_1, v48_1, v50_1, v51_1, v53_1, v55_1, rfl, (⟨by decide, by decide⟩ : In 0 0 1), hv2_1, hv3_1, hv4_1, hv5_1, hv6_1, hv8_1, hv12_1, hv13_1, hv14_1, hg14_1, hv15_1, hg15_1, hv17_1, hg17_1, hv20_1, hv23_1, hg23_1, hv25_1, hv36_1, hv47_1, hv48_1, hv53_1, hv55_1⟩
  refine lv_if_ne (tgt := 14) hx hb dX11_image_9 (by decide) (fun c6 => ?_) (fun c6 => ?_)
  ·
    have cc7 : v23_1.toInt ≠ (0 : Int32).toInt := i32_ne c6
    have hb8 : In v23_1 1 1 := In.ne1 hv23_1 (⟨by decide, by decide⟩ : In 0 0 0) cc7 (by omega) (by omega)
    refine lv_iconst (v := 0) hx hb dX11_image_14 (by decide) ?_
    refine lv_istore_n (lv' := [(1, .int 0), (0, .ref (ad 255))]) hx hb dX11_image_15 rfl hl (by decide) rfl (fun ls hl => ?_)
    have hJ16 : ∀ (k16 : Nat) (y16_l1 : Int32) (f_16 : HP) (H : Heap) (locs : List Loc) (ls : Array Slot), In y16_l1 0 2147483647 → va_P g.1 vwCl (va_pl L f_16) H → va_D A (va_pl L f_16) → va_S A s.heap H locs → TI g ad th f_16 → (∀ b, b ≠ (ad 255) → b ≠ (ad 272) → f_16 b = f b) → f_16 (ad 255) = .inr (10, [.int 0, .ref (ad 256), .int v2_1, .int v3_1, .int v4_1, .int v5_1, .int v6_1, .ref (ad 257), .int v8_1, .int v9_1, .ref (ad 258), .ref (ad 259), .int v12_1, .int v13_1, .int v14_1, .int v15_1, .int v16_1, .int v17_1, .int v18_1, .int v19_1, .int v20_1, .long v21_1, .long v22_1, .int v23_1, .ref (ad 260), .int v25_1, .ref (ad 261), .ref (ad 262), .ref (ad 263), .ref (ad 264), .ref (ad 265), .ref (ad 266), .ref (ad 267), .ref (ad 268), .ref (ad 269), .ref (ad 270), .int v36_1, .int v37_1, .int v38_1, .int v39_1, .int v40_1, .ref (ad 271), .ref (ad 272), .ref (ad 273), .ref (ad 274), .long v45_1, .long v46_1, .int v47_1, .int v48_1, .ref (ad 275), .int v50_1, .int v51_1, .ref (ad 276), .int v53_1, .ref (ad 277), .int v55_1]) → lv_has ls 2 [(0, .ref (ad 255)), (1, .int y16_l1)] → 2147483647 - y16_l1.toInt < ((k16 : Nat) : Int) → W p l e rm_X11_image s m [.ref (ad 255)].toArray below meth c H locs 0 0 (MQ below (va_Qi (po_X11_image g ad th L f ) (PstB g A) A) [.ref (ad 255)].toArray s rm_X11_image.cells rm_X11_image.slots A) (F0 m 16 ls []) := by
      intro k16
      induction k16 with
      | zero =>
        intro y16_l1 f_16 H locs ls hy16_l1 hP hD hS hT hfr hf9 hl hmz16
        exact ms0 hy16_l1 hmz16
      | succ k16 ih16 =>
        intro y16_l1 f_16 H locs ls hy16_l1 hP hD hS hT hfr hf9 hl hmz16
        refine lv_iload_n hx hb dX11_image_16 rfl (lv_at hl 1 rfl) ?_
        refine lv_sipush (v := 2126) hx hb dX11_image_17 (by decide) ?_
        refine lv_icmp_ge (tgt := 41) hx hb dX11_image_20 (by decide) (fun c10 => ?_) (fun c10 => ?_)
        ·
          have cc11 : (2126 : Int32).toInt ≤ y16_l1.toInt := i32_le.mp c10
          have hb12 : In y16_l1 2126 2147483647 := In.ge1 hy16_l1 (⟨by decide, by decide⟩ : In 2126 2126 2126) cc11 (by omega) (by omega)
          refine lv_aload_n hx hb dX11_image_41 rfl (lv_at hl 0 rfl) ?_
          refine lv_aload_n hx hb dX11_image_42 rfl (lv_at hl 0 rfl) ?_
          refine pl_get (v := .long v45_1) hx hb hts (fun w h => mT (inX11 w h)) hown hG.1 hP (hst.1 255 (by decide)) hf9 rfl 45 (by decide) (hts _ (mT wg_1381)) (fun _ h => h) rfl dX11_image_43 ?_
          refine pl_put (ty := .long) (v := .long v45_1) (fs' := [.int 0, .ref (ad 256), .int v2_1, .int v3_1, .int v4_1, .int v5_1, .int v6_1, .ref (ad 257), .int v8_1, .int v9_1, .ref (ad 258), .ref (ad 259), .int v12_1, .int v13_1, .int v14_1, .int v15_1, .int v16_1, .int v17_1, .int v18_1, .int v19_1, .int v20_1, .long v21_1, .long v22_1, .int v23_1, .ref (ad 260), .int v25_1, .ref (ad 261), .ref (ad 262), .ref (ad 263), .ref (ad 264), .ref (ad 265), .ref (ad 266), .ref (ad 267), .ref (ad 268), .ref (ad 269), .ref (ad 270), .int v36_1, .int v37_1, .int v38_1, .int v39_1, .int v40_1, .ref (ad 271), .ref (ad 272), .ref (ad 273), .ref (ad 274), .long v45_1, .long v45_1, .int v47_1, .int v48_1, .ref (ad 275), .int v50_1, .int v51_1, .ref (ad 276), .int v53_1, .ref (ad 277), .int v55_1]) hx hb hts (fun w h => mT (inX11 w h)) tyX11 tyX11_ok nmX11 hown hG.1 hP hD hS (hst.1 255 (by decide)) hf9 rfl 46 (by decide) (hts _ (mT wg_1382)) (fun _ h => h) rfl (by decide +kernel) (rfl) (rfl) (Nat.le_of_ble_eq_true rfl) rfl dX11_image_46 (fun H locs f13 hf14 ho15 hP hD hS => ?_)
          have hfr : (∀ b, b ≠ (ad 255) → b ≠ (ad 272) → f13 b = f b) := fun b z0_ z1_ => (ho15 b z0_).trans (hfr b z0_ z1_)
          refine lv_aload_n hx hb dX11_image_49 rfl (lv_at hl 0 rfl) ?_
          refine lv_iconst (v := 1) hx hb dX11_image_50 (by decide) ?_
          refine pl_put (ty := .boolean) (v := .int 1) (fs' := [.int 0, .ref (ad 256), .int v2_1, .int v3_1, .int v4_1, .int v5_1, .int v6_1, .ref (ad 257), .int v8_1, .int v9_1, .ref (ad 258), .ref (ad 259), .int v12_1, .int v13_1, .int v14_1, .int v15_1, .int v16_1, .int v17_1, .int v18_1, .int v19_1, .int v20_1, .long v21_1, .long v22_1, .int v23_1, .ref (ad 260), .int v25_1, .ref (ad 261), .ref (ad 262), .ref (ad 263), .ref (ad 264), .ref (ad 265), .ref (ad 266), .ref (ad 267), .ref (ad 268), .ref (ad 269), .ref (ad 270), .int v36_1, .int v37_1, .int v38_1, .int v39_1, .int v40_1, .ref (ad 271), .ref (ad 272), .ref (ad 273), .ref (ad 274), .long v45_1, .long v45_1, .int v47_1, .int 1, .ref (ad 275), .int v50_1, .int v51_1, .ref (ad 276), .int v53_1, .ref (ad 277), .int v55_1]) hx hb hts (fun w h => mT (inX11 w h)) tyX11 tyX11_ok nmX11 hown hG.1 hP hD hS (hst.1 255 (by decide)) hf14 rfl 48 (by decide) (hts _ (mT wg_1384)) (fun _ h => h) rfl (by decide +kernel) (rfl) (rfl) (Nat.le_of_ble_eq_true rfl) rfl dX11_image_51 (fun H locs f16 hf17 ho18 hP hD hS => ?_)
          have ho19 : ∀ b, b ≠ (ad 255) → f16 b = _ := fun b hb => (ho18 b hb).trans (ho15 b hb)
          have hfr : (∀ b, b ≠ (ad 255) → b ≠ (ad 272) → f16 b = f b) := fun b z0_ z1_ => (ho18 b z0_).trans (hfr b z0_ z1_)
          refine lv_aload_n hx hb dX11_image_54 rfl (lv_at hl 0 rfl) ?_
          refine pl_get (v := .ref (ad 271)) hx hb hts (fun w h => mT (inX11 w h)) hown hG.1 hP (hst.1 255 (by decide)) hf17 rfl 41 (by decide) (hts _ (mT wg_1377)) (fun _ h => h) rfl dX11_image_55 ?_
          refine lv_bipush (v := 72) hx hb dX11_image_58 (by decide) ?_
          have hT := TI.updM hT hst (k := 0) (by decide) hf17 ho19 ⟨0, v2_1, v3_1, v4_1, v5_1, v6_1, v8_1, v9_1, v12_1, v13_1, v14_1, v15_1, v16_1, v17_1, v18_1, v19_1, v20_1, v21_1, v22_1, v23_1, v25_1, v36_1, v37_1, v38_1, v39_1, v40_1, v45_1, v45_1, v47_1, 1, v50_1, v51_1, v53_1, v55_1, rfl, (⟨by decide, by decide⟩ : In 0 0 1), hv2_1, hv3_1, hv4_1, hv5_1, hv6_1, hv8_1, hv12_1, hv13_1, hv14_1, hg14_1, hv15_1, hg15_1, hv17_1, hg17_1, hv20_1, (In.mono hb8 (by decide) (by decide)), hg23_1, hv25_1, hv36_1, hv47_1, (⟨by decide, by decide⟩ : In 1 0 1), hv53_1, hv55_1⟩
          obtain ⟨rw20, hf21⟩ := hT.2.2 16 (by decide)
          have hin22 : vp_in 72 2126 := In.inb (⟨by decide, by decide⟩ : In 72 72 72) (by decide) (by decide)
          refine pl_iald hx hb hG.1 hP (hst.1 271 (by decide)) 0 hf21 rfl hin22 dX11_image_60 ?_
          refine lv_topi (fun x23 ex23 => ?_)
          exact ret_i (ty := .int) hx hb hr hlocks (rfl) hP hD hS (Nat.le_of_ble_eq_true rfl) (Nat.le_of_ble_eq_true rfl) (⟨rfl, hT, hfr⟩) dX11_image_61
        ·
          have cc24 : y16_l1.toInt < (2126 : Int32).toInt := i32_nle c10
          have hb25 : In y16_l1 0 2125 := In.lt1 hy16_l1 (⟨by decide, by decide⟩ : In 2126 2126 2126) cc24 (by omega) (by omega)
          refine lv_aload_n hx hb dX11_image_23 rfl (lv_at hl 0 rfl) ?_
          refine pl_get (v := .ref (ad 272)) hx hb hts (fun w h => mT (inX11 w h)) hown hG.1 hP (hst.1 255 (by decide)) hf9 rfl 42 (by decide) (hts _ (mT wg_1378)) (fun _ h => h) rfl dX11_image_24 ?_
          refine lv_iload_n hx hb dX11_image_27 rfl (lv_at hl 1 rfl) ?_
          refine lv_aload_n hx hb dX11_image_28 rfl (lv_at hl 0 rfl) ?_
          refine pl_get (v := .ref (ad 271)) hx hb hts (fun w h => mT (inX11 w h)) hown hG.1 hP (hst.1 255 (by decide)) hf9 rfl 41 (by decide) (hts _ (mT wg_1377)) (fun _ h => h) rfl dX11_image_29 ?_
          refine lv_iload_n hx hb dX11_image_32 rfl (lv_at hl 1 rfl) ?_
          obtain ⟨rw26, hf27⟩ := hT.2.2 16 (by decide)
          have hin28 : vp_in y16_l1 2126 := In.inb hb25 (by decide) (by decide)
          refine pl_iald hx hb hG.1 hP (hst.1 271 (by decide)) 0 hf27 rfl hin28 dX11_image_33 ?_
          refine lv_topi (fun x29 ex29 => ?_)
          obtain ⟨rw30, hf31⟩ := hT.2.2 17 (by decide)
          refine pl_iastE hx hb hG.1 hP hD hS (hst.1 272 (by decide)) 0 hf31 rfl (In.inb hb25 (by decide) (by decide)) dX11_image_34 (fun H locs f32 r35 er35 hf33 ho34 hP hD hS => ?_)
          have hf36 := (ho34 (ad 255) (hst.ne (by decide) (by decide) (by decide))).trans hf9
          have hf37 := (ho34 (ad 271) (hst.ne (by decide) (by decide) (by decide))).trans hf27
          have hfr : (∀ b, b ≠ (ad 255) → b ≠ (ad 272) → f32 b = f b) := fun b z0_ z1_ => (ho34 b z1_).trans (hfr b z0_ z1_)
          obtain ⟨x38, ex38⟩ : ∃ y : Int32, y = y16_l1 + 1 := ⟨_, rfl⟩
          have hb39 : In x38 1 2126 := ex38 ▸ In.add hb25 (⟨by decide, by decide⟩ : In 1 1 1) (by decide) (by decide) (by decide) (by decide)
          have et40 : x38.toInt = y16_l1.toInt + 1 := In.adde ex38 hb25 (k := 1) (by decide) (by decide) (by decide)
          refine lv_iinc (v := x38) (lv' := [(1, .int x38), (0, .ref (ad 255))]) hx hb dX11_image_35 hl (k := 1) rfl (by rw [ex38]; rfl) (by decide) rfl (fun ls hl => ?_)
          have hT := TI.updM hT hst (k := 17) (by decide) hf33 ho34 ⟨r35, rfl⟩
          refine lv_goto (tgt := 16) hx hb dX11_image_38 (by decide) ?_
          exact ih16 x38 _ _ _ _ (In.mono hb39 (by decide) (by decide)) hP hD hS hT hfr hf36 (lv_sub hl [1, 0] rfl) (msu et40 (by decide) hmz16)
    exact hJ16 ((2147483647 - (0 : Int32).toInt).toNat + 1) 0 _ _ _ _ (⟨by decide, by decide⟩ : In 0 0 2147483647) hP hD hS hT hfr hf4 (lv_sub hl [1, 0] rfl) (msI _)
  ·
    have cc41 : v23_1.toInt = (0 : Int32).toInt := congrArg Int32.toInt c6
    have hb42 : In v23_1 0 0 := In.eq1 hv23_1 (⟨by decide, by decide⟩ : In 0 0 0) cc41 (by omega) (by omega)
    refine lv_iconst (v := (-1)) hx hb dX11_image_12 (by decide) ?_
    exact ret_i (ty := .int) hx hb hr hlocks (rfl) hP hD hS (Nat.le_of_ble_eq_true rfl) (Nat.le_of_ble_eq_true rfl) (⟨rfl, hT, hfr⟩) dX11_image_13

abbrev rm_X11_back : Room := { frames := 0, cells := 0, slots := 0, locals := 0 }
abbrev po_X11_back (g : GG) (ad : Nat → Nat) (th : Nat → Int) (L : List Nat) (f : HP)  : Int32 → (List Nat × HP) → Prop := fun r u => u.1 = L ∧ TI g ad th u.2 ∧ (∀ b, b ≠ (ad 255) → b ≠ (ad 271) → u.2 b = f b)
set_option maxHeartbeats 4000000 in
set_option maxRecDepth 100000 in
theorem s_X11_back (l : Launch) (g : GG) (ad : Nat → Nat) (th : Nat → Int) (L : List Nat) (f : HP) (sz : Nat)  (hst : ST ad L) (hT : TI g ad th f)  : MtI l g yX11_back cX11_back 2 (some .int) rm_X11_back [.ref (ad 255)] L f sz (po_X11_back g ad th L f ) := by
  refine MtI.of (by decide +kernel) (Nat.le_of_ble_eq_true rfl) ?_
  intro p e s m below meth c A hEn hP hD hS ls hl
  obtain ⟨hx, hb, hr, hml, hown, hlocks, hts, hG, hA, hE, hnm⟩ := hEn
  have hown : s.vm.findClass "RulerWordModel" = some m.cls := hown
  have hl : lv_has ls 2 [(0, .ref (ad 255))] := hl
  have hfr : (∀ b, b ≠ (ad 255) → b ≠ (ad 271) → f b = f b) := fun b z0_ z1_ => rfl
  refine lv_aload_n hx hb dX11_back_0 rfl (lv_at hl 0 rfl) ?_
  refine lv_iconst (v := 0) hx hb dX11_back_1 (by decide) ?_
  obtain ⟨v0_1, v2_1, v3_1, v4_1, v5_1, v6_1, v8_1, v9_1, v12_1, v13_1, v14_1, v15_1, v16_1, v17_1, v18_1, v19_1, v20_1, v21_1, v22_1, v23_1, v25_1, v36_1, v37_1, v38_1, v39_1, v40_1, v45_1, v46_1, v47_1, v48_1, v50_1, v51_1, v53_1, v55_1, hf2, hv0_1, hv2_1, hv3_1, hv4_1, hv5_1, hv6_1, hv8_1, hv12_1, hv13_1, hv14_1, hg14_1, hv15_1, hg15_1, hv17_1, hg17_1, hv20_1, hv23_1, hg23_1, hv25_1, hv36_1, hv47_1, hv48_1, hv53_1, hv55_1⟩ := hT.2.2 0 (by decide)
  refine pl_put (ty := .int) (v := .int 0) (fs' := [.int 0, .ref (ad 256), .int v2_1, .int v3_1, .int v4_1, .int v5_1, .int v6_1, .ref (ad 257), .int v8_1, .int v9_1, .ref (ad 258), .ref (ad 259), .int v12_1, .int v13_1, .int v14_1, .int v15_1, .int v16_1, .int v17_1, .int v18_1, .int v19_1, .int v20_1, .long v21_1, .long v22_1, .int v23_1, .ref (ad 260), .int v25_1, .ref (ad 261), .ref (ad 262), .ref (ad 263), .ref (ad 264), .ref (ad 265), .ref (ad 266), .ref (ad 267), .ref (ad 268), .ref (ad 269), .ref (ad 270), .int v36_1, .int v37_1, .int v38_1, .int v39_1, .int v40_1, .ref (ad 271), .ref (ad 272), .ref (ad 273), .ref (ad 274), .long v45_1, .long v46_1, .int v47_1, .int v48_1, .ref (ad 275), .int v50_1, .int v51_1, .ref (ad 276), .int v53_1, .ref (ad 277), .int v55_1]) hx hb hts (fun w h => mT (inX11 w h)) tyX11 tyX11_ok nmX11 hown hG.1 hP hD hS (hst.1 255 (by decide)) hf2 rfl 0 (by decide) (hts _ (mT wg_1336)) (fun _ h => h) rfl (by decide +kernel) (rfl) (rfl) (Nat.le_of_ble_eq_true rfl) rfl dX11_back_2 (fun H locs f3 hf4 ho5 hP hD hS => ?_)
  have hfr : (∀ b, b ≠ (ad 255) → b ≠ (ad 271) → f3 b = f b) := fun b z0_ z1_ => (ho5 b z0_).trans (hfr b z0_ z1_)
  refine lv_aload_n hx hb dX11_back_5 rfl (lv_at hl 0 rfl) ?_
  refine pl_get (v := .int v48_1) hx hb hts (fun w h => mT (inX11 w h)) hown hG.1 hP (hst.1 255 (by decide)) hf4 rfl 48 (by decide) (hts _ (mT wg_1384)) (fun _ h => h) rfl dX11_back_6 ?_
  have hT := TI.updM hT hst (k := 0) (by decide) hf4 ho5 ⟨0, v2_1, v3_1, v4_1, v5_1, v6_1, v8_1, v9_1, v12_1, v13_1, v14_1, v15_1, v16_1, v17_1, v18_1, v19_1, v20_1, v21_1, v22_1, v23_1, v25_1, v36_1, v37_1, v38_1, v39_1, v40_1, v45_1, v46_1, v47_1, v48_1, v50_1, v51_1, v53_1, v55_1, rfl, (⟨by decide, by decide⟩ : In 0 0 1), hv2_1, hv3_1, hv4_1, hv5_1, hv6_1, hv8_1, hv12_1, hv13_1, hv14_1, hg14_1, hv15_1, hg15_1, hv17_1, hg17_1, hv20_1, hv23_1, hg23_1, hv25_1, hv36_1, hv47_1, hv48_1, hv53_1, hv55_1⟩
  refine lv_if_ne (tgt := 14) hx hb dX11_back_9 (by decide) (fun c6 => ?_) (fun c6 => ?_)
  ·
    have cc7 : v48_1.toInt ≠ (0 : Int32).toInt := i32_ne c6
    have hb8 : In v48_1 1 1 := In.ne1 hv48_1 (⟨by decide, by decide⟩ : In 0 0 0) cc7 (by omega) (by omega)
    refine lv_iconst (v := 0) hx hb dX11_back_14 (by decide) ?_
    refine lv_istore_n (lv' := [(1, .int 0), (0, .ref (ad 255))]) hx hb dX11_back_15 rfl hl (by decide) rfl (fun ls hl => ?_)
    have hJ16 : ∀ (k16 : Nat) (y16_l1 : Int32) (f_16 : HP) (H : Heap) (locs : List Loc) (ls : Array Slot), In y16_l1 0 2147483647 → va_P g.1 vwCl (va_pl L f_16) H → va_D A (va_pl L f_16) → va_S A s.heap H locs → TI g ad th f_16 → (∀ b, b ≠ (ad 255) → b ≠ (ad 271) → f_16 b = f b) → f_16 (ad 255) = .inr (10, [.int 0, .ref (ad 256), .int v2_1, .int v3_1, .int v4_1, .int v5_1, .int v6_1, .ref (ad 257), .int v8_1, .int v9_1, .ref (ad 258), .ref (ad 259), .int v12_1, .int v13_1, .int v14_1, .int v15_1, .int v16_1, .int v17_1, .int v18_1, .int v19_1, .int v20_1, .long v21_1, .long v22_1, .int v23_1, .ref (ad 260), .int v25_1, .ref (ad 261), .ref (ad 262), .ref (ad 263), .ref (ad 264), .ref (ad 265), .ref (ad 266), .ref (ad 267), .ref (ad 268), .ref (ad 269), .ref (ad 270), .int v36_1, .int v37_1, .int v38_1, .int v39_1, .int v40_1, .ref (ad 271), .ref (ad 272), .ref (ad 273), .ref (ad 274), .long v45_1, .long v46_1, .int v47_1, .int v48_1, .ref (ad 275), .int v50_1, .int v51_1, .ref (ad 276), .int v53_1, .ref (ad 277), .int v55_1]) → lv_has ls 2 [(0, .ref (ad 255)), (1, .int y16_l1)] → 2147483647 - y16_l1.toInt < ((k16 : Nat) : Int) → W p l e rm_X11_back s m [.ref (ad 255)].toArray below meth c H locs 0 0 (MQ below (va_Qi (po_X11_back g ad th L f ) (PstB g A) A) [.ref (ad 255)].toArray s rm_X11_back.cells rm_X11_back.slots A) (F0 m 16 ls []) := by
      intro k16
      induction k16 with
      | zero =>
        intro y16_l1 f_16 H locs ls hy16_l1 hP hD hS hT hfr hf9 hl hmz16
        exact ms0 hy16_l1 hmz16
      | succ k16 ih16 =>
        intro y16_l1 f_16 H locs ls hy16_l1 hP hD hS hT hfr hf9 hl hmz16
        refine lv_iload_n hx hb dX11_back_16 rfl (lv_at hl 1 rfl) ?_
        refine lv_sipush (v := 2126) hx hb dX11_back_17 (by decide) ?_
        refine lv_icmp_ge (tgt := 41) hx hb dX11_back_20 (by decide) (fun c10 => ?_) (fun c10 => ?_)
        ·
          have cc11 : (2126 : Int32).toInt ≤ y16_l1.toInt := i32_le.mp c10
          have hb12 : In y16_l1 2126 2147483647 := In.ge1 hy16_l1 (⟨by decide, by decide⟩ : In 2126 2126 2126) cc11 (by omega) (by omega)
          refine lv_aload_n hx hb dX11_back_41 rfl (lv_at hl 0 rfl) ?_
          refine lv_aload_n hx hb dX11_back_42 rfl (lv_at hl 0 rfl) ?_
          refine pl_get (v := .long v46_1) hx hb hts (fun w h => mT (inX11 w h)) hown hG.1 hP (hst.1 255 (by decide)) hf9 rfl 46 (by decide) (hts _ (mT wg_1382)) (fun _ h => h) rfl dX11_back_43 ?_
          refine pl_put (ty := .long) (v := .long v46_1) (fs' := [.int 0, .ref (ad 256), .int v2_1, .int v3_1, .int v4_1, .int v5_1, .int v6_1, .ref (ad 257), .int v8_1, .int v9_1, .ref (ad 258), .ref (ad 259), .int v12_1, .int v13_1, .int v14_1, .int v15_1, .int v16_1, .int v17_1, .int v18_1, .int v19_1, .int v20_1, .long v21_1, .long v22_1, .int v23_1, .ref (ad 260), .int v25_1, .ref (ad 261), .ref (ad 262), .ref (ad 263), .ref (ad 264), .ref (ad 265), .ref (ad 266), .ref (ad 267), .ref (ad 268), .ref (ad 269), .ref (ad 270), .int v36_1, .int v37_1, .int v38_1, .int v39_1, .int v40_1, .ref (ad 271), .ref (ad 272), .ref (ad 273), .ref (ad 274), .long v46_1, .long v46_1, .int v47_1, .int v48_1, .ref (ad 275), .int v50_1, .int v51_1, .ref (ad 276), .int v53_1, .ref (ad 277), .int v55_1]) hx hb hts (fun w h => mT (inX11 w h)) tyX11 tyX11_ok nmX11 hown hG.1 hP hD hS (hst.1 255 (by decide)) hf9 rfl 45 (by decide) (hts _ (mT wg_1381)) (fun _ h => h) rfl (by decide +kernel) (rfl) (rfl) (Nat.le_of_ble_eq_true rfl) rfl dX11_back_46 (fun H locs f13 hf14 ho15 hP hD hS => ?_)
          have hfr : (∀ b, b ≠ (ad 255) → b ≠ (ad 271) → f13 b = f b) := fun b z0_ z1_ => (ho15 b z0_).trans (hfr b z0_ z1_)
          refine lv_aload_n hx hb dX11_back_49 rfl (lv_at hl 0 rfl) ?_
          refine lv_iconst (v := 0) hx hb dX11_back_50 (by decide) ?_
          refine pl_put (ty := .int) (v := .int 0) (fs' := [.int 0, .ref (ad 256), .int v2_1, .int v3_1, .int v4_1, .int v5_1, .int v6_1, .ref (ad 257), .int v8_1, .int v9_1, .ref (ad 258), .ref (ad 259), .int v12_1, .int v13_1, .int v14_1, .int v15_1, .int v16_1, .int v17_1, .int v18_1, .int v19_1, .int v20_1, .long v21_1, .long v22_1, .int v23_1, .ref (ad 260), .int v25_1, .ref (ad 261), .ref (ad 262), .ref (ad 263), .ref (ad 264), .ref (ad 265), .ref (ad 266), .ref (ad 267), .ref (ad 268), .ref (ad 269), .ref (ad 270), .int v36_1, .int v37_1, .int v38_1, .int v39_1, .int v40_1, .ref (ad 271), .ref (ad 272), .ref (ad 273), .ref (ad 274), .long v46_1, .long v46_1, .int 0, .int v48_1, .ref (ad 275), .int v50_1, .int v51_1, .ref (ad 276), .int v53_1, .ref (ad 277), .int v55_1]) hx hb hts (fun w h => mT (inX11 w h)) tyX11 tyX11_ok nmX11 hown hG.1 hP hD hS (hst.1 255 (by decide)) hf14 rfl 47 (by decide) (hts _ (mT wg_1383)) (fun _ h => h) rfl (by decide +kernel) (rfl) (rfl) (Nat.le_of_ble_eq_true rfl) rfl dX11_back_51 (fun H locs f16 hf17 ho18 hP hD hS => ?_)
          have ho19 : ∀ b, b ≠ (ad 255) → f16 b = _ := fun b hb => (ho18 b hb).trans (ho15 b hb)
          have hfr : (∀ b, b ≠ (ad 255) → b ≠ (ad 271) → f16 b = f b) := fun b z0_ z1_ => (ho18 b z0_).trans (hfr b z0_ z1_)
          refine lv_aload_n hx hb dX11_back_54 rfl (lv_at hl 0 rfl) ?_
          refine pl_get (v := .ref (ad 271)) hx hb hts (fun w h => mT (inX11 w h)) hown hG.1 hP (hst.1 255 (by decide)) hf17 rfl 41 (by decide) (hts _ (mT wg_1377)) (fun _ h => h) rfl dX11_back_55 ?_
          refine lv_bipush (v := 72) hx hb dX11_back_58 (by decide) ?_
          have hT := TI.updM hT hst (k := 0) (by decide) hf17 ho19 ⟨0, v2_1, v3_1, v4_1, v5_1, v6_1, v8_1, v9_1, v12_1, v13_1, v14_1, v15_1, v16_1, v17_1, v18_1, v19_1, v20_1, v21_1, v22_1, v23_1, v25_1, v36_1, v37_1, v38_1, v39_1, v40_1, v46_1, v46_1, 0, v48_1, v50_1, v51_1, v53_1, v55_1, rfl, (⟨by decide, by decide⟩ : In 0 0 1), hv2_1, hv3_1, hv4_1, hv5_1, hv6_1, hv8_1, hv12_1, hv13_1, hv14_1, hg14_1, hv15_1, hg15_1, hv17_1, hg17_1, hv20_1, hv23_1, hg23_1, hv25_1, hv36_1, (⟨by decide, by decide⟩ : In 0 0 20), (In.mono hb8 (by decide) (by decide)), hv53_1, hv55_1⟩
          obtain ⟨rw20, hf21⟩ := hT.2.2 16 (by decide)
          have hin22 : vp_in 72 2126 := In.inb (⟨by decide, by decide⟩ : In 72 72 72) (by decide) (by decide)
          refine pl_iald hx hb hG.1 hP (hst.1 271 (by decide)) 0 hf21 rfl hin22 dX11_back_60 ?_
          refine lv_topi (fun x23 ex23 => ?_)
          exact ret_i (ty := .int) hx hb hr hlocks (rfl) hP hD hS (Nat.le_of_ble_eq_true rfl) (Nat.le_of_ble_eq_true rfl) (⟨rfl, hT, hfr⟩) dX11_back_61
        ·
          have cc24 : y16_l1.toInt < (2126 : Int32).toInt := i32_nle c10
          have hb25 : In y16_l1 0 2125 := In.lt1 hy16_l1 (⟨by decide, by decide⟩ : In 2126 2126 2126) cc24 (by omega) (by omega)
          refine lv_aload_n hx hb dX11_back_23 rfl (lv_at hl 0 rfl) ?_
          refine pl_get (v := .ref (ad 271)) hx hb hts (fun w h => mT (inX11 w h)) hown hG.1 hP (hst.1 255 (by decide)) hf9 rfl 41 (by decide) (hts _ (mT wg_1377)) (fun _ h => h) rfl dX11_back_24 ?_
          refine lv_iload_n hx hb dX11_back_27 rfl (lv_at hl 1 rfl) ?_
          refine lv_aload_n hx hb dX11_back_28 rfl (lv_at hl 0 rfl) ?_
          refine pl_get (v := .ref (ad 272)) hx hb hts (fun w h => mT (inX11 w h)) hown hG.1 hP (hst.1 255 (by decide)) hf9 rfl 42 (by decide) (hts _ (mT wg_1378)) (fun _ h => h) rfl dX11_back_29 ?_
          refine lv_iload_n hx hb dX11_back_32 rfl (lv_at hl 1 rfl) ?_
          obtain ⟨rw26, hf27⟩ := hT.2.2 17 (by decide)
          have hin28 : vp_in y16_l1 2126 := In.inb hb25 (by decide) (by decide)
          refine pl_iald hx hb hG.1 hP (hst.1 272 (by decide)) 0 hf27 rfl hin28 dX11_back_33 ?_
          refine lv_topi (fun x29 ex29 => ?_)
          obtain ⟨rw30, hf31⟩ := hT.2.2 16 (by decide)
          refine pl_iastE hx hb hG.1 hP hD hS (hst.1 271 (by decide)) 0 hf31 rfl (In.inb hb25 (by decide) (by decide)) dX11_back_34 (fun H locs f32 r35 er35 hf33 ho34 hP hD hS => ?_)
          have hf36 := (ho34 (ad 255) (hst.ne (by decide) (by decide) (by decide))).trans hf9
          have hf37 := (ho34 (ad 272) (hst.ne (by decide) (by decide) (by decide))).trans hf27
          have hfr : (∀ b, b ≠ (ad 255) → b ≠ (ad 271) → f32 b = f b) := fun b z0_ z1_ => (ho34 b z1_).trans (hfr b z0_ z1_)
          obtain ⟨x38, ex38⟩ : ∃ y : Int32, y = y16_l1 + 1 := ⟨_, rfl⟩
          have hb39 : In x38 1 2126 := ex38 ▸ In.add hb25 (⟨by decide, by decide⟩ : In 1 1 1) (by decide) (by decide) (by decide) (by decide)
          have et40 : x38.toInt = y16_l1.toInt + 1 := In.adde ex38 hb25 (k := 1) (by decide) (by decide) (by decide)
          refine lv_iinc (v := x38) (lv' := [(1, .int x38), (0, .ref (ad 255))]) hx hb dX11_back_35 hl (k := 1) rfl (by rw [ex38]; rfl) (by decide) rfl (fun ls hl => ?_)
          have hT := TI.updM hT hst (k := 16) (by decide) hf33 ho34 ⟨r35, rfl⟩
          refine lv_goto (tgt := 16) hx hb dX11_back_38 (by decide) ?_
          exact ih16 x38 _ _ _ _ (In.mono hb39 (by decide) (by decide)) hP hD hS hT hfr hf36 (lv_sub hl [1, 0] rfl) (msu et40 (by decide) hmz16)
    exact hJ16 ((2147483647 - (0 : Int32).toInt).toNat + 1) 0 _ _ _ _ (⟨by decide, by decide⟩ : In 0 0 2147483647) hP hD hS hT hfr hf4 (lv_sub hl [1, 0] rfl) (msI _)
  ·
    have cc41 : v48_1.toInt = (0 : Int32).toInt := congrArg Int32.toInt c6
    have hb42 : In v48_1 0 0 := In.eq1 hv48_1 (⟨by decide, by decide⟩ : In 0 0 0) cc41 (by omega) (by omega)
    refine lv_iconst (v := (-1)) hx hb dX11_back_12 (by decide) ?_
    exact ret_i (ty := .int) hx hb hr hlocks (rfl) hP hD hS (Nat.le_of_ble_eq_true rfl) (Nat.le_of_ble_eq_true rfl) (⟨rfl, hT, hfr⟩) dX11_back_13

abbrev rm_X11_over : Room := { frames := 1, cells := 0, slots := 0, locals := 20 }
abbrev po_X11_over (g : GG) (ad : Nat → Nat) (th : Nat → Int) (L : List Nat) (f : HP)  : Int32 → (List Nat × HP) → Prop := fun _ u => u.1 = L ∧ u.2 = f
set_option maxHeartbeats 4000000 in
set_option maxRecDepth 100000 in
theorem s_X11_over (l : Launch) (g : GG) (ad : Nat → Nat) (th : Nat → Int) (L : List Nat) (f : HP) (sz : Nat)  (hst : ST ad L) (hT : TI g ad th f)  : MtI l g yX11_over cX11_over 1 (some .int) rm_X11_over [.ref (ad 255)] L f sz (po_X11_over g ad th L f ) := by
  refine MtI.of (by decide +kernel) (Nat.le_of_ble_eq_true rfl) ?_
  intro p e s m below meth c A hEn hP hD hS ls hl
  obtain ⟨hx, hb, hr, hml, hown, hlocks, hts, hG, hA, hE, hnm⟩ := hEn
  have hown : s.vm.findClass "RulerWordModel" = some m.cls := hown
  have hl : lv_has ls 1 [(0, .ref (ad 255))] := hl
  refine lv_aload_n hx hb dX11_over_0 rfl (lv_at hl 0 rfl) ?_
  obtain ⟨v0_1, v2_1, v3_1, v4_1, v5_1, v6_1, v8_1, v9_1, v12_1, v13_1, v14_1, v15_1, v16_1, v17_1, v18_1, v19_1, v20_1, v21_1, v22_1, v23_1, v25_1, v36_1, v37_1, v38_1, v39_1, v40_1, v45_1, v46_1, v47_1, v48_1, v50_1, v51_1, v53_1, v55_1, hf2, hv0_1, hv2_1, hv3_1, hv4_1, hv5_1, hv6_1, hv8_1, hv12_1, hv13_1, hv14_1, hg14_1, hv15_1, hg15_1, hv17_1, hg17_1, hv20_1, hv23_1, hg23_1, hv25_1, hv36_1, hv47_1, hv48_1, hv53_1, hv55_1⟩ := hT.2.2 0 (by decide)
  refine pl_get (v := .int v23_1) hx hb hts (fun w h => mT (inX11 w h)) hown hG.1 hP (hst.1 255 (by decide)) hf2 rfl 23 (by decide) (hts _ (mT wg_1359)) (fun _ h => h) rfl dX11_over_1 ?_
  refine lv_if_eq (tgt := 22) hx hb dX11_over_4 (by decide) (fun c3 => ?_) (fun c3 => ?_)
  ·
    have cc4 : v23_1.toInt = (0 : Int32).toInt := congrArg Int32.toInt c3
    have hb5 : In v23_1 0 0 := In.eq1 hv23_1 (⟨by decide, by decide⟩ : In 0 0 0) cc4 (by omega) (by omega)
    refine lv_iconst (v := 0) hx hb dX11_over_22 (by decide) ?_
    exact ret_i (ty := .int) hx hb hr hlocks (rfl) hP hD hS (Nat.le_of_ble_eq_true rfl) (Nat.le_of_ble_eq_true rfl) (⟨rfl, rfl⟩) dX11_over_23
  ·
    have cc6 : v23_1.toInt ≠ (0 : Int32).toInt := i32_ne c3
    have hb7 : In v23_1 1 1 := In.ne1 hv23_1 (⟨by decide, by decide⟩ : In 0 0 0) cc6 (by omega) (by omega)
    refine lv_aload_n hx hb dX11_over_7 rfl (lv_at hl 0 rfl) ?_
    refine pl_get (v := .ref (ad 271)) hx hb hts (fun w h => mT (inX11 w h)) hown hG.1 hP (hst.1 255 (by decide)) hf2 rfl 41 (by decide) (hts _ (mT wg_1377)) (fun _ h => h) rfl dX11_over_8 ?_
    refine lv_bipush (v := 72) hx hb dX11_over_11 (by decide) ?_
    obtain ⟨rw8, hf9⟩ := hT.2.2 16 (by decide)
    have hin10 : vp_in 72 2126 := In.inb (⟨by decide, by decide⟩ : In 72 72 72) (by decide) (by decide)
    refine pl_iald hx hb hG.1 hP (hst.1 271 (by decide)) 0 hf9 rfl hin10 dX11_over_13 ?_
    refine lv_topi (fun x11 ex11 => ?_)
    refine lv_aload_n hx hb dX11_over_14 rfl (lv_at hl 0 rfl) ?_
    refine call_i (run_V (rm := rm_X11_each) hx hb hml hown hts (s_X11_each l g ad th _ _ _  hst hT ) cV_X11_each wg_1636 ⟨Nat.le_of_ble_eq_true rfl, Nat.le_of_ble_eq_true rfl⟩ hG hE hA hP hD hS (hst.1 255 (by decide)) hf2 rfl rfl hl.1 (As := []) (rest := [.int x11]) rfl (Nat.le_of_ble_eq_true rfl) dX11_over_15 ⟨Nat.le_of_ble_eq_true rfl, Nat.le_of_ble_eq_true rfl⟩) hA hD hS (fun r12 L13 f14 H locs hp15 hP hD hS => ?_)
    obtain ⟨eL16L, eL16T, eL16R⟩ := hp15
    have eL16L : L13 = L := eL16L
    have eL16T : f14 = f := eL16T
    rw [eL16L, eL16T] at hP hD
    have eL16R : In r12 2 3 := eL16R
    refine lv_idiv hx hb dX11_over_18 (In.ne0 eL16R (by decide)) ?_
    refine lv_topi (fun x17 ex17 => ?_)
    refine lv_goto (tgt := 23) hx hb dX11_over_19 (by decide) ?_
    exact ret_i (ty := .int) hx hb hr hlocks (rfl) hP hD hS (Nat.le_of_ble_eq_true rfl) (Nat.le_of_ble_eq_true rfl) (⟨rfl, rfl⟩) dX11_over_23

abbrev rm_X11_foretold : Room := { frames := 0, cells := 0, slots := 0, locals := 0 }
abbrev po_X11_foretold (g : GG) (ad : Nat → Nat) (th : Nat → Int) (L : List Nat) (f : HP) (z1 : Int32) : Int32 → (List Nat × HP) → Prop := fun _ u => u.1 = L ∧ u.2 = f
set_option maxHeartbeats 4000000 in
set_option maxRecDepth 100000 in
theorem s_X11_foretold (l : Launch) (g : GG) (ad : Nat → Nat) (th : Nat → Int) (L : List Nat) (f : HP) (sz : Nat) (z1 : Int32) (hst : ST ad L) (hT : TI g ad th f)  : MtI l g yX11_foretold cX11_foretold 2 (some .int) rm_X11_foretold [.ref (ad 255), .int z1] L f sz (po_X11_foretold g ad th L f z1) := by
  refine MtI.of (by decide +kernel) (Nat.le_of_ble_eq_true rfl) ?_
  intro p e s m below meth c A hEn hP hD hS ls hl
  obtain ⟨hx, hb, hr, hml, hown, hlocks, hts, hG, hA, hE, hnm⟩ := hEn
  have hown : s.vm.findClass "RulerWordModel" = some m.cls := hown
  have hl : lv_has ls 2 [(0, .ref (ad 255)), (1, .int z1)] := hl
  refine lv_iload_n hx hb dX11_foretold_0 rfl (lv_at hl 1 rfl) ?_
  refine lv_if_ne (tgt := 30) hx hb dX11_foretold_1 (by decide) (fun c1 => ?_) (fun c1 => ?_)
  ·
    refine lv_aload_n hx hb dX11_foretold_30 rfl (lv_at hl 0 rfl) ?_
    obtain ⟨v0_2, v2_2, v3_2, v4_2, v5_2, v6_2, v8_2, v9_2, v12_2, v13_2, v14_2, v15_2, v16_2, v17_2, v18_2, v19_2, v20_2, v21_2, v22_2, v23_2, v25_2, v36_2, v37_2, v38_2, v39_2, v40_2, v45_2, v46_2, v47_2, v48_2, v50_2, v51_2, v53_2, v55_2, hf3, hv0_2, hv2_2, hv3_2, hv4_2, hv5_2, hv6_2, hv8_2, hv12_2, hv13_2, hv14_2, hg14_2, hv15_2, hg15_2, hv17_2, hg17_2, hv20_2, hv23_2, hg23_2, hv25_2, hv36_2, hv47_2, hv48_2, hv53_2, hv55_2⟩ := hT.2.2 0 (by decide)
    refine pl_get (v := .int v17_2) hx hb hts (fun w h => mT (inX11 w h)) hown hG.1 hP (hst.1 255 (by decide)) hf3 rfl 17 (by decide) (hts _ (mT wg_1353)) (fun _ h => h) rfl dX11_foretold_31 ?_
    refine lv_aload_n hx hb dX11_foretold_34 rfl (lv_at hl 0 rfl) ?_
    refine pl_get (v := .int v15_2) hx hb hts (fun w h => mT (inX11 w h)) hown hG.1 hP (hst.1 255 (by decide)) hf3 rfl 15 (by decide) (hts _ (mT wg_1351)) (fun _ h => h) rfl dX11_foretold_35 ?_
    refine lv_aload_n hx hb dX11_foretold_38 rfl (lv_at hl 0 rfl) ?_
    refine pl_get (v := .int v15_2) hx hb hts (fun w h => mT (inX11 w h)) hown hG.1 hP (hst.1 255 (by decide)) hf3 rfl 15 (by decide) (hts _ (mT wg_1351)) (fun _ h => h) rfl dX11_foretold_39 ?_
    refine lv_imul hx hb dX11_foretold_42 ?_
    refine lv_topi (fun x4 ex4 => ?_)
    have hb5 : In x4 0 81 := ex4 ▸ In.mul hv15_2 hv15_2 (by decide) (by decide) (by decide) (by decide) (by decide)
    refine lv_iconst (v := 1) hx hb dX11_foretold_43 (by decide) ?_
    refine lv_isub hx hb dX11_foretold_44 ?_
    refine lv_topi (fun x6 ex6 => ?_)
    have hb7 : In x6 (-1) 80 := ex6 ▸ In.sub hb5 (⟨by decide, by decide⟩ : In 1 1 1) (by decide) (by decide) (by decide) (by decide)
    have et8 : x6.toInt = x4.toInt + (-1) := In.sube ex6 hb5 (k := 1) (by decide) (by decide) (by decide)
    refine lv_imul hx hb dX11_foretold_45 ?_
    refine lv_topi (fun x9 ex9 => ?_)
    exact ret_i (ty := .int) hx hb hr hlocks (rfl) hP hD hS (Nat.le_of_ble_eq_true rfl) (Nat.le_of_ble_eq_true rfl) (⟨rfl, rfl⟩) dX11_foretold_46
  ·
    have cc10 : z1.toInt = (0 : Int32).toInt := congrArg Int32.toInt c1
    have hb11 : In z1 0 0 := In.eq1 (In.full z1) (⟨by decide, by decide⟩ : In 0 0 0) cc10 (by omega) (by omega)
    refine lv_aload_n hx hb dX11_foretold_4 rfl (lv_at hl 0 rfl) ?_
    obtain ⟨v0_12, v2_12, v3_12, v4_12, v5_12, v6_12, v8_12, v9_12, v12_12, v13_12, v14_12, v15_12, v16_12, v17_12, v18_12, v19_12, v20_12, v21_12, v22_12, v23_12, v25_12, v36_12, v37_12, v38_12, v39_12, v40_12, v45_12, v46_12, v47_12, v48_12, v50_12, v51_12, v53_12, v55_12, hf13, hv0_12, hv2_12, hv3_12, hv4_12, hv5_12, hv6_12, hv8_12, hv12_12, hv13_12, hv14_12, hg14_12, hv15_12, hg15_12, hv17_12, hg17_12, hv20_12, hv23_12, hg23_12, hv25_12, hv36_12, hv47_12, hv48_12, hv53_12, hv55_12⟩ := hT.2.2 0 (by decide)
    refine pl_get (v := .int v17_12) hx hb hts (fun w h => mT (inX11 w h)) hown hG.1 hP (hst.1 255 (by decide)) hf13 rfl 17 (by decide) (hts _ (mT wg_1353)) (fun _ h => h) rfl dX11_foretold_5 ?_
    refine lv_iconst (v := 2) hx hb dX11_foretold_8 (by decide) ?_
    refine lv_aload_n hx hb dX11_foretold_9 rfl (lv_at hl 0 rfl) ?_
    refine pl_get (v := .int v15_12) hx hb hts (fun w h => mT (inX11 w h)) hown hG.1 hP (hst.1 255 (by decide)) hf13 rfl 15 (by decide) (hts _ (mT wg_1351)) (fun _ h => h) rfl dX11_foretold_10 ?_
    refine lv_imul hx hb dX11_foretold_13 ?_
    refine lv_topi (fun x14 ex14 => ?_)
    have hb15 : In x14 0 18 := ex14 ▸ In.mul (⟨by decide, by decide⟩ : In 2 2 2) hv15_12 (by decide) (by decide) (by decide) (by decide) (by decide)
    refine lv_aload_n hx hb dX11_foretold_14 rfl (lv_at hl 0 rfl) ?_
    refine pl_get (v := .int v15_12) hx hb hts (fun w h => mT (inX11 w h)) hown hG.1 hP (hst.1 255 (by decide)) hf13 rfl 15 (by decide) (hts _ (mT wg_1351)) (fun _ h => h) rfl dX11_foretold_15 ?_
    refine lv_imul hx hb dX11_foretold_18 ?_
    refine lv_topi (fun x16 ex16 => ?_)
    have hb17 : In x16 0 162 := ex16 ▸ In.mul hb15 hv15_12 (by decide) (by decide) (by decide) (by decide) (by decide)
    refine lv_aload_n hx hb dX11_foretold_19 rfl (lv_at hl 0 rfl) ?_
    refine pl_get (v := .int v15_12) hx hb hts (fun w h => mT (inX11 w h)) hown hG.1 hP (hst.1 255 (by decide)) hf13 rfl 15 (by decide) (hts _ (mT wg_1351)) (fun _ h => h) rfl dX11_foretold_20 ?_
    refine lv_isub hx hb dX11_foretold_23 ?_
    refine lv_topi (fun x18 ex18 => ?_)
    have hb19 : In x18 (-9) 162 := ex18 ▸ In.sub hb17 hv15_12 (by decide) (by decide) (by decide) (by decide)
    have et20 : x18.toInt = x16.toInt - v15_12.toInt := In.sub2e ex18 hb17 hv15_12 (by decide) (by decide)
    refine lv_iconst (v := 1) hx hb dX11_foretold_24 (by decide) ?_
    refine lv_isub hx hb dX11_foretold_25 ?_
    refine lv_topi (fun x21 ex21 => ?_)
    have hb22 : In x21 (-10) 161 := ex21 ▸ In.sub hb19 (⟨by decide, by decide⟩ : In 1 1 1) (by decide) (by decide) (by decide) (by decide)
    have et23 : x21.toInt = x18.toInt + (-1) := In.sube ex21 hb19 (k := 1) (by decide) (by decide) (by decide)
    refine lv_imul hx hb dX11_foretold_26 ?_
    refine lv_topi (fun x24 ex24 => ?_)
    refine lv_goto (tgt := 46) hx hb dX11_foretold_27 (by decide) ?_
    exact ret_i (ty := .int) hx hb hr hlocks (rfl) hP hD hS (Nat.le_of_ble_eq_true rfl) (Nat.le_of_ble_eq_true rfl) (⟨rfl, rfl⟩) dX11_foretold_46

abbrev rm_X11_freeIn : Room := { frames := 2, cells := 0, slots := 0, locals := 42 }
abbrev po_X11_freeIn (g : GG) (ad : Nat → Nat) (th : Nat → Int) (L : List Nat) (f : HP) (z1 : Int32) : Int32 → (List Nat × HP) → Prop := fun _ u => u.1 = L ∧ u.2 = f
set_option maxHeartbeats 4000000 in
set_option maxRecDepth 100000 in
theorem s_X11_freeIn (l : Launch) (g : GG) (ad : Nat → Nat) (th : Nat → Int) (L : List Nat) (f : HP) (sz : Nat) (z1 : Int32) (hst : ST ad L) (hT : TI g ad th f) (hz1 : In z1 0 6) (hn3 : 3 ≤ th 11) : MtI l g yX11_freeIn cX11_freeIn 5 (some .int) rm_X11_freeIn [.ref (ad 255), .int z1] L f sz (po_X11_freeIn g ad th L f z1) := by
  refine MtI.of (by decide +kernel) (Nat.le_of_ble_eq_true rfl) ?_
  intro p e s m below meth c A hEn hP hD hS ls hl
  obtain ⟨hx, hb, hr, hml, hown, hlocks, hts, hG, hA, hE, hnm⟩ := hEn
  have hown : s.vm.findClass "RulerWordModel" = some m.cls := hown
  have hl : lv_has ls 5 [(0, .ref (ad 255)), (1, .int z1)] := hl
  refine lv_aload_n hx hb dX11_freeIn_0 rfl (lv_at hl 0 rfl) ?_
  obtain ⟨v0_1, v2_1, v3_1, v4_1, v5_1, v6_1, v8_1, v9_1, v12_1, v13_1, v14_1, v15_1, v16_1, v17_1, v18_1, v19_1, v20_1, v21_1, v22_1, v23_1, v25_1, v36_1, v37_1, v38_1, v39_1, v40_1, v45_1, v46_1, v47_1, v48_1, v50_1, v51_1, v53_1, v55_1, hf2, hv0_1, hv2_1, hv3_1, hv4_1, hv5_1, hv6_1, hv8_1, hv12_1, hv13_1, hv14_1, hg14_1, hv15_1, hg15_1, hv17_1, hg17_1, hv20_1, hv23_1, hg23_1, hv25_1, hv36_1, hv47_1, hv48_1, hv53_1, hv55_1⟩ := hT.2.2 0 (by decide)
  have hb3 : In v15_1 3 9 := ⟨by rw [hg15_1]; exact hn3, hv15_1.2⟩
  refine pl_get (v := .int v15_1) hx hb hts (fun w h => mT (inX11 w h)) hown hG.1 hP (hst.1 255 (by decide)) hf2 rfl 15 (by decide) (hts _ (mT wg_1351)) (fun _ h => h) rfl dX11_freeIn_1 ?_
  refine lv_aload_n hx hb dX11_freeIn_4 rfl (lv_at hl 0 rfl) ?_
  refine pl_get (v := .int v20_1) hx hb hts (fun w h => mT (inX11 w h)) hown hG.1 hP (hst.1 255 (by decide)) hf2 rfl 20 (by decide) (hts _ (mT wg_1356)) (fun _ h => h) rfl dX11_freeIn_5 ?_
  refine call_i (run_S (rm := rm_X11_bitsIn) hx hb hml hown hts (s_X11_bitsIn l g ad th _ _ _ v20_1 hst hT ) cS_X11_bitsIn wg_1827 ⟨Nat.le_of_ble_eq_true rfl, Nat.le_of_ble_eq_true rfl⟩ hG hE hA hP hD hS rfl hl.1 (As := [.int v20_1]) (rest := [.int v15_1]) rfl (Nat.le_of_ble_eq_true rfl) dX11_freeIn_8 ⟨Nat.le_of_ble_eq_true rfl, Nat.le_of_ble_eq_true rfl⟩) hA hD hS (fun r4 L5 f6 H locs hp7 hP hD hS => ?_)
  obtain ⟨eL8L, eL8T, eL8R⟩ := hp7
  have eL8L : L5 = L := eL8L
  have eL8T : f6 = f := eL8T
  rw [eL8L, eL8T] at hP hD
  have eL8R : In r4 0 9 := eL8R
  refine lv_isub hx hb dX11_freeIn_11 ?_
  refine lv_topi (fun x9 ex9 => ?_)
  have hb10 : In x9 (-6) 9 := ex9 ▸ In.sub hb3 eL8R (by decide) (by decide) (by decide) (by decide)
  have et11 : x9.toInt = v15_1.toInt - r4.toInt := In.sub2e ex9 hb3 eL8R (by decide) (by decide)
  refine lv_istore_n (lv' := [(2, .int x9), (0, .ref (ad 255)), (1, .int z1)]) hx hb dX11_freeIn_12 rfl hl (by decide) rfl (fun ls hl => ?_)
  refine lv_iload_n hx hb dX11_freeIn_13 rfl (lv_at hl 2 rfl) ?_
  refine lv_aload_n hx hb dX11_freeIn_14 rfl (lv_at hl 1 rfl) ?_
  refine call_i (run_V (rm := rm_X11_each) hx hb hml hown hts (s_X11_each l g ad th _ _ _  hst hT ) cV_X11_each wg_1636 ⟨Nat.le_of_ble_eq_true rfl, Nat.le_of_ble_eq_true rfl⟩ hG hE hA hP hD hS (hst.1 255 (by decide)) hf2 rfl rfl hl.1 (As := []) (rest := [.int z1]) rfl (Nat.le_of_ble_eq_true rfl) dX11_freeIn_15 ⟨Nat.le_of_ble_eq_true rfl, Nat.le_of_ble_eq_true rfl⟩) hA hD hS (fun r12 L13 f14 H locs hp15 hP hD hS => ?_)
  obtain ⟨eL16L, eL16T, eL16R⟩ := hp15
  have eL16L : L13 = L := eL16L
  have eL16T : f14 = f := eL16T
  rw [eL16L, eL16T] at hP hD
  have eL16R : In r12 2 3 := eL16R
  refine lv_iconst (v := 1) hx hb dX11_freeIn_18 (by decide) ?_
  refine lv_isub hx hb dX11_freeIn_19 ?_
  refine lv_topi (fun x17 ex17 => ?_)
  have hb18 : In x17 1 2 := ex17 ▸ In.sub eL16R (⟨by decide, by decide⟩ : In 1 1 1) (by decide) (by decide) (by decide) (by decide)
  have et19 : x17.toInt = r12.toInt + (-1) := In.sube ex17 eL16R (k := 1) (by decide) (by decide) (by decide)
  refine lv_imul hx hb dX11_freeIn_20 ?_
  refine lv_topi (fun x20 ex20 => ?_)
  have hb21 : In x20 0 12 := ex20 ▸ In.mul hz1 hb18 (by decide) (by decide) (by decide) (by decide) (by decide)
  refine lv_aload_n hx hb dX11_freeIn_21 rfl (lv_at hl 1 rfl) ?_
  refine pl_get (v := .int v20_1) hx hb hts (fun w h => mT (inX11 w h)) hown hG.1 hP (hst.1 255 (by decide)) hf2 rfl 20 (by decide) (hts _ (mT wg_1356)) (fun _ h => h) rfl dX11_freeIn_22 ?_
  refine call_i (run_S (rm := rm_X11_bitsIn) hx hb hml hown hts (s_X11_bitsIn l g ad th _ _ _ v20_1 hst hT ) cS_X11_bitsIn wg_1827 ⟨Nat.le_of_ble_eq_true rfl, Nat.le_of_ble_eq_true rfl⟩ hG hE hA hP hD hS rfl hl.1 (As := [.int v20_1]) (rest := [.int x20]) rfl (Nat.le_of_ble_eq_true rfl) dX11_freeIn_25 ⟨Nat.le_of_ble_eq_true rfl, Nat.le_of_ble_eq_true rfl⟩) hA hD hS (fun r22 L23 f24 H locs hp25 hP hD hS => ?_)
  obtain ⟨eL26L, eL26T, eL26R⟩ := hp25
  have eL26L : L23 = L := eL26L
  have eL26T : f24 = f := eL26T
  rw [eL26L, eL26T] at hP hD
  have eL26R : In r22 0 9 := eL26R
  refine lv_imul hx hb dX11_freeIn_28 ?_
  refine lv_topi (fun x27 ex27 => ?_)
  have hb28 : In x27 0 108 := ex27 ▸ In.mul hb21 eL26R (by decide) (by decide) (by decide) (by decide) (by decide)
  refine lv_iload_n hx hb dX11_freeIn_29 rfl (lv_at hl 0 rfl) ?_
  refine lv_imul hx hb dX11_freeIn_30 ?_
  refine lv_topi (fun x29 ex29 => ?_)
  refine lv_istore_n (lv' := [(3, .int x29), (2, .int x9), (0, .ref (ad 255)), (1, .int z1)]) hx hb dX11_freeIn_31 rfl hl (by decide) rfl (fun ls hl => ?_)
  refine lv_iconst (v := 0) hx hb dX11_freeIn_32 (by decide) ?_
  refine lv_istore (lv' := [(4, .int 0), (3, .int x29), (2, .int x9), (0, .ref (ad 255)), (1, .int z1)]) hx hb dX11_freeIn_33 hl (by decide) rfl (fun ls hl => ?_)
  have hJ35 : ∀ (k35 : Nat) (y35_l3 : Int32) (y35_l4 : Int32) (H : Heap) (locs : List Loc) (ls : Array Slot), In y35_l3 (-2147483648) 2147483647 → In y35_l4 0 6 → va_P g.1 vwCl (va_pl L f) H → va_D A (va_pl L f) → va_S A s.heap H locs → lv_has ls 5 [(0, .ref (ad 255)), (1, .int z1), (2, .int x9), (3, .int y35_l3), (4, .int y35_l4)] → 6 - y35_l4.toInt < ((k35 : Nat) : Int) → W p l e rm_X11_freeIn s m [.ref (ad 255), .int z1].toArray below meth c H locs 0 0 (MQ below (va_Qi (po_X11_freeIn g ad th L f z1) (PstB g A) A) [.ref (ad 255), .int z1].toArray s rm_X11_freeIn.cells rm_X11_freeIn.slots A) (F0 m 35 ls []) := by
    intro k35
    induction k35 with
    | zero =>
      intro y35_l3 y35_l4 H locs ls hy35_l3 hy35_l4 hP hD hS hl hmz35
      exact ms0 hy35_l4 hmz35
    | succ k35 ih35 =>
      intro y35_l3 y35_l4 H locs ls hy35_l3 hy35_l4 hP hD hS hl hmz35
      refine lv_iload hx hb dX11_freeIn_35 (lv_at hl 4 rfl) ?_
      refine lv_iload_n hx hb dX11_freeIn_37 rfl (lv_at hl 1 rfl) ?_
      refine lv_icmp_ge (tgt := 69) hx hb dX11_freeIn_38 (by decide) (fun c30 => ?_) (fun c30 => ?_)
      ·
        refine lv_iload_n hx hb dX11_freeIn_69 rfl (lv_at hl 3 rfl) ?_
        exact ret_i (ty := .int) hx hb hr hlocks (rfl) hP hD hS (Nat.le_of_ble_eq_true rfl) (Nat.le_of_ble_eq_true rfl) (⟨rfl, rfl⟩) dX11_freeIn_70
      ·
        have cc31 : y35_l4.toInt < z1.toInt := i32_nle c30
        have hb32 : In y35_l4 0 5 := In.lt1 hy35_l4 hz1 cc31 (by omega) (by omega)
        have hb33 : In z1 1 6 := In.lt2 hy35_l4 hz1 cc31 (by omega) (by omega)
        refine lv_iload_n hx hb dX11_freeIn_41 rfl (lv_at hl 3 rfl) ?_
        refine lv_aload_n hx hb dX11_freeIn_42 rfl (lv_at hl 0 rfl) ?_
        refine lv_iload hx hb dX11_freeIn_43 (lv_at hl 4 rfl) ?_
        refine lv_aload_n hx hb dX11_freeIn_45 rfl (lv_at hl 0 rfl) ?_
        refine pl_get (v := .int v15_1) hx hb hts (fun w h => mT (inX11 w h)) hown hG.1 hP (hst.1 255 (by decide)) hf2 rfl 15 (by decide) (hts _ (mT wg_1351)) (fun _ h => h) rfl dX11_freeIn_46 ?_
        refine lv_irem hx hb dX11_freeIn_49 (In.ne0 hb3 (by decide)) ?_
        refine lv_topi (fun x34 ex34 => ?_)
        have hb35 : In x34 0 5 := ex34 ▸ In.rem hb32 hb3 (by decide) (by decide) (by decide)
        refine call_i (run_V (rm := rm_X11_isLiar) hx hb hml hown hts (s_X11_isLiar l g ad th _ _ _ x34 hst hT ) cV_X11_isLiar wg_1664 ⟨Nat.le_of_ble_eq_true rfl, Nat.le_of_ble_eq_true rfl⟩ hG hE hA hP hD hS (hst.1 255 (by decide)) hf2 rfl rfl hl.1 (As := [.int x34]) (rest := [.int y35_l3]) rfl (Nat.le_of_ble_eq_true rfl) dX11_freeIn_50 ⟨Nat.le_of_ble_eq_true rfl, Nat.le_of_ble_eq_true rfl⟩) hA hD hS (fun r36 L37 f38 H locs hp39 hP hD hS => ?_)
        obtain ⟨eL40L, eL40T, eL40R⟩ := hp39
        have eL40L : L37 = L := eL40L
        have eL40T : f38 = f := eL40T
        rw [eL40L, eL40T] at hP hD
        have eL40R : In r36 0 1 := eL40R
        have hJ61 : ∀ (y61_s0 : Int32) (H : Heap) (locs : List Loc) (ls : Array Slot), In y61_s0 (-6) 9 → va_P g.1 vwCl (va_pl L f) H → va_D A (va_pl L f) → va_S A s.heap H locs → lv_has ls 5 [(0, .ref (ad 255)), (1, .int z1), (2, .int x9), (3, .int y35_l3), (4, .int y35_l4)] → W p l e rm_X11_freeIn s m [.ref (ad 255), .int z1].toArray below meth c H locs 0 0 (MQ below (va_Qi (po_X11_freeIn g ad th L f z1) (PstB g A) A) [.ref (ad 255), .int z1].toArray s rm_X11_freeIn.cells rm_X11_freeIn.slots A) (F0 m 61 ls [.int y61_s0, .int y35_l3]) := by
          intro y61_s0 H locs ls hy61_s0 hP hD hS hl
          refine lv_iadd hx hb dX11_freeIn_61 ?_
          refine lv_topi (fun x41 ex41 => ?_)
          refine lv_istore_n (lv' := [(3, .int x41), (0, .ref (ad 255)), (1, .int z1), (2, .int x9), (4, .int y35_l4)]) hx hb dX11_freeIn_62 rfl hl (by decide) rfl (fun ls hl => ?_)
          obtain ⟨x42, ex42⟩ : ∃ y : Int32, y = y35_l4 + 1 := ⟨_, rfl⟩
          have hb43 : In x42 1 6 := ex42 ▸ In.add hb32 (⟨by decide, by decide⟩ : In 1 1 1) (by decide) (by decide) (by decide) (by decide)
          have et44 : x42.toInt = y35_l4.toInt + 1 := In.adde ex42 hb32 (k := 1) (by decide) (by decide) (by decide)
          refine lv_iinc (v := x42) (lv' := [(4, .int x42), (3, .int x41), (0, .ref (ad 255)), (1, .int z1), (2, .int x9)]) hx hb dX11_freeIn_63 hl (k := 4) rfl (by rw [ex42]; rfl) (by decide) rfl (fun ls hl => ?_)
          refine lv_goto (tgt := 35) hx hb dX11_freeIn_66 (by decide) ?_
          exact ih35 x41 x42 _ _ _ (In.full x41) (In.mono hb43 (by decide) (by decide)) hP hD hS (lv_sub hl [2, 3, 4, 1, 0] rfl) (msu et44 (by decide) hmz35)
        refine lv_if_eq (tgt := 60) hx hb dX11_freeIn_53 (by decide) (fun c45 => ?_) (fun c45 => ?_)
        ·
          have cc46 : r36.toInt = (0 : Int32).toInt := congrArg Int32.toInt c45
          have hb47 : In r36 0 0 := In.eq1 eL40R (⟨by decide, by decide⟩ : In 0 0 0) cc46 (by omega) (by omega)
          refine lv_iconst (v := 0) hx hb dX11_freeIn_60 (by decide) ?_
          exact hJ61 0 _ _ _ (⟨by decide, by decide⟩ : In 0 (-6) 9) hP hD hS (lv_sub hl [0, 1, 2, 3, 4] rfl)
        ·
          have cc48 : r36.toInt ≠ (0 : Int32).toInt := i32_ne c45
          have hb49 : In r36 1 1 := In.ne1 eL40R (⟨by decide, by decide⟩ : In 0 0 0) cc48 (by omega) (by omega)
          refine lv_iload_n hx hb dX11_freeIn_56 rfl (lv_at hl 2 rfl) ?_
          refine lv_goto (tgt := 61) hx hb dX11_freeIn_57 (by decide) ?_
          exact hJ61 x9 _ _ _ hb10 hP hD hS (lv_sub hl [0, 1, 2, 3, 4] rfl)
  exact hJ35 ((6 - (0 : Int32).toInt).toNat + 1) x29 0 _ _ _ (In.full x29) (⟨by decide, by decide⟩ : In 0 0 6) hP hD hS (lv_sub hl [3, 4, 2, 1, 0] rfl) (msI _)

abbrev rm_X11_greatest : Room := { frames := 1, cells := 0, slots := 0, locals := 25 }
abbrev po_X11_greatest (g : GG) (ad : Nat → Nat) (th : Nat → Int) (L : List Nat) (f : HP) (z1 : Int32) (z2 : Int32) : Int32 → (List Nat × HP) → Prop := fun r u => u.1 = L ∧ TI g ad th u.2 ∧ (∀ b, b ≠ (ad 255) → u.2 b = f b)
set_option maxHeartbeats 4000000 in
set_option maxRecDepth 100000 in
theorem s_X11_greatest (l : Launch) (g : GG) (ad : Nat → Nat) (th : Nat → Int) (L : List Nat) (f : HP) (sz : Nat) (z1 : Int32) (z2 : Int32) (hst : ST ad L) (hT : TI g ad th f)  : MtI l g yX11_greatest cX11_greatest 3 (some .int) rm_X11_greatest [.ref (ad 255), .int z1, .int z2] L f sz (po_X11_greatest g ad th L f z1 z2) := by
  refine MtI.of (by decide +kernel) (Nat.le_of_ble_eq_true rfl) ?_
  intro p e s m below meth c A hEn hP hD hS ls hl
  obtain ⟨hx, hb, hr, hml, hown, hlocks, hts, hG, hA, hE, hnm⟩ := hEn
  have hown : s.vm.findClass "RulerWordModel" = some m.cls := hown
  have hl : lv_has ls 3 [(0, .ref (ad 255)), (1, .int z1), (2, .int z2)] := hl
  have hfr : (∀ b, b ≠ (ad 255) → f b = f b) := fun b z0_ => rfl
  refine lv_aload_n hx hb dX11_greatest_0 rfl (lv_at hl 0 rfl) ?_
  refine lv_iconst (v := 0) hx hb dX11_greatest_1 (by decide) ?_
  obtain ⟨v0_1, v2_1, v3_1, v4_1, v5_1, v6_1, v8_1, v9_1, v12_1, v13_1, v14_1, v15_1, v16_1, v17_1, v18_1, v19_1, v20_1, v21_1, v22_1, v23_1, v25_1, v36_1, v37_1, v38_1, v39_1, v40_1, v45_1, v46_1, v47_1, v48_1, v50_1, v51_1, v53_1, v55_1, hf2, hv0_1, hv2_1, hv3_1, hv4_1, hv5_1, hv6_1, hv8_1, hv12_1, hv13_1, hv14_1, hg14_1, hv15_1, hg15_1, hv17_1, hg17_1, hv20_1, hv23_1, hg23_1, hv25_1, hv36_1, hv47_1, hv48_1, hv53_1, hv55_1⟩ := hT.2.2 0 (by decide)
  refine pl_put (ty := .int) (v := .int 0) (fs' := [.int 0, .ref (ad 256), .int v2_1, .int v3_1, .int v4_1, .int v5_1, .int v6_1, .ref (ad 257), .int v8_1, .int v9_1, .ref (ad 258), .ref (ad 259), .int v12_1, .int v13_1, .int v14_1, .int v15_1, .int v16_1, .int v17_1, .int v18_1, .int v19_1, .int v20_1, .long v21_1, .long v22_1, .int v23_1, .ref (ad 260), .int v25_1, .ref (ad 261), .ref (ad 262), .ref (ad 263), .ref (ad 264), .ref (ad 265), .ref (ad 266), .ref (ad 267), .ref (ad 268), .ref (ad 269), .ref (ad 270), .int v36_1, .int v37_1, .int v38_1, .int v39_1, .int v40_1, .ref (ad 271), .ref (ad 272), .ref (ad 273), .ref (ad 274), .long v45_1, .long v46_1, .int v47_1, .int v48_1, .ref (ad 275), .int v50_1, .int v51_1, .ref (ad 276), .int v53_1, .ref (ad 277), .int v55_1]) hx hb hts (fun w h => mT (inX11 w h)) tyX11 tyX11_ok nmX11 hown hG.1 hP hD hS (hst.1 255 (by decide)) hf2 rfl 0 (by decide) (hts _ (mT wg_1336)) (fun _ h => h) rfl (by decide +kernel) (rfl) (rfl) (Nat.le_of_ble_eq_true rfl) rfl dX11_greatest_2 (fun H locs f3 hf4 ho5 hP hD hS => ?_)
  have hfr : (∀ b, b ≠ (ad 255) → f3 b = f b) := fun b z0_ => (ho5 b z0_).trans (hfr b z0_)
  refine lv_iload_n hx hb dX11_greatest_5 rfl (lv_at hl 1 rfl) ?_
  refine lv_i2l hx hb dX11_greatest_6 rfl ?_
  refine lv_lconst (v := 0) hx hb dX11_greatest_7 (by decide) ?_
  refine lv_lconst (v := 1) hx hb dX11_greatest_8 (by decide) ?_
  have hT := TI.updM hT hst (k := 0) (by decide) hf4 ho5 ⟨0, v2_1, v3_1, v4_1, v5_1, v6_1, v8_1, v9_1, v12_1, v13_1, v14_1, v15_1, v16_1, v17_1, v18_1, v19_1, v20_1, v21_1, v22_1, v23_1, v25_1, v36_1, v37_1, v38_1, v39_1, v40_1, v45_1, v46_1, v47_1, v48_1, v50_1, v51_1, v53_1, v55_1, rfl, (⟨by decide, by decide⟩ : In 0 0 1), hv2_1, hv3_1, hv4_1, hv5_1, hv6_1, hv8_1, hv12_1, hv13_1, hv14_1, hg14_1, hv15_1, hg15_1, hv17_1, hg17_1, hv20_1, hv23_1, hg23_1, hv25_1, hv36_1, hv47_1, hv48_1, hv53_1, hv55_1⟩
  refine call_i (run_S (rm := rm_X11_isIn) hx hb hml hown hts (s_X11_isIn l g ad th _ _ _ (z1.toInt64) 0 1 hst hT ) cS_X11_isIn wg_1581 ⟨Nat.le_of_ble_eq_true rfl, Nat.le_of_ble_eq_true rfl⟩ hG hE hA hP hD hS rfl hl.1 (As := [.long (z1.toInt64), .long 0, .long 1]) (rest := []) rfl (Nat.le_of_ble_eq_true rfl) dX11_greatest_9 ⟨Nat.le_of_ble_eq_true rfl, Nat.le_of_ble_eq_true rfl⟩) hA hD hS (fun r6 L7 f8 H locs hp9 hP hD hS => ?_)
  obtain ⟨eL10L, eL10T, eL10R⟩ := hp9
  have eL10L : L7 = L := eL10L
  have eL10T : f8 = f3 := eL10T
  rw [eL10L, eL10T] at hP hD
  have eL10R : In r6 0 1 := eL10R
  have hJ43 : ∀ (H : Heap) (locs : List Loc) (ls : Array Slot), va_P g.1 vwCl (va_pl L f3) H → va_D A (va_pl L f3) → va_S A s.heap H locs → lv_has ls 3 [(0, .ref (ad 255)), (1, .int z1), (2, .int z2)] → W p l e rm_X11_greatest s m [.ref (ad 255), .int z1, .int z2].toArray below meth c H locs 0 0 (MQ below (va_Qi (po_X11_greatest g ad th L f z1 z2) (PstB g A) A) [.ref (ad 255), .int z1, .int z2].toArray s rm_X11_greatest.cells rm_X11_greatest.slots A) (F0 m 43 ls []) := by
    intro H locs ls hP hD hS hl
    refine lv_iconst (v := (-1)) hx hb dX11_greatest_43 (by decide) ?_
    exact ret_i (ty := .int) hx hb hr hlocks (rfl) hP hD hS (Nat.le_of_ble_eq_true rfl) (Nat.le_of_ble_eq_true rfl) (⟨rfl, hT, hfr⟩) dX11_greatest_44
  refine lv_if_eq (tgt := 43) hx hb dX11_greatest_12 (by decide) (fun c11 => ?_) (fun c11 => ?_)
  ·
    have cc12 : r6.toInt = (0 : Int32).toInt := congrArg Int32.toInt c11
    have hb13 : In r6 0 0 := In.eq1 eL10R (⟨by decide, by decide⟩ : In 0 0 0) cc12 (by omega) (by omega)
    exact hJ43 _ _ _ hP hD hS (lv_sub hl [0, 1, 2] rfl)
  ·
    have cc14 : r6.toInt ≠ (0 : Int32).toInt := i32_ne c11
    have hb15 : In r6 1 1 := In.ne1 eL10R (⟨by decide, by decide⟩ : In 0 0 0) cc14 (by omega) (by omega)
    refine lv_iload_n hx hb dX11_greatest_15 rfl (lv_at hl 2 rfl) ?_
    refine lv_i2l hx hb dX11_greatest_16 rfl ?_
    refine lv_lconst (v := 1) hx hb dX11_greatest_17 (by decide) ?_
    refine lv_ldc2 hx hb hown (hts _ (mT wg_1818)) dX11_greatest_18 ?_
    refine call_i (run_S (rm := rm_X11_isIn) hx hb hml hown hts (s_X11_isIn l g ad th _ _ _ (z2.toInt64) 1 100 hst hT ) cS_X11_isIn wg_1581 ⟨Nat.le_of_ble_eq_true rfl, Nat.le_of_ble_eq_true rfl⟩ hG hE hA hP hD hS rfl hl.1 (As := [.long (z2.toInt64), .long 1, .long 100]) (rest := []) rfl (Nat.le_of_ble_eq_true rfl) dX11_greatest_21 ⟨Nat.le_of_ble_eq_true rfl, Nat.le_of_ble_eq_true rfl⟩) hA hD hS (fun r16 L17 f18 H locs hp19 hP hD hS => ?_)
    obtain ⟨eL20L, eL20T, eL20R⟩ := hp19
    have eL20L : L17 = L := eL20L
    have eL20T : f18 = f3 := eL20T
    rw [eL20L, eL20T] at hP hD
    have eL20R : In r16 0 1 := eL20R
    refine lv_if_eq (tgt := 43) hx hb dX11_greatest_24 (by decide) (fun c21 => ?_) (fun c21 => ?_)
    ·
      have cc22 : r16.toInt = (0 : Int32).toInt := congrArg Int32.toInt c21
      have hb23 : In r16 0 0 := In.eq1 eL20R (⟨by decide, by decide⟩ : In 0 0 0) cc22 (by omega) (by omega)
      exact hJ43 _ _ _ hP hD hS (lv_sub hl [0, 1, 2] rfl)
    ·
      have cc24 : r16.toInt ≠ (0 : Int32).toInt := i32_ne c21
      have hb25 : In r16 1 1 := In.ne1 eL20R (⟨by decide, by decide⟩ : In 0 0 0) cc24 (by omega) (by omega)
      refine lv_iload_n hx hb dX11_greatest_27 rfl (lv_at hl 2 rfl) ?_
      refine lv_iconst (v := 1) hx hb dX11_greatest_28 (by decide) ?_
      refine lv_isub hx hb dX11_greatest_29 ?_
      refine lv_topi (fun x26 ex26 => ?_)
      refine lv_iload_n hx hb dX11_greatest_30 rfl (lv_at hl 1 rfl) ?_
      have hJ39 : ∀ (y39_s0 : Int32) (H : Heap) (locs : List Loc) (ls : Array Slot), In y39_s0 3 4 → va_P g.1 vwCl (va_pl L f3) H → va_D A (va_pl L f3) → va_S A s.heap H locs → lv_has ls 3 [(0, .ref (ad 255)), (1, .int z1), (2, .int z2)] → W p l e rm_X11_greatest s m [.ref (ad 255), .int z1, .int z2].toArray below meth c H locs 0 0 (MQ below (va_Qi (po_X11_greatest g ad th L f z1 z2) (PstB g A) A) [.ref (ad 255), .int z1, .int z2].toArray s rm_X11_greatest.cells rm_X11_greatest.slots A) (F0 m 39 ls [.int y39_s0, .int x26]) := by
        intro y39_s0 H locs ls hy39_s0 hP hD hS hl
        refine lv_idiv hx hb dX11_greatest_39 (In.ne0 hy39_s0 (by decide)) ?_
        refine lv_topi (fun x27 ex27 => ?_)
        refine lv_goto (tgt := 44) hx hb dX11_greatest_40 (by decide) ?_
        exact ret_i (ty := .int) hx hb hr hlocks (rfl) hP hD hS (Nat.le_of_ble_eq_true rfl) (Nat.le_of_ble_eq_true rfl) (⟨rfl, hT, hfr⟩) dX11_greatest_44
      refine lv_if_ne (tgt := 38) hx hb dX11_greatest_31 (by decide) (fun c28 => ?_) (fun c28 => ?_)
      ·
        refine lv_iconst (v := 4) hx hb dX11_greatest_38 (by decide) ?_
        exact hJ39 4 _ _ _ (⟨by decide, by decide⟩ : In 4 3 4) hP hD hS (lv_sub hl [0, 1, 2] rfl)
      ·
        have cc29 : z1.toInt = (0 : Int32).toInt := congrArg Int32.toInt c28
        have hb30 : In z1 0 0 := In.eq1 (In.full z1) (⟨by decide, by decide⟩ : In 0 0 0) cc29 (by omega) (by omega)
        refine lv_iconst (v := 3) hx hb dX11_greatest_34 (by decide) ?_
        refine lv_goto (tgt := 39) hx hb dX11_greatest_35 (by decide) ?_
        exact hJ39 3 _ _ _ (⟨by decide, by decide⟩ : In 3 3 4) hP hD hS (lv_sub hl [0, 1, 2] rfl)

abbrev rm_X11_count : Room := { frames := 0, cells := 0, slots := 0, locals := 0 }
abbrev po_X11_count (g : GG) (ad : Nat → Nat) (th : Nat → Int) (L : List Nat) (f : HP) (z1 : Int32) : Int32 → (List Nat × HP) → Prop := fun r u => u.1 = L ∧ TI g ad th u.2 ∧ (∀ b, b ≠ (ad 255) → u.2 b = f b)
set_option maxHeartbeats 4000000 in
set_option maxRecDepth 100000 in
theorem s_X11_count (l : Launch) (g : GG) (ad : Nat → Nat) (th : Nat → Int) (L : List Nat) (f : HP) (sz : Nat) (z1 : Int32) (hst : ST ad L) (hT : TI g ad th f)  : MtI l g yX11_count cX11_count 2 (some .int) rm_X11_count [.ref (ad 255), .int z1] L f sz (po_X11_count g ad th L f z1) := by
  refine MtI.of (by decide +kernel) (Nat.le_of_ble_eq_true rfl) ?_
  intro p e s m below meth c A hEn hP hD hS ls hl
  obtain ⟨hx, hb, hr, hml, hown, hlocks, hts, hG, hA, hE, hnm⟩ := hEn
  have hown : s.vm.findClass "RulerWordModel" = some m.cls := hown
  have hl : lv_has ls 2 [(0, .ref (ad 255)), (1, .int z1)] := hl
  have hfr : (∀ b, b ≠ (ad 255) → f b = f b) := fun b z0_ => rfl
  refine lv_aload_n hx hb dX11_count_0 rfl (lv_at hl 0 rfl) ?_
  refine lv_iconst (v := 0) hx hb dX11_count_1 (by decide) ?_
  obtain ⟨v0_1, v2_1, v3_1, v4_1, v5_1, v6_1, v8_1, v9_1, v12_1, v13_1, v14_1, v15_1, v16_1, v17_1, v18_1, v19_1, v20_1, v21_1, v22_1, v23_1, v25_1, v36_1, v37_1, v38_1, v39_1, v40_1, v45_1, v46_1, v47_1, v48_1, v50_1, v51_1, v53_1, v55_1, hf2, hv0_1, hv2_1, hv3_1, hv4_1, hv5_1, hv6_1, hv8_1, hv12_1, hv13_1, hv14_1, hg14_1, hv15_1, hg15_1, hv17_1, hg17_1, hv20_1, hv23_1, hg23_1, hv25_1, hv36_1, hv47_1, hv48_1, hv53_1, hv55_1⟩ := hT.2.2 0 (by decide)
  refine pl_put (ty := .int) (v := .int 0) (fs' := [.int 0, .ref (ad 256), .int v2_1, .int v3_1, .int v4_1, .int v5_1, .int v6_1, .ref (ad 257), .int v8_1, .int v9_1, .ref (ad 258), .ref (ad 259), .int v12_1, .int v13_1, .int v14_1, .int v15_1, .int v16_1, .int v17_1, .int v18_1, .int v19_1, .int v20_1, .long v21_1, .long v22_1, .int v23_1, .ref (ad 260), .int v25_1, .ref (ad 261), .ref (ad 262), .ref (ad 263), .ref (ad 264), .ref (ad 265), .ref (ad 266), .ref (ad 267), .ref (ad 268), .ref (ad 269), .ref (ad 270), .int v36_1, .int v37_1, .int v38_1, .int v39_1, .int v40_1, .ref (ad 271), .ref (ad 272), .ref (ad 273), .ref (ad 274), .long v45_1, .long v46_1, .int v47_1, .int v48_1, .ref (ad 275), .int v50_1, .int v51_1, .ref (ad 276), .int v53_1, .ref (ad 277), .int v55_1]) hx hb hts (fun w h => mT (inX11 w h)) tyX11 tyX11_ok nmX11 hown hG.1 hP hD hS (hst.1 255 (by decide)) hf2 rfl 0 (by decide) (hts _ (mT wg_1336)) (fun _ h => h) rfl (by decide +kernel) (rfl) (rfl) (Nat.le_of_ble_eq_true rfl) rfl dX11_count_2 (fun H locs f3 hf4 ho5 hP hD hS => ?_)
  have hfr : (∀ b, b ≠ (ad 255) → f3 b = f b) := fun b z0_ => (ho5 b z0_).trans (hfr b z0_)
  refine lv_iload_n hx hb dX11_count_5 rfl (lv_at hl 1 rfl) ?_
  have hT := TI.updM hT hst (k := 0) (by decide) hf4 ho5 ⟨0, v2_1, v3_1, v4_1, v5_1, v6_1, v8_1, v9_1, v12_1, v13_1, v14_1, v15_1, v16_1, v17_1, v18_1, v19_1, v20_1, v21_1, v22_1, v23_1, v25_1, v36_1, v37_1, v38_1, v39_1, v40_1, v45_1, v46_1, v47_1, v48_1, v50_1, v51_1, v53_1, v55_1, rfl, (⟨by decide, by decide⟩ : In 0 0 1), hv2_1, hv3_1, hv4_1, hv5_1, hv6_1, hv8_1, hv12_1, hv13_1, hv14_1, hg14_1, hv15_1, hg15_1, hv17_1, hg17_1, hv20_1, hv23_1, hg23_1, hv25_1, hv36_1, hv47_1, hv48_1, hv53_1, hv55_1⟩
  refine lv_if_ne (tgt := 16) hx hb dX11_count_6 (by decide) (fun c6 => ?_) (fun c6 => ?_)
  ·
    refine lv_iload_n hx hb dX11_count_16 rfl (lv_at hl 1 rfl) ?_
    refine lv_iconst (v := 1) hx hb dX11_count_17 (by decide) ?_
    refine lv_icmp_ne (tgt := 28) hx hb dX11_count_18 (by decide) (fun c7 => ?_) (fun c7 => ?_)
    ·
      refine lv_iload_n hx hb dX11_count_28 rfl (lv_at hl 1 rfl) ?_
      refine lv_iconst (v := 2) hx hb dX11_count_29 (by decide) ?_
      refine lv_icmp_ne (tgt := 54) hx hb dX11_count_30 (by decide) (fun c8 => ?_) (fun c8 => ?_)
      ·
        refine lv_iconst (v := (-1)) hx hb dX11_count_54 (by decide) ?_
        exact ret_i (ty := .int) hx hb hr hlocks (rfl) hP hD hS (Nat.le_of_ble_eq_true rfl) (Nat.le_of_ble_eq_true rfl) (⟨rfl, hT, hfr⟩) dX11_count_55
      ·
        have cc9 : z1.toInt = (2 : Int32).toInt := congrArg Int32.toInt c8
        have hb10 : In z1 2 2 := In.eq1 (In.full z1) (⟨by decide, by decide⟩ : In 2 2 2) cc9 (by omega) (by omega)
        refine lv_aload_n hx hb dX11_count_33 rfl (lv_at hl 0 rfl) ?_
        refine pl_get (v := .int v23_1) hx hb hts (fun w h => mT (inX11 w h)) hown hG.1 hP (hst.1 255 (by decide)) hf4 rfl 23 (by decide) (hts _ (mT wg_1359)) (fun _ h => h) rfl dX11_count_34 ?_
        refine lv_if_eq (tgt := 50) hx hb dX11_count_37 (by decide) (fun c11 => ?_) (fun c11 => ?_)
        ·
          have cc12 : v23_1.toInt = (0 : Int32).toInt := congrArg Int32.toInt c11
          have hb13 : In v23_1 0 0 := In.eq1 hv23_1 (⟨by decide, by decide⟩ : In 0 0 0) cc12 (by omega) (by omega)
          refine lv_iconst (v := 0) hx hb dX11_count_50 (by decide) ?_
          refine lv_goto (tgt := 55) hx hb dX11_count_51 (by decide) ?_
          exact ret_i (ty := .int) hx hb hr hlocks (rfl) hP hD hS (Nat.le_of_ble_eq_true rfl) (Nat.le_of_ble_eq_true rfl) (⟨rfl, hT, hfr⟩) dX11_count_55
        ·
          have cc14 : v23_1.toInt ≠ (0 : Int32).toInt := i32_ne c11
          have hb15 : In v23_1 1 1 := In.ne1 hv23_1 (⟨by decide, by decide⟩ : In 0 0 0) cc14 (by omega) (by omega)
          refine lv_aload_n hx hb dX11_count_40 rfl (lv_at hl 0 rfl) ?_
          refine pl_get (v := .ref (ad 271)) hx hb hts (fun w h => mT (inX11 w h)) hown hG.1 hP (hst.1 255 (by decide)) hf4 rfl 41 (by decide) (hts _ (mT wg_1377)) (fun _ h => h) rfl dX11_count_41 ?_
          refine lv_bipush (v := 72) hx hb dX11_count_44 (by decide) ?_
          obtain ⟨rw16, hf17⟩ := hT.2.2 16 (by decide)
          have hin18 : vp_in 72 2126 := In.inb (⟨by decide, by decide⟩ : In 72 72 72) (by decide) (by decide)
          refine pl_iald hx hb hG.1 hP (hst.1 271 (by decide)) 0 hf17 rfl hin18 dX11_count_46 ?_
          refine lv_topi (fun x19 ex19 => ?_)
          refine lv_goto (tgt := 55) hx hb dX11_count_47 (by decide) ?_
          exact ret_i (ty := .int) hx hb hr hlocks (rfl) hP hD hS (Nat.le_of_ble_eq_true rfl) (Nat.le_of_ble_eq_true rfl) (⟨rfl, hT, hfr⟩) dX11_count_55
    ·
      have cc20 : z1.toInt = (1 : Int32).toInt := congrArg Int32.toInt c7
      have hb21 : In z1 1 1 := In.eq1 (In.full z1) (⟨by decide, by decide⟩ : In 1 1 1) cc20 (by omega) (by omega)
      refine lv_aload_n hx hb dX11_count_21 rfl (lv_at hl 0 rfl) ?_
      refine pl_get (v := .int v47_1) hx hb hts (fun w h => mT (inX11 w h)) hown hG.1 hP (hst.1 255 (by decide)) hf4 rfl 47 (by decide) (hts _ (mT wg_1383)) (fun _ h => h) rfl dX11_count_22 ?_
      refine lv_goto (tgt := 55) hx hb dX11_count_25 (by decide) ?_
      exact ret_i (ty := .int) hx hb hr hlocks (rfl) hP hD hS (Nat.le_of_ble_eq_true rfl) (Nat.le_of_ble_eq_true rfl) (⟨rfl, hT, hfr⟩) dX11_count_55
  ·
    have cc22 : z1.toInt = (0 : Int32).toInt := congrArg Int32.toInt c6
    have hb23 : In z1 0 0 := In.eq1 (In.full z1) (⟨by decide, by decide⟩ : In 0 0 0) cc22 (by omega) (by omega)
    refine lv_aload_n hx hb dX11_count_9 rfl (lv_at hl 0 rfl) ?_
    refine pl_get (v := .int v2_1) hx hb hts (fun w h => mT (inX11 w h)) hown hG.1 hP (hst.1 255 (by decide)) hf4 rfl 2 (by decide) (hts _ (mT wg_1338)) (fun _ h => h) rfl dX11_count_10 ?_
    refine lv_goto (tgt := 55) hx hb dX11_count_13 (by decide) ?_
    exact ret_i (ty := .int) hx hb hr hlocks (rfl) hP hD hS (Nat.le_of_ble_eq_true rfl) (Nat.le_of_ble_eq_true rfl) (⟨rfl, hT, hfr⟩) dX11_count_55
