abbrev rm_X8_kindOf : Room := { frames := 0, cells := 0, slots := 0, locals := 0 }
abbrev po_X8_kindOf (g : GG) (ad : Nat → Nat) (th : Nat → Int) (L : List Nat) (f : HP) (z0 : Int32) : Int32 → (List Nat × HP) → Prop := fun r u => u.1 = L ∧ u.2 = f ∧ In r 1 4
set_option maxHeartbeats 4000000 in
set_option maxRecDepth 100000 in
theorem s_X8_kindOf (l : Launch) (g : GG) (ad : Nat → Nat) (th : Nat → Int) (L : List Nat) (f : HP) (sz : Nat) (z0 : Int32) (hst : ST ad L) (hT : TI g ad th f)  : MtI l g yX8_kindOf cX8_kindOf 1 (some .int) rm_X8_kindOf [.int z0] L f sz (po_X8_kindOf g ad th L f z0) := by
  refine MtI.of (by decide +kernel) (Nat.le_of_ble_eq_true rfl) ?_
  intro p e s m below meth c A hEn hP hD hS ls hl
  obtain ⟨hx, hb, hr, hml, hown, hlocks, hts, hG, hA, hE, hnm⟩ := hEn
  have hown : s.vm.findClass "RulerWord$Tape" = some m.cls := hown
  have hl : lv_has ls 1 [(0, .int z0)] := hl
  refine lv_iload_n hx hb dX8_kindOf_0 rfl (lv_at hl 0 rfl) ?_
  refine lv_bipush (v := 97) hx hb dX8_kindOf_1 (by decide) ?_
  have hJ14 : ∀ (H : Heap) (locs : List Loc) (ls : Array Slot), va_P g.1 vwCl (va_pl L f) H → va_D A (va_pl L f) → va_S A s.heap H locs → lv_has ls 1 [(0, .int z0)] → W p l e rm_X8_kindOf s m [.int z0].toArray below meth c H locs 0 0 (MQ below (va_Qi (po_X8_kindOf g ad th L f z0) (PstB g A) A) [.int z0].toArray s rm_X8_kindOf.cells rm_X8_kindOf.slots A) (F0 m 14 ls []) := by
    intro H locs ls hP hD hS hl
    refine lv_iload_n hx hb dX8_kindOf_14 rfl (lv_at hl 0 rfl) ?_
    refine lv_bipush (v := 48) hx hb dX8_kindOf_15 (by decide) ?_
    have hJ28 : ∀ (H : Heap) (locs : List Loc) (ls : Array Slot), va_P g.1 vwCl (va_pl L f) H → va_D A (va_pl L f) → va_S A s.heap H locs → lv_has ls 1 [(0, .int z0)] → W p l e rm_X8_kindOf s m [.int z0].toArray below meth c H locs 0 0 (MQ below (va_Qi (po_X8_kindOf g ad th L f z0) (PstB g A) A) [.int z0].toArray s rm_X8_kindOf.cells rm_X8_kindOf.slots A) (F0 m 28 ls []) := by
      intro H locs ls hP hD hS hl
      refine lv_iload_n hx hb dX8_kindOf_28 rfl (lv_at hl 0 rfl) ?_
      refine lv_bipush (v := 59) hx hb dX8_kindOf_29 (by decide) ?_
      refine lv_icmp_ne (tgt := 38) hx hb dX8_kindOf_31 (by decide) (fun c1 => ?_) (fun c1 => ?_)
      ·
        refine lv_iconst (v := 4) hx hb dX8_kindOf_38 (by decide) ?_
        exact ret_i (ty := .int) hx hb hr hlocks (rfl) hP hD hS (Nat.le_of_ble_eq_true rfl) (Nat.le_of_ble_eq_true rfl) (⟨rfl, rfl, (⟨by decide, by decide⟩ : In 4 1 4)⟩) dX8_kindOf_39
      ·
        have cc2 : z0.toInt = (59 : Int32).toInt := congrArg Int32.toInt c1
        have hb3 : In z0 59 59 := In.eq1 (In.full z0) (⟨by decide, by decide⟩ : In 59 59 59) cc2 (by omega) (by omega)
        refine lv_iconst (v := 1) hx hb dX8_kindOf_34 (by decide) ?_
        refine lv_goto (tgt := 39) hx hb dX8_kindOf_35 (by decide) ?_
        exact ret_i (ty := .int) hx hb hr hlocks (rfl) hP hD hS (Nat.le_of_ble_eq_true rfl) (Nat.le_of_ble_eq_true rfl) (⟨rfl, rfl, (⟨by decide, by decide⟩ : In 1 1 4)⟩) dX8_kindOf_39
    refine lv_icmp_lt (tgt := 28) hx hb dX8_kindOf_17 (by decide) (fun c4 => ?_) (fun c4 => ?_)
    ·
      have cc5 : z0.toInt < (48 : Int32).toInt := i32_lt.mp c4
      have hb6 : In z0 (-2147483648) 47 := In.lt1 (In.full z0) (⟨by decide, by decide⟩ : In 48 48 48) cc5 (by omega) (by omega)
      exact hJ28 _ _ _ hP hD hS (lv_sub hl [0] rfl)
    ·
      have cc7 : (48 : Int32).toInt ≤ z0.toInt := i32_nlt c4
      have hb8 : In z0 48 2147483647 := In.ge1 (In.full z0) (⟨by decide, by decide⟩ : In 48 48 48) cc7 (by omega) (by omega)
      refine lv_iload_n hx hb dX8_kindOf_20 rfl (lv_at hl 0 rfl) ?_
      refine lv_bipush (v := 57) hx hb dX8_kindOf_21 (by decide) ?_
      refine lv_icmp_gt (tgt := 28) hx hb dX8_kindOf_23 (by decide) (fun c9 => ?_) (fun c9 => ?_)
      ·
        have cc10 : (57 : Int32).toInt < z0.toInt := i32_lt.mp c9
        have hb11 : In z0 58 2147483647 := In.gt1 hb8 (⟨by decide, by decide⟩ : In 57 57 57) cc10 (by omega) (by omega)
        exact hJ28 _ _ _ hP hD hS (lv_sub hl [0] rfl)
      ·
        have cc12 : z0.toInt ≤ (57 : Int32).toInt := i32_nlt c9
        have hb13 : In z0 48 57 := In.le1 hb8 (⟨by decide, by decide⟩ : In 57 57 57) cc12 (by omega) (by omega)
        refine lv_iconst (v := 3) hx hb dX8_kindOf_26 (by decide) ?_
        exact ret_i (ty := .int) hx hb hr hlocks (rfl) hP hD hS (Nat.le_of_ble_eq_true rfl) (Nat.le_of_ble_eq_true rfl) (⟨rfl, rfl, (⟨by decide, by decide⟩ : In 3 1 4)⟩) dX8_kindOf_27
  refine lv_icmp_lt (tgt := 14) hx hb dX8_kindOf_3 (by decide) (fun c14 => ?_) (fun c14 => ?_)
  ·
    have cc15 : z0.toInt < (97 : Int32).toInt := i32_lt.mp c14
    have hb16 : In z0 (-2147483648) 96 := In.lt1 (In.full z0) (⟨by decide, by decide⟩ : In 97 97 97) cc15 (by omega) (by omega)
    exact hJ14 _ _ _ hP hD hS (lv_sub hl [0] rfl)
  ·
    have cc17 : (97 : Int32).toInt ≤ z0.toInt := i32_nlt c14
    have hb18 : In z0 97 2147483647 := In.ge1 (In.full z0) (⟨by decide, by decide⟩ : In 97 97 97) cc17 (by omega) (by omega)
    refine lv_iload_n hx hb dX8_kindOf_6 rfl (lv_at hl 0 rfl) ?_
    refine lv_bipush (v := 122) hx hb dX8_kindOf_7 (by decide) ?_
    refine lv_icmp_gt (tgt := 14) hx hb dX8_kindOf_9 (by decide) (fun c19 => ?_) (fun c19 => ?_)
    ·
      have cc20 : (122 : Int32).toInt < z0.toInt := i32_lt.mp c19
      have hb21 : In z0 123 2147483647 := In.gt1 hb18 (⟨by decide, by decide⟩ : In 122 122 122) cc20 (by omega) (by omega)
      exact hJ14 _ _ _ hP hD hS (lv_sub hl [0] rfl)
    ·
      have cc22 : z0.toInt ≤ (122 : Int32).toInt := i32_nlt c19
      have hb23 : In z0 97 122 := In.le1 hb18 (⟨by decide, by decide⟩ : In 122 122 122) cc22 (by omega) (by omega)
      refine lv_iconst (v := 2) hx hb dX8_kindOf_12 (by decide) ?_
      exact ret_i (ty := .int) hx hb hr hlocks (rfl) hP hD hS (Nat.le_of_ble_eq_true rfl) (Nat.le_of_ble_eq_true rfl) (⟨rfl, rfl, (⟨by decide, by decide⟩ : In 2 1 4)⟩) dX8_kindOf_13

abbrev rm_X8_add : Room := { frames := 0, cells := 0, slots := 0, locals := 0 }
abbrev po_X8_add (g : GG) (ad : Nat → Nat) (th : Nat → Int) (L : List Nat) (f : HP) (z1 : Int32) : (List Nat × HP) → Prop := fun u => u.1 = L ∧ TI g ad th u.2 ∧ (∀ b, b ≠ (ad 1) → b ≠ (ad 2) → u.2 b = f b)
set_option maxHeartbeats 4000000 in
set_option maxRecDepth 100000 in
theorem s_X8_add (l : Launch) (g : GG) (ad : Nat → Nat) (th : Nat → Int) (L : List Nat) (f : HP) (sz : Nat) (z1 : Int32) (hst : ST ad L) (hT : TI g ad th f) (hz1 : In z1 0 65535) : MtV l g yX8_add cX8_add 2 rm_X8_add [.ref (ad 1), .int z1] L f sz (po_X8_add g ad th L f z1) := by
  refine MtV.of (by decide +kernel) (Nat.le_of_ble_eq_true rfl) ?_
  intro p e s m below meth c A hEn hP hD hS ls hl
  obtain ⟨hx, hb, hr, hml, hown, hlocks, hts, hG, hA, hE, hnm⟩ := hEn
  have hown : s.vm.findClass "RulerWord$Tape" = some m.cls := hown
  have hl : lv_has ls 2 [(0, .ref (ad 1)), (1, .int z1)] := hl
  have hfr : (∀ b, b ≠ (ad 1) → b ≠ (ad 2) → f b = f b) := fun b z0_ z1_ => rfl
  refine lv_aload_n hx hb dX8_add_0 rfl (lv_at hl 0 rfl) ?_
  obtain ⟨v1_1, v2_1, v3_1, v4_1, hf2, hv1_1, hv2_1, hv3_1, hv4_1⟩ := hT.1 1 (by decide)
  refine pl_get (v := .int v1_1) hx hb hts (fun w h => mT (inX8 w h)) hown hG.1 hP (hst.1 1 (by decide)) hf2 rfl 1 (by decide) (hts _ (mT wg_198)) (fun _ h => h) rfl dX8_add_1 ?_
  refine lv_aload_n hx hb dX8_add_4 rfl (lv_at hl 0 rfl) ?_
  refine pl_get (v := .ref (ad 2)) hx hb hts (fun w h => mT (inX8 w h)) hown hG.1 hP (hst.1 1 (by decide)) hf2 rfl 0 (by decide) (hts _ (mT wg_195)) (fun _ h => h) rfl dX8_add_5 ?_
  obtain ⟨rw3, hf4, hc5⟩ := hT.1 2 (by decide)
  refine pl_alen (v := 520) hx hb hG.1 hP (hst.1 2 (by decide)) 0 hf4 rfl (rfl) dX8_add_8 ?_
  refine lv_icmp_ge (tgt := 32) hx hb dX8_add_9 (by decide) (fun c6 => ?_) (fun c6 => ?_)
  ·
    have cc7 : (520 : Int32).toInt ≤ v1_1.toInt := i32_le.mp c6
    have hb8 : In v1_1 520 520 := In.ge1 hv1_1 (⟨by decide, by decide⟩ : In 520 520 520) cc7 (by omega) (by omega)
    exact ret_v hx hb hr hlocks hP hD hS (Nat.le_of_ble_eq_true rfl) (Nat.le_of_ble_eq_true rfl) (⟨rfl, hT, hfr⟩) dX8_add_32
  ·
    have cc9 : v1_1.toInt < (520 : Int32).toInt := i32_nle c6
    have hb10 : In v1_1 0 519 := In.lt1 hv1_1 (⟨by decide, by decide⟩ : In 520 520 520) cc9 (by omega) (by omega)
    refine lv_aload_n hx hb dX8_add_12 rfl (lv_at hl 0 rfl) ?_
    refine pl_get (v := .ref (ad 2)) hx hb hts (fun w h => mT (inX8 w h)) hown hG.1 hP (hst.1 1 (by decide)) hf2 rfl 0 (by decide) (hts _ (mT wg_195)) (fun _ h => h) rfl dX8_add_13 ?_
    refine lv_aload_n hx hb dX8_add_16 rfl (lv_at hl 0 rfl) ?_
    refine pl_get (v := .int v1_1) hx hb hts (fun w h => mT (inX8 w h)) hown hG.1 hP (hst.1 1 (by decide)) hf2 rfl 1 (by decide) (hts _ (mT wg_198)) (fun _ h => h) rfl dX8_add_17 ?_
    refine lv_iload_n hx hb dX8_add_20 rfl (lv_at hl 1 rfl) ?_
    refine pl_iastE hx hb hG.1 hP hD hS (hst.1 2 (by decide)) 0 hf4 rfl (In.inb hb10 (by decide) (by decide)) dX8_add_21 (fun H locs f11 r14 er14 hf12 ho13 hP hD hS => ?_)
    have hc15 : ∀ i : Nat, i < 520 → In (r14 i) 0 65535 := cont_upd er14 hc5 hz1
    have hf16 := (ho13 (ad 1) (hst.ne (by decide) (by decide) (by decide))).trans hf2
    have hfr : (∀ b, b ≠ (ad 1) → b ≠ (ad 2) → f11 b = f b) := fun b z0_ z1_ => (ho13 b z1_).trans (hfr b z0_ z1_)
    refine lv_aload_n hx hb dX8_add_22 rfl (lv_at hl 0 rfl) ?_
    refine lv_dup hx hb dX8_add_23 rfl ?_
    refine pl_get (v := .int v1_1) hx hb hts (fun w h => mT (inX8 w h)) hown hG.1 hP (hst.1 1 (by decide)) hf16 rfl 1 (by decide) (hts _ (mT wg_198)) (fun _ h => h) rfl dX8_add_24 ?_
    refine lv_iconst (v := 1) hx hb dX8_add_27 (by decide) ?_
    refine lv_iadd hx hb dX8_add_28 ?_
    refine lv_topi (fun x17 ex17 => ?_)
    have hb18 : In x17 1 520 := ex17 ▸ In.add hb10 (⟨by decide, by decide⟩ : In 1 1 1) (by decide) (by decide) (by decide) (by decide)
    have et19 : x17.toInt = v1_1.toInt + 1 := In.adde ex17 hb10 (k := 1) (by decide) (by decide) (by decide)
    have hT := TI.updA hT hst (k := 2) (by decide) hf12 ho13 ⟨r14, rfl, hc15⟩
    refine pl_put (ty := .int) (v := .int x17) (fs' := [.ref (ad 2), .int x17, .int v2_1, .int v3_1, .int v4_1]) hx hb hts (fun w h => mT (inX8 w h)) tyX8 tyX8_ok nmX8 hown hG.1 hP hD hS (hst.1 1 (by decide)) hf16 rfl 1 (by decide) (hts _ (mT wg_198)) (fun _ h => h) rfl (by decide +kernel) (rfl) (rfl) (Nat.le_of_ble_eq_true rfl) rfl dX8_add_29 (fun H locs f20 hf21 ho22 hP hD hS => ?_)
    have hf23 := (ho22 (ad 2) (hst.ne (by decide) (by decide) (by decide))).trans hf12
    have hfr : (∀ b, b ≠ (ad 1) → b ≠ (ad 2) → f20 b = f b) := fun b z0_ z1_ => (ho22 b z0_).trans (hfr b z0_ z1_)
    have hT := TI.updA hT hst (k := 1) (by decide) hf21 ho22 ⟨x17, v2_1, v3_1, v4_1, rfl, (In.mono hb18 (by decide) (by decide)), hv2_1, hv3_1, hv4_1⟩
    exact ret_v hx hb hr hlocks hP hD hS (Nat.le_of_ble_eq_true rfl) (Nat.le_of_ble_eq_true rfl) (⟨rfl, hT, hfr⟩) dX8_add_32

abbrev rm_X8_put : Room := { frames := 1, cells := 0, slots := 0, locals := 21 }
abbrev po_X8_put (g : GG) (ad : Nat → Nat) (th : Nat → Int) (L : List Nat) (f : HP) (z1 : Int32) : (List Nat × HP) → Prop := fun u => u.1 = L ∧ TI g ad th u.2 ∧ (∀ b, b ≠ (ad 1) → b ≠ (ad 2) → u.2 b = f b)
set_option maxHeartbeats 4000000 in
set_option maxRecDepth 100000 in
theorem s_X8_put (l : Launch) (g : GG) (ad : Nat → Nat) (th : Nat → Int) (L : List Nat) (f : HP) (sz : Nat) (z1 : Int32) (hst : ST ad L) (hT : TI g ad th f)  : MtV l g yX8_put cX8_put 4 rm_X8_put [.ref (ad 1), .int z1] L f sz (po_X8_put g ad th L f z1) := by
  refine MtV.of (by decide +kernel) (Nat.le_of_ble_eq_true rfl) ?_
  intro p e s m below meth c A hEn hP hD hS ls hl
  obtain ⟨hx, hb, hr, hml, hown, hlocks, hts, hG, hA, hE, hnm⟩ := hEn
  have hown : s.vm.findClass "RulerWord$Tape" = some m.cls := hown
  have hl : lv_has ls 4 [(0, .ref (ad 1)), (1, .int z1)] := hl
  have hfr : (∀ b, b ≠ (ad 1) → b ≠ (ad 2) → f b = f b) := fun b z0_ z1_ => rfl
  refine lv_bipush (v := 24) hx hb dX8_put_0 (by decide) ?_
  refine lv_istore_n (lv' := [(2, .int 24), (0, .ref (ad 1)), (1, .int z1)]) hx hb dX8_put_2 rfl hl (by decide) rfl (fun ls hl => ?_)
  have hJ3 : ∀ (k3 : Nat) (y3_l2 : Int32) (f_3 : HP) (H : Heap) (locs : List Loc) (ls : Array Slot), In y3_l2 (-8) 24 → va_P g.1 vwCl (va_pl L f_3) H → va_D A (va_pl L f_3) → va_S A s.heap H locs → TI g ad th f_3 → (∀ b, b ≠ (ad 1) → b ≠ (ad 2) → f_3 b = f b) → lv_has ls 4 [(0, .ref (ad 1)), (1, .int z1), (2, .int y3_l2)] → y3_l2.toInt - (-8) < ((k3 : Nat) : Int) → W p l e rm_X8_put s m [.ref (ad 1), .int z1].toArray below meth c H locs 0 0 (MQ below (va_Qv (po_X8_put g ad th L f z1) (PstB g A) A) [.ref (ad 1), .int z1].toArray s rm_X8_put.cells rm_X8_put.slots A) (F0 m 3 ls []) := by
    intro k3
    induction k3 with
    | zero =>
      intro y3_l2 f_3 H locs ls hy3_l2 hP hD hS hT hfr hl hmz3
      exact ms0d hy3_l2 hmz3
    | succ k3 ih3 =>
      intro y3_l2 f_3 H locs ls hy3_l2 hP hD hS hT hfr hl hmz3
      refine lv_iload_n hx hb dX8_put_3 rfl (lv_at hl 2 rfl) ?_
      refine lv_if_lt (tgt := 30) hx hb dX8_put_4 (by decide) (fun c1 => ?_) (fun c1 => ?_)
      ·
        have cc2 : y3_l2.toInt < (0 : Int32).toInt := i32_lt.mp c1
        have hb3 : In y3_l2 (-8) (-1) := In.lt1 hy3_l2 (⟨by decide, by decide⟩ : In 0 0 0) cc2 (by omega) (by omega)
        exact ret_v hx hb hr hlocks hP hD hS (Nat.le_of_ble_eq_true rfl) (Nat.le_of_ble_eq_true rfl) (⟨rfl, hT, hfr⟩) dX8_put_30
      ·
        have cc4 : (0 : Int32).toInt ≤ y3_l2.toInt := i32_nlt c1
        have hb5 : In y3_l2 0 24 := In.ge1 hy3_l2 (⟨by decide, by decide⟩ : In 0 0 0) cc4 (by omega) (by omega)
        refine lv_iload_n hx hb dX8_put_7 rfl (lv_at hl 1 rfl) ?_
        refine lv_iload_n hx hb dX8_put_8 rfl (lv_at hl 2 rfl) ?_
        refine lv_iushr hx hb dX8_put_9 rfl ?_
        refine lv_topi (fun x6 ex6 => ?_)
        refine lv_sipush (v := 255) hx hb dX8_put_10 (by decide) ?_
        refine lv_iand hx hb dX8_put_13 ?_
        refine lv_topi (fun x7 ex7 => ?_)
        have hb8 : In x7 0 255 := ex7 ▸ In.andr (⟨by decide, by decide⟩ : In 255 255 255) (by decide)
        refine lv_istore_n (lv' := [(3, .int x7), (0, .ref (ad 1)), (1, .int z1), (2, .int y3_l2)]) hx hb dX8_put_14 rfl hl (by decide) rfl (fun ls hl => ?_)
        refine lv_iload_n hx hb dX8_put_15 rfl (lv_at hl 0 rfl) ?_
        have hJ24 : ∀ (f_24 : HP) (H : Heap) (locs : List Loc) (ls : Array Slot), va_P g.1 vwCl (va_pl L f_24) H → va_D A (va_pl L f_24) → va_S A s.heap H locs → TI g ad th f_24 → (∀ b, b ≠ (ad 1) → b ≠ (ad 2) → f_24 b = f b) → lv_has ls 4 [(0, .ref (ad 1)), (1, .int z1), (2, .int y3_l2), (3, .int x7)] → W p l e rm_X8_put s m [.ref (ad 1), .int z1].toArray below meth c H locs 0 0 (MQ below (va_Qv (po_X8_put g ad th L f z1) (PstB g A) A) [.ref (ad 1), .int z1].toArray s rm_X8_put.cells rm_X8_put.slots A) (F0 m 24 ls []) := by
          intro f_24 H locs ls hP hD hS hT hfr hl
          obtain ⟨x9, ex9⟩ : ∃ y : Int32, y = y3_l2 + (-8) := ⟨_, rfl⟩
          have hb10 : In x9 (-8) 16 := ex9 ▸ In.add hb5 (⟨by decide, by decide⟩ : In (-8) (-8) (-8)) (by decide) (by decide) (by decide) (by decide)
          have et11 : x9.toInt = y3_l2.toInt + (-8) := In.adde ex9 hb5 (k := (-8)) (by decide) (by decide) (by decide)
          refine lv_iinc (v := x9) (lv' := [(2, .int x9), (0, .ref (ad 1)), (1, .int z1), (3, .int x7)]) hx hb dX8_put_24 hl (k := 2) rfl (by rw [ex9]; rfl) (by decide) rfl (fun ls hl => ?_)
          refine lv_goto (tgt := 3) hx hb dX8_put_27 (by decide) ?_
          exact ih3 x9 _ _ _ _ (In.mono hb10 (by decide) (by decide)) hP hD hS hT hfr (lv_sub hl [1, 2, 0] rfl) (msd et11 (by decide) hmz3)
        refine lv_if_eq (tgt := 24) hx hb dX8_put_16 (by decide) (fun c12 => ?_) (fun c12 => ?_)
        ·
          have cc13 : x7.toInt = (0 : Int32).toInt := congrArg Int32.toInt c12
          have hb14 : In x7 0 0 := In.eq1 hb8 (⟨by decide, by decide⟩ : In 0 0 0) cc13 (by omega) (by omega)
          exact hJ24 _ _ _ _ hP hD hS hT hfr (lv_sub hl [1, 2, 3, 0] rfl)
        ·
          have cc15 : x7.toInt ≠ (0 : Int32).toInt := i32_ne c12
          have hb16 : In x7 1 255 := In.ne1 hb8 (⟨by decide, by decide⟩ : In 0 0 0) cc15 (by omega) (by omega)
          refine lv_aload_n hx hb dX8_put_19 rfl (lv_at hl 1 rfl) ?_
          refine lv_iload_n hx hb dX8_put_20 rfl (lv_at hl 0 rfl) ?_
          obtain ⟨v1_17, v2_17, v3_17, v4_17, hf18, hv1_17, hv2_17, hv3_17, hv4_17⟩ := hT.1 1 (by decide)
          refine call_v (run_V (rm := rm_X8_add) hx hb hml hown hts (s_X8_add l g ad th _ _ _ x7 hst hT (In.mono hb16 (by decide) (by decide))) cV_X8_add wg_538 ⟨Nat.le_of_ble_eq_true rfl, Nat.le_of_ble_eq_true rfl⟩ hG hE hA hP hD hS (hst.1 1 (by decide)) hf18 rfl rfl hl.1 (As := [.int x7]) (rest := []) rfl (Nat.le_of_ble_eq_true rfl) dX8_put_21 ⟨Nat.le_of_ble_eq_true rfl, Nat.le_of_ble_eq_true rfl⟩) hA hD hS (fun L20 f21 H locs hp22 hP hD hS => ?_)
          obtain ⟨eL23L, eL23T, eL23F⟩ := hp22
          have eL23L : L20 = L := eL23L
          rw [eL23L] at hP hD
          have hT : TI g ad th f21 := eL23T
          have eL23F : ∀ b, b ≠ (ad 1) → b ≠ (ad 2) → f21 b = f_3 b := eL23F
          have hfr : (∀ b, b ≠ (ad 1) → b ≠ (ad 2) → f21 b = f b) := fun b z0_ z1_ => (eL23F b z0_ z1_).trans (hfr b z0_ z1_)
          exact hJ24 _ _ _ _ hP hD hS hT hfr (lv_sub hl [1, 2, 3, 0] rfl)
  exact hJ3 (((24 : Int32).toInt - (-8)).toNat + 1) 24 _ _ _ _ (⟨by decide, by decide⟩ : In 24 (-8) 24) hP hD hS hT hfr (lv_sub hl [1, 2, 0] rfl) (msI _)

abbrev rm_X8_nextPart : Room := { frames := 1, cells := 0, slots := 0, locals := 20 }
abbrev po_X8_nextPart (g : GG) (ad : Nat → Nat) (th : Nat → Int) (L : List Nat) (f : HP)  : (List Nat × HP) → Prop := fun u => u.1 = L ∧ TI g ad th u.2 ∧ (∀ b, b ≠ (ad 1) → u.2 b = f b)
set_option maxHeartbeats 4000000 in
set_option maxRecDepth 100000 in
theorem s_X8_nextPart (l : Launch) (g : GG) (ad : Nat → Nat) (th : Nat → Int) (L : List Nat) (f : HP) (sz : Nat)  (hst : ST ad L) (hT : TI g ad th f)  : MtV l g yX8_nextPart cX8_nextPart 3 rm_X8_nextPart [.ref (ad 1)] L f sz (po_X8_nextPart g ad th L f ) := by
  refine MtV.of (by decide +kernel) (Nat.le_of_ble_eq_true rfl) ?_
  intro p e s m below meth c A hEn hP hD hS ls hl
  obtain ⟨hx, hb, hr, hml, hown, hlocks, hts, hG, hA, hE, hnm⟩ := hEn
  have hown : s.vm.findClass "RulerWord$Tape" = some m.cls := hown
  have hl : lv_has ls 3 [(0, .ref (ad 1))] := hl
  have hfr : (∀ b, b ≠ (ad 1) → f b = f b) := fun b z0_ => rfl
  refine lv_aload_n hx hb dX8_nextPart_0 rfl (lv_at hl 0 rfl) ?_
  obtain ⟨v1_1, v2_1, v3_1, v4_1, hf2, hv1_1, hv2_1, hv3_1, hv4_1⟩ := hT.1 1 (by decide)
  refine pl_get (v := .int v3_1) hx hb hts (fun w h => mT (inX8 w h)) hown hG.1 hP (hst.1 1 (by decide)) hf2 rfl 3 (by decide) (hts _ (mT wg_202)) (fun _ h => h) rfl dX8_nextPart_1 ?_
  refine lv_istore_n (lv' := [(1, .int v3_1), (0, .ref (ad 1))]) hx hb dX8_nextPart_4 rfl hl (by decide) rfl (fun ls hl => ?_)
  have hJ5 : ∀ (k5 : Nat) (y5_l1 : Int32) (H : Heap) (locs : List Loc) (ls : Array Slot), In y5_l1 0 520 → va_P g.1 vwCl (va_pl L f) H → va_D A (va_pl L f) → va_S A s.heap H locs → lv_has ls 3 [(0, .ref (ad 1)), (1, .int y5_l1)] → 520 - y5_l1.toInt < ((k5 : Nat) : Int) → W p l e rm_X8_nextPart s m [.ref (ad 1)].toArray below meth c H locs 0 0 (MQ below (va_Qv (po_X8_nextPart g ad th L f ) (PstB g A) A) [.ref (ad 1)].toArray s rm_X8_nextPart.cells rm_X8_nextPart.slots A) (F0 m 5 ls []) := by
    intro k5
    induction k5 with
    | zero =>
      intro y5_l1 H locs ls hy5_l1 hP hD hS hl hmz5
      exact ms0 hy5_l1 hmz5
    | succ k5 ih5 =>
      intro y5_l1 H locs ls hy5_l1 hP hD hS hl hmz5
      refine lv_iload_n hx hb dX8_nextPart_5 rfl (lv_at hl 1 rfl) ?_
      refine lv_aload_n hx hb dX8_nextPart_6 rfl (lv_at hl 0 rfl) ?_
      refine pl_get (v := .int v1_1) hx hb hts (fun w h => mT (inX8 w h)) hown hG.1 hP (hst.1 1 (by decide)) hf2 rfl 1 (by decide) (hts _ (mT wg_198)) (fun _ h => h) rfl dX8_nextPart_7 ?_
      have hJ30 : ∀ (H : Heap) (locs : List Loc) (ls : Array Slot), va_P g.1 vwCl (va_pl L f) H → va_D A (va_pl L f) → va_S A s.heap H locs → lv_has ls 3 [(0, .ref (ad 1)), (1, .int y5_l1)] → W p l e rm_X8_nextPart s m [.ref (ad 1)].toArray below meth c H locs 0 0 (MQ below (va_Qv (po_X8_nextPart g ad th L f ) (PstB g A) A) [.ref (ad 1)].toArray s rm_X8_nextPart.cells rm_X8_nextPart.slots A) (F0 m 30 ls []) := by
        intro H locs ls hP hD hS hl
        refine lv_aload_n hx hb dX8_nextPart_30 rfl (lv_at hl 0 rfl) ?_
        refine lv_iload_n hx hb dX8_nextPart_31 rfl (lv_at hl 1 rfl) ?_
        refine pl_put (ty := .int) (v := .int y5_l1) (fs' := [.ref (ad 2), .int v1_1, .int y5_l1, .int v3_1, .int v4_1]) hx hb hts (fun w h => mT (inX8 w h)) tyX8 tyX8_ok nmX8 hown hG.1 hP hD hS (hst.1 1 (by decide)) hf2 rfl 2 (by decide) (hts _ (mT wg_201)) (fun _ h => h) rfl (by decide +kernel) (rfl) (rfl) (Nat.le_of_ble_eq_true rfl) rfl dX8_nextPart_32 (fun H locs f3 hf4 ho5 hP hD hS => ?_)
        have hfr : (∀ b, b ≠ (ad 1) → f3 b = f b) := fun b z0_ => (ho5 b z0_).trans (hfr b z0_)
        refine lv_aload_n hx hb dX8_nextPart_35 rfl (lv_at hl 0 rfl) ?_
        refine lv_iconst (v := 0) hx hb dX8_nextPart_36 (by decide) ?_
        refine pl_put (ty := .int) (v := .int 0) (fs' := [.ref (ad 2), .int v1_1, .int y5_l1, .int v3_1, .int 0]) hx hb hts (fun w h => mT (inX8 w h)) tyX8 tyX8_ok nmX8 hown hG.1 hP hD hS (hst.1 1 (by decide)) hf4 rfl 4 (by decide) (hts _ (mT wg_205)) (fun _ h => h) rfl (by decide +kernel) (rfl) (rfl) (Nat.le_of_ble_eq_true rfl) rfl dX8_nextPart_37 (fun H locs f6 hf7 ho8 hP hD hS => ?_)
        have ho9 : ∀ b, b ≠ (ad 1) → f6 b = _ := fun b hb => (ho8 b hb).trans (ho5 b hb)
        have hfr : (∀ b, b ≠ (ad 1) → f6 b = f b) := fun b z0_ => (ho8 b z0_).trans (hfr b z0_)
        refine lv_iload_n hx hb dX8_nextPart_40 rfl (lv_at hl 1 rfl) ?_
        refine lv_aload_n hx hb dX8_nextPart_41 rfl (lv_at hl 0 rfl) ?_
        refine pl_get (v := .int v1_1) hx hb hts (fun w h => mT (inX8 w h)) hown hG.1 hP (hst.1 1 (by decide)) hf7 rfl 1 (by decide) (hts _ (mT wg_198)) (fun _ h => h) rfl dX8_nextPart_42 ?_
        have hT := TI.updA hT hst (k := 1) (by decide) hf7 ho9 ⟨v1_1, y5_l1, v3_1, 0, rfl, hv1_1, hy5_l1, hv3_1, (⟨by decide, by decide⟩ : In 0 0 4)⟩
        have hJ64 : ∀ (y64_l1 : Int32) (f_64 : HP) (H : Heap) (locs : List Loc) (ls : Array Slot), In y64_l1 0 520 → va_P g.1 vwCl (va_pl L f_64) H → va_D A (va_pl L f_64) → va_S A s.heap H locs → TI g ad th f_64 → (∀ b, b ≠ (ad 1) → f_64 b = f b) → lv_has ls 3 [(0, .ref (ad 1)), (1, .int y64_l1)] → W p l e rm_X8_nextPart s m [.ref (ad 1)].toArray below meth c H locs 0 0 (MQ below (va_Qv (po_X8_nextPart g ad th L f ) (PstB g A) A) [.ref (ad 1)].toArray s rm_X8_nextPart.cells rm_X8_nextPart.slots A) (F0 m 64 ls []) := by
          intro y64_l1 f_64 H locs ls hy64_l1 hP hD hS hT hfr hl
          refine lv_aload_n hx hb dX8_nextPart_64 rfl (lv_at hl 0 rfl) ?_
          obtain ⟨v1_10, v2_10, v3_10, v4_10, hf11, hv1_10, hv2_10, hv3_10, hv4_10⟩ := hT.1 1 (by decide)
          refine pl_get (v := .int v4_10) hx hb hts (fun w h => mT (inX8 w h)) hown hG.1 hP (hst.1 1 (by decide)) hf11 rfl 4 (by decide) (hts _ (mT wg_205)) (fun _ h => h) rfl dX8_nextPart_65 ?_
          refine lv_iconst (v := 2) hx hb dX8_nextPart_68 (by decide) ?_
          have hJ85 : ∀ (y85_s0 : Int32) (H : Heap) (locs : List Loc) (ls : Array Slot), In y85_s0 0 1 → va_P g.1 vwCl (va_pl L f_64) H → va_D A (va_pl L f_64) → va_S A s.heap H locs → lv_has ls 3 [(0, .ref (ad 1)), (1, .int y64_l1)] → W p l e rm_X8_nextPart s m [.ref (ad 1)].toArray below meth c H locs 0 0 (MQ below (va_Qv (po_X8_nextPart g ad th L f ) (PstB g A) A) [.ref (ad 1)].toArray s rm_X8_nextPart.cells rm_X8_nextPart.slots A) (F0 m 85 ls [.int y85_s0]) := by
            intro y85_s0 H locs ls hy85_s0 hP hD hS hl
            refine lv_istore_n (lv' := [(2, .int y85_s0), (0, .ref (ad 1)), (1, .int y64_l1)]) hx hb dX8_nextPart_85 rfl hl (by decide) rfl (fun ls hl => ?_)
            have hJ86 : ∀ (k86 : Nat) (y86_l1 : Int32) (H : Heap) (locs : List Loc) (ls : Array Slot), In y86_l1 0 520 → va_P g.1 vwCl (va_pl L f_64) H → va_D A (va_pl L f_64) → va_S A s.heap H locs → lv_has ls 3 [(0, .ref (ad 1)), (1, .int y86_l1), (2, .int y85_s0)] → 520 - y86_l1.toInt < ((k86 : Nat) : Int) → W p l e rm_X8_nextPart s m [.ref (ad 1)].toArray below meth c H locs 0 0 (MQ below (va_Qv (po_X8_nextPart g ad th L f ) (PstB g A) A) [.ref (ad 1)].toArray s rm_X8_nextPart.cells rm_X8_nextPart.slots A) (F0 m 86 ls []) := by
              intro k86
              induction k86 with
              | zero =>
                intro y86_l1 H locs ls hy86_l1 hP hD hS hl hmz86
                exact ms0 hy86_l1 hmz86
              | succ k86 ih86 =>
                intro y86_l1 H locs ls hy86_l1 hP hD hS hl hmz86
                refine lv_iload_n hx hb dX8_nextPart_86 rfl (lv_at hl 2 rfl) ?_
                have hJ120 : ∀ (H : Heap) (locs : List Loc) (ls : Array Slot), va_P g.1 vwCl (va_pl L f_64) H → va_D A (va_pl L f_64) → va_S A s.heap H locs → lv_has ls 3 [(0, .ref (ad 1)), (1, .int y86_l1), (2, .int y85_s0)] → W p l e rm_X8_nextPart s m [.ref (ad 1)].toArray below meth c H locs 0 0 (MQ below (va_Qv (po_X8_nextPart g ad th L f ) (PstB g A) A) [.ref (ad 1)].toArray s rm_X8_nextPart.cells rm_X8_nextPart.slots A) (F0 m 120 ls []) := by
                  intro H locs ls hP hD hS hl
                  refine lv_aload_n hx hb dX8_nextPart_120 rfl (lv_at hl 0 rfl) ?_
                  refine lv_iload_n hx hb dX8_nextPart_121 rfl (lv_at hl 1 rfl) ?_
                  refine pl_put (ty := .int) (v := .int y86_l1) (fs' := [.ref (ad 2), .int v1_10, .int v2_10, .int y86_l1, .int v4_10]) hx hb hts (fun w h => mT (inX8 w h)) tyX8 tyX8_ok nmX8 hown hG.1 hP hD hS (hst.1 1 (by decide)) hf11 rfl 3 (by decide) (hts _ (mT wg_202)) (fun _ h => h) rfl (by decide +kernel) (rfl) (rfl) (Nat.le_of_ble_eq_true rfl) rfl dX8_nextPart_122 (fun H locs f12 hf13 ho14 hP hD hS => ?_)
                  have hfr : (∀ b, b ≠ (ad 1) → f12 b = f b) := fun b z0_ => (ho14 b z0_).trans (hfr b z0_)
                  have hT := TI.updA hT hst (k := 1) (by decide) hf13 ho14 ⟨v1_10, v2_10, y86_l1, v4_10, rfl, hv1_10, hv2_10, hy86_l1, hv4_10⟩
                  exact ret_v hx hb hr hlocks hP hD hS (Nat.le_of_ble_eq_true rfl) (Nat.le_of_ble_eq_true rfl) (⟨rfl, hT, hfr⟩) dX8_nextPart_125
                refine lv_if_eq (tgt := 120) hx hb dX8_nextPart_87 (by decide) (fun c15 => ?_) (fun c15 => ?_)
                ·
                  have cc16 : y85_s0.toInt = (0 : Int32).toInt := congrArg Int32.toInt c15
                  have hb17 : In y85_s0 0 0 := In.eq1 hy85_s0 (⟨by decide, by decide⟩ : In 0 0 0) cc16 (by omega) (by omega)
                  exact hJ120 _ _ _ hP hD hS (lv_sub hl [0, 1, 2] rfl)
                ·
                  have cc18 : y85_s0.toInt ≠ (0 : Int32).toInt := i32_ne c15
                  have hb19 : In y85_s0 1 1 := In.ne1 hy85_s0 (⟨by decide, by decide⟩ : In 0 0 0) cc18 (by omega) (by omega)
                  refine lv_iload_n hx hb dX8_nextPart_90 rfl (lv_at hl 1 rfl) ?_
                  refine lv_aload_n hx hb dX8_nextPart_91 rfl (lv_at hl 0 rfl) ?_
                  refine pl_get (v := .int v1_10) hx hb hts (fun w h => mT (inX8 w h)) hown hG.1 hP (hst.1 1 (by decide)) hf11 rfl 1 (by decide) (hts _ (mT wg_198)) (fun _ h => h) rfl dX8_nextPart_92 ?_
                  refine lv_icmp_ge (tgt := 120) hx hb dX8_nextPart_95 (by decide) (fun c20 => ?_) (fun c20 => ?_)
                  ·
                    exact hJ120 _ _ _ hP hD hS (lv_sub hl [0, 1, 2] rfl)
                  ·
                    have cc21 : y86_l1.toInt < v1_10.toInt := i32_nle c20
                    have hb22 : In y86_l1 0 519 := In.lt1 hy86_l1 hv1_10 cc21 (by omega) (by omega)
                    have hb23 : In v1_10 1 520 := In.lt2 hy86_l1 hv1_10 cc21 (by omega) (by omega)
                    refine lv_aload_n hx hb dX8_nextPart_98 rfl (lv_at hl 0 rfl) ?_
                    refine pl_get (v := .ref (ad 2)) hx hb hts (fun w h => mT (inX8 w h)) hown hG.1 hP (hst.1 1 (by decide)) hf11 rfl 0 (by decide) (hts _ (mT wg_195)) (fun _ h => h) rfl dX8_nextPart_99 ?_
                    refine lv_iload_n hx hb dX8_nextPart_102 rfl (lv_at hl 1 rfl) ?_
                    obtain ⟨rw24, hf25, hc26⟩ := hT.1 2 (by decide)
                    have hin27 : vp_in y86_l1 520 := In.inb hb22 (by decide) (by decide)
                    refine pl_iald hx hb hG.1 hP (hst.1 2 (by decide)) 0 hf25 rfl hin27 dX8_nextPart_103 ?_
                    refine lv_topi (fun x28 ex28 => ?_)
                    have hb29 : In x28 0 65535 := by rw [ex28]; exact hc26 _ (vp_nat hin27)
                    refine call_i (run_S (rm := rm_X8_kindOf) hx hb hml hown hts (s_X8_kindOf l g ad th _ _ _ x28 hst hT ) cS_X8_kindOf wg_566 ⟨Nat.le_of_ble_eq_true rfl, Nat.le_of_ble_eq_true rfl⟩ hG hE hA hP hD hS rfl hl.1 (As := [.int x28]) (rest := []) rfl (Nat.le_of_ble_eq_true rfl) dX8_nextPart_104 ⟨Nat.le_of_ble_eq_true rfl, Nat.le_of_ble_eq_true rfl⟩) hA hD hS (fun r30 L31 f32 H locs hp33 hP hD hS => ?_)
                    obtain ⟨eL34L, eL34T, eL34R⟩ := hp33
                    have eL34L : L31 = L := eL34L
                    have eL34T : f32 = f_64 := eL34T
                    rw [eL34L, eL34T] at hP hD
                    have eL34R : In r30 1 4 := eL34R
                    refine lv_aload_n hx hb dX8_nextPart_107 rfl (lv_at hl 0 rfl) ?_
                    refine pl_get (v := .int v4_10) hx hb hts (fun w h => mT (inX8 w h)) hown hG.1 hP (hst.1 1 (by decide)) hf11 rfl 4 (by decide) (hts _ (mT wg_205)) (fun _ h => h) rfl dX8_nextPart_108 ?_
                    refine lv_icmp_ne (tgt := 120) hx hb dX8_nextPart_111 (by decide) (fun c35 => ?_) (fun c35 => ?_)
                    ·
                      exact hJ120 _ _ _ hP hD hS (lv_sub hl [0, 1, 2] rfl)
                    ·
                      have cc36 : r30.toInt = v4_10.toInt := congrArg Int32.toInt c35
                      have hb37 : In v4_10 1 4 := In.eq2 eL34R hv4_10 cc36 (by omega) (by omega)
                      obtain ⟨x38, ex38⟩ : ∃ y : Int32, y = y86_l1 + 1 := ⟨_, rfl⟩
                      have hb39 : In x38 1 520 := ex38 ▸ In.add hb22 (⟨by decide, by decide⟩ : In 1 1 1) (by decide) (by decide) (by decide) (by decide)
                      have et40 : x38.toInt = y86_l1.toInt + 1 := In.adde ex38 hb22 (k := 1) (by decide) (by decide) (by decide)
                      refine lv_iinc (v := x38) (lv' := [(1, .int x38), (0, .ref (ad 1)), (2, .int y85_s0)]) hx hb dX8_nextPart_114 hl (k := 1) rfl (by rw [ex38]; rfl) (by decide) rfl (fun ls hl => ?_)
                      refine lv_goto (tgt := 86) hx hb dX8_nextPart_117 (by decide) ?_
                      exact ih86 x38 _ _ _ (In.mono hb39 (by decide) (by decide)) hP hD hS (lv_sub hl [1, 0, 2] rfl) (msu et40 (by decide) hmz86)
            exact hJ86 ((520 - y64_l1.toInt).toNat + 1) y64_l1 _ _ _ hy64_l1 hP hD hS (lv_sub hl [1, 2, 0] rfl) (msI _)
          have hJ80 : ∀ (H : Heap) (locs : List Loc) (ls : Array Slot), va_P g.1 vwCl (va_pl L f_64) H → va_D A (va_pl L f_64) → va_S A s.heap H locs → lv_has ls 3 [(0, .ref (ad 1)), (1, .int y64_l1)] → W p l e rm_X8_nextPart s m [.ref (ad 1)].toArray below meth c H locs 0 0 (MQ below (va_Qv (po_X8_nextPart g ad th L f ) (PstB g A) A) [.ref (ad 1)].toArray s rm_X8_nextPart.cells rm_X8_nextPart.slots A) (F0 m 80 ls []) := by
            intro H locs ls hP hD hS hl
            refine lv_iconst (v := 1) hx hb dX8_nextPart_80 (by decide) ?_
            refine lv_goto (tgt := 85) hx hb dX8_nextPart_81 (by decide) ?_
            exact hJ85 1 _ _ _ (⟨by decide, by decide⟩ : In 1 0 1) hP hD hS (lv_sub hl [0, 1] rfl)
          refine lv_icmp_eq (tgt := 80) hx hb dX8_nextPart_69 (by decide) (fun c41 => ?_) (fun c41 => ?_)
          ·
            have cc42 : v4_10.toInt = (2 : Int32).toInt := congrArg Int32.toInt c41
            have hb43 : In v4_10 2 2 := In.eq1 hv4_10 (⟨by decide, by decide⟩ : In 2 2 2) cc42 (by omega) (by omega)
            exact hJ80 _ _ _ hP hD hS (lv_sub hl [0, 1] rfl)
          ·
            refine lv_aload_n hx hb dX8_nextPart_72 rfl (lv_at hl 0 rfl) ?_
            refine pl_get (v := .int v4_10) hx hb hts (fun w h => mT (inX8 w h)) hown hG.1 hP (hst.1 1 (by decide)) hf11 rfl 4 (by decide) (hts _ (mT wg_205)) (fun _ h => h) rfl dX8_nextPart_73 ?_
            refine lv_iconst (v := 3) hx hb dX8_nextPart_76 (by decide) ?_
            refine lv_icmp_ne (tgt := 84) hx hb dX8_nextPart_77 (by decide) (fun c44 => ?_) (fun c44 => ?_)
            ·
              refine lv_iconst (v := 0) hx hb dX8_nextPart_84 (by decide) ?_
              exact hJ85 0 _ _ _ (⟨by decide, by decide⟩ : In 0 0 1) hP hD hS (lv_sub hl [0, 1] rfl)
            ·
              have cc45 : v4_10.toInt = (3 : Int32).toInt := congrArg Int32.toInt c44
              have hb46 : In v4_10 3 3 := In.eq1 hv4_10 (⟨by decide, by decide⟩ : In 3 3 3) cc45 (by omega) (by omega)
              exact hJ80 _ _ _ hP hD hS (lv_sub hl [0, 1] rfl)
        refine lv_icmp_ge (tgt := 64) hx hb dX8_nextPart_45 (by decide) (fun c47 => ?_) (fun c47 => ?_)
        ·
          exact hJ64 y5_l1 _ _ _ _ hy5_l1 hP hD hS hT hfr (lv_sub hl [0, 1] rfl)
        ·
          have cc48 : y5_l1.toInt < v1_1.toInt := i32_nle c47
          have hb49 : In y5_l1 0 519 := In.lt1 hy5_l1 hv1_1 cc48 (by omega) (by omega)
          have hb50 : In v1_1 1 520 := In.lt2 hy5_l1 hv1_1 cc48 (by omega) (by omega)
          refine lv_aload_n hx hb dX8_nextPart_48 rfl (lv_at hl 0 rfl) ?_
          refine lv_aload_n hx hb dX8_nextPart_49 rfl (lv_at hl 0 rfl) ?_
          refine pl_get (v := .ref (ad 2)) hx hb hts (fun w h => mT (inX8 w h)) hown hG.1 hP (hst.1 1 (by decide)) hf7 rfl 0 (by decide) (hts _ (mT wg_195)) (fun _ h => h) rfl dX8_nextPart_50 ?_
          refine lv_iload_n hx hb dX8_nextPart_53 rfl (lv_at hl 1 rfl) ?_
          obtain ⟨rw51, hf52, hc53⟩ := hT.1 2 (by decide)
          have hin54 : vp_in y5_l1 520 := In.inb hb49 (by decide) (by decide)
          refine pl_iald hx hb hG.1 hP (hst.1 2 (by decide)) 0 hf52 rfl hin54 dX8_nextPart_54 ?_
          refine lv_topi (fun x55 ex55 => ?_)
          have hb56 : In x55 0 65535 := by rw [ex55]; exact hc53 _ (vp_nat hin54)
          refine call_i (run_S (rm := rm_X8_kindOf) hx hb hml hown hts (s_X8_kindOf l g ad th _ _ _ x55 hst hT ) cS_X8_kindOf wg_566 ⟨Nat.le_of_ble_eq_true rfl, Nat.le_of_ble_eq_true rfl⟩ hG hE hA hP hD hS rfl hl.1 (As := [.int x55]) (rest := [.ref (ad 1)]) rfl (Nat.le_of_ble_eq_true rfl) dX8_nextPart_55 ⟨Nat.le_of_ble_eq_true rfl, Nat.le_of_ble_eq_true rfl⟩) hA hD hS (fun r57 L58 f59 H locs hp60 hP hD hS => ?_)
          obtain ⟨eL61L, eL61T, eL61R⟩ := hp60
          have eL61L : L58 = L := eL61L
          have eL61T : f59 = f6 := eL61T
          rw [eL61L, eL61T] at hP hD
          have eL61R : In r57 1 4 := eL61R
          refine pl_put (ty := .int) (v := .int r57) (fs' := [.ref (ad 2), .int v1_1, .int y5_l1, .int v3_1, .int r57]) hx hb hts (fun w h => mT (inX8 w h)) tyX8 tyX8_ok nmX8 hown hG.1 hP hD hS (hst.1 1 (by decide)) hf7 rfl 4 (by decide) (hts _ (mT wg_205)) (fun _ h => h) rfl (by decide +kernel) (rfl) (rfl) (Nat.le_of_ble_eq_true rfl) rfl dX8_nextPart_58 (fun H locs f62 hf63 ho64 hP hD hS => ?_)
          have hf65 := (ho64 (ad 2) (hst.ne (by decide) (by decide) (by decide))).trans hf52
          have hfr : (∀ b, b ≠ (ad 1) → f62 b = f b) := fun b z0_ => (ho64 b z0_).trans (hfr b z0_)
          obtain ⟨x66, ex66⟩ : ∃ y : Int32, y = y5_l1 + 1 := ⟨_, rfl⟩
          have hb67 : In x66 1 520 := ex66 ▸ In.add hb49 (⟨by decide, by decide⟩ : In 1 1 1) (by decide) (by decide) (by decide) (by decide)
          have et68 : x66.toInt = y5_l1.toInt + 1 := In.adde ex66 hb49 (k := 1) (by decide) (by decide) (by decide)
          refine lv_iinc (v := x66) (lv' := [(1, .int x66), (0, .ref (ad 1))]) hx hb dX8_nextPart_61 hl (k := 1) rfl (by rw [ex66]; rfl) (by decide) rfl (fun ls hl => ?_)
          have hT := TI.updA hT hst (k := 1) (by decide) hf63 ho64 ⟨v1_1, y5_l1, v3_1, r57, rfl, (In.mono hb50 (by decide) (by decide)), (In.mono hb49 (by decide) (by decide)), hv3_1, (In.mono eL61R (by decide) (by decide))⟩
          exact hJ64 x66 _ _ _ _ (In.mono hb67 (by decide) (by decide)) hP hD hS hT hfr (lv_sub hl [1, 0] rfl)
      refine lv_icmp_ge (tgt := 30) hx hb dX8_nextPart_10 (by decide) (fun c69 => ?_) (fun c69 => ?_)
      ·
        exact hJ30 _ _ _ hP hD hS (lv_sub hl [0, 1] rfl)
      ·
        have cc70 : y5_l1.toInt < v1_1.toInt := i32_nle c69
        have hb71 : In y5_l1 0 519 := In.lt1 hy5_l1 hv1_1 cc70 (by omega) (by omega)
        have hb72 : In v1_1 1 520 := In.lt2 hy5_l1 hv1_1 cc70 (by omega) (by omega)
        refine lv_aload_n hx hb dX8_nextPart_13 rfl (lv_at hl 0 rfl) ?_
        refine pl_get (v := .ref (ad 2)) hx hb hts (fun w h => mT (inX8 w h)) hown hG.1 hP (hst.1 1 (by decide)) hf2 rfl 0 (by decide) (hts _ (mT wg_195)) (fun _ h => h) rfl dX8_nextPart_14 ?_
        refine lv_iload_n hx hb dX8_nextPart_17 rfl (lv_at hl 1 rfl) ?_
        obtain ⟨rw73, hf74, hc75⟩ := hT.1 2 (by decide)
        have hin76 : vp_in y5_l1 520 := In.inb hb71 (by decide) (by decide)
        refine pl_iald hx hb hG.1 hP (hst.1 2 (by decide)) 0 hf74 rfl hin76 dX8_nextPart_18 ?_
        refine lv_topi (fun x77 ex77 => ?_)
        have hb78 : In x77 0 65535 := by rw [ex77]; exact hc75 _ (vp_nat hin76)
        refine lv_bipush (v := 32) hx hb dX8_nextPart_19 (by decide) ?_
        refine lv_icmp_ne (tgt := 30) hx hb dX8_nextPart_21 (by decide) (fun c79 => ?_) (fun c79 => ?_)
        ·
          exact hJ30 _ _ _ hP hD hS (lv_sub hl [0, 1] rfl)
        ·
          have cc80 : x77.toInt = (32 : Int32).toInt := congrArg Int32.toInt c79
          have hb81 : In x77 32 32 := In.eq1 hb78 (⟨by decide, by decide⟩ : In 32 32 32) cc80 (by omega) (by omega)
          obtain ⟨x82, ex82⟩ : ∃ y : Int32, y = y5_l1 + 1 := ⟨_, rfl⟩
          have hb83 : In x82 1 520 := ex82 ▸ In.add hb71 (⟨by decide, by decide⟩ : In 1 1 1) (by decide) (by decide) (by decide) (by decide)
          have et84 : x82.toInt = y5_l1.toInt + 1 := In.adde ex82 hb71 (k := 1) (by decide) (by decide) (by decide)
          refine lv_iinc (v := x82) (lv' := [(1, .int x82), (0, .ref (ad 1))]) hx hb dX8_nextPart_24 hl (k := 1) rfl (by rw [ex82]; rfl) (by decide) rfl (fun ls hl => ?_)
          refine lv_goto (tgt := 5) hx hb dX8_nextPart_27 (by decide) ?_
          exact ih5 x82 _ _ _ (In.mono hb83 (by decide) (by decide)) hP hD hS (lv_sub hl [1, 0] rfl) (msu et84 (by decide) hmz5)
  exact hJ5 ((520 - v3_1.toInt).toNat + 1) v3_1 _ _ _ hv3_1 hP hD hS (lv_sub hl [1, 0] rfl) (msI _)

abbrev rm_X8_firstPart : Room := { frames := 2, cells := 0, slots := 0, locals := 42 }
abbrev po_X8_firstPart (g : GG) (ad : Nat → Nat) (th : Nat → Int) (L : List Nat) (f : HP)  : (List Nat × HP) → Prop := fun u => u.1 = L ∧ TI g ad th u.2 ∧ (∀ b, b ≠ (ad 1) → u.2 b = f b)
set_option maxHeartbeats 4000000 in
set_option maxRecDepth 100000 in
theorem s_X8_firstPart (l : Launch) (g : GG) (ad : Nat → Nat) (th : Nat → Int) (L : List Nat) (f : HP) (sz : Nat)  (hst : ST ad L) (hT : TI g ad th f)  : MtV l g yX8_firstPart cX8_firstPart 1 rm_X8_firstPart [.ref (ad 1)] L f sz (po_X8_firstPart g ad th L f ) := by
  refine MtV.of (by decide +kernel) (Nat.le_of_ble_eq_true rfl) ?_
  intro p e s m below meth c A hEn hP hD hS ls hl
  obtain ⟨hx, hb, hr, hml, hown, hlocks, hts, hG, hA, hE, hnm⟩ := hEn
  have hown : s.vm.findClass "RulerWord$Tape" = some m.cls := hown
  have hl : lv_has ls 1 [(0, .ref (ad 1))] := hl
  have hfr : (∀ b, b ≠ (ad 1) → f b = f b) := fun b z0_ => rfl
  refine lv_aload_n hx hb dX8_firstPart_0 rfl (lv_at hl 0 rfl) ?_
  refine lv_iconst (v := 0) hx hb dX8_firstPart_1 (by decide) ?_
  obtain ⟨v1_1, v2_1, v3_1, v4_1, hf2, hv1_1, hv2_1, hv3_1, hv4_1⟩ := hT.1 1 (by decide)
  refine pl_put (ty := .int) (v := .int 0) (fs' := [.ref (ad 2), .int v1_1, .int v2_1, .int 0, .int v4_1]) hx hb hts (fun w h => mT (inX8 w h)) tyX8 tyX8_ok nmX8 hown hG.1 hP hD hS (hst.1 1 (by decide)) hf2 rfl 3 (by decide) (hts _ (mT wg_202)) (fun _ h => h) rfl (by decide +kernel) (rfl) (rfl) (Nat.le_of_ble_eq_true rfl) rfl dX8_firstPart_2 (fun H locs f3 hf4 ho5 hP hD hS => ?_)
  have hfr : (∀ b, b ≠ (ad 1) → f3 b = f b) := fun b z0_ => (ho5 b z0_).trans (hfr b z0_)
  refine lv_aload_n hx hb dX8_firstPart_5 rfl (lv_at hl 0 rfl) ?_
  have hT := TI.updA hT hst (k := 1) (by decide) hf4 ho5 ⟨v1_1, v2_1, 0, v4_1, rfl, hv1_1, hv2_1, (⟨by decide, by decide⟩ : In 0 0 520), hv4_1⟩
  refine call_v (run_V (rm := rm_X8_nextPart) hx hb hml hown hts (s_X8_nextPart l g ad th _ _ _  hst hT ) cV_X8_nextPart wg_562 ⟨Nat.le_of_ble_eq_true rfl, Nat.le_of_ble_eq_true rfl⟩ hG hE hA hP hD hS (hst.1 1 (by decide)) hf4 rfl rfl hl.1 (As := []) (rest := []) rfl (Nat.le_of_ble_eq_true rfl) dX8_firstPart_6 ⟨Nat.le_of_ble_eq_true rfl, Nat.le_of_ble_eq_true rfl⟩) hA hD hS (fun L7 f8 H locs hp9 hP hD hS => ?_)
  obtain ⟨eL10L, eL10T, eL10F⟩ := hp9
  have eL10L : L7 = L := eL10L
  rw [eL10L] at hP hD
  have hT : TI g ad th f8 := eL10T
  have eL10F : ∀ b, b ≠ (ad 1) → f8 b = f3 b := eL10F
  have hfr : (∀ b, b ≠ (ad 1) → f8 b = f b) := fun b z0_ => (eL10F b z0_).trans (hfr b z0_)
  exact ret_v hx hb hr hlocks hP hD hS (Nat.le_of_ble_eq_true rfl) (Nat.le_of_ble_eq_true rfl) (⟨rfl, hT, hfr⟩) dX8_firstPart_9

abbrev rm_X8_digits : Room := { frames := 0, cells := 0, slots := 0, locals := 0 }
abbrev po_X8_digits (g : GG) (ad : Nat → Nat) (th : Nat → Int) (L : List Nat) (f : HP)  : Int32 → (List Nat × HP) → Prop := fun r u => u.1 = L ∧ u.2 = f ∧ In r (-520) 520 ∧ (∀ a b c d : Int32, f (ad 1) = .inr (8, [.ref (ad 2), .int a, .int b, .int c, .int d]) → (d.toInt = 3 ∧ r.toInt = c.toInt - b.toInt) ∨ (d.toInt ≠ 3 ∧ r.toInt = 0))
set_option maxHeartbeats 4000000 in
set_option maxRecDepth 100000 in
theorem s_X8_digits (l : Launch) (g : GG) (ad : Nat → Nat) (th : Nat → Int) (L : List Nat) (f : HP) (sz : Nat)  (hst : ST ad L) (hT : TI g ad th f)  : MtI l g yX8_digits cX8_digits 1 (some .int) rm_X8_digits [.ref (ad 1)] L f sz (po_X8_digits g ad th L f ) := by
  refine MtI.of (by decide +kernel) (Nat.le_of_ble_eq_true rfl) ?_
  intro p e s m below meth c A hEn hP hD hS ls hl
  obtain ⟨hx, hb, hr, hml, hown, hlocks, hts, hG, hA, hE, hnm⟩ := hEn
  have hown : s.vm.findClass "RulerWord$Tape" = some m.cls := hown
  have hl : lv_has ls 1 [(0, .ref (ad 1))] := hl
  refine lv_aload_n hx hb dX8_digits_0 rfl (lv_at hl 0 rfl) ?_
  obtain ⟨v1_1, v2_1, v3_1, v4_1, hf2, hv1_1, hv2_1, hv3_1, hv4_1⟩ := hT.1 1 (by decide)
  refine pl_get (v := .int v4_1) hx hb hts (fun w h => mT (inX8 w h)) hown hG.1 hP (hst.1 1 (by decide)) hf2 rfl 4 (by decide) (hts _ (mT wg_205)) (fun _ h => h) rfl dX8_digits_1 ?_
  refine lv_iconst (v := 3) hx hb dX8_digits_4 (by decide) ?_
  refine lv_icmp_ne (tgt := 20) hx hb dX8_digits_5 (by decide) (fun c3 => ?_) (fun c3 => ?_)
  ·
    refine lv_iconst (v := 0) hx hb dX8_digits_20 (by decide) ?_
    exact ret_i (ty := .int) hx hb hr hlocks (rfl) hP hD hS (Nat.le_of_ble_eq_true rfl) (Nat.le_of_ble_eq_true rfl) (⟨rfl, rfl, (⟨by decide, by decide⟩ : In 0 (-520) 520), (fun a b c d hq => by obtain ⟨q1, q2, q3, q4⟩ := inj8 (hf2.symm.trans hq); subst q4; exact Or.inr ⟨fun e => i32_ne c3 (e.trans (by decide)), by decide⟩)⟩) dX8_digits_21
  ·
    have cc4 : v4_1.toInt = (3 : Int32).toInt := congrArg Int32.toInt c3
    have hb5 : In v4_1 3 3 := In.eq1 hv4_1 (⟨by decide, by decide⟩ : In 3 3 3) cc4 (by omega) (by omega)
    refine lv_aload_n hx hb dX8_digits_8 rfl (lv_at hl 0 rfl) ?_
    refine pl_get (v := .int v3_1) hx hb hts (fun w h => mT (inX8 w h)) hown hG.1 hP (hst.1 1 (by decide)) hf2 rfl 3 (by decide) (hts _ (mT wg_202)) (fun _ h => h) rfl dX8_digits_9 ?_
    refine lv_aload_n hx hb dX8_digits_12 rfl (lv_at hl 0 rfl) ?_
    refine pl_get (v := .int v2_1) hx hb hts (fun w h => mT (inX8 w h)) hown hG.1 hP (hst.1 1 (by decide)) hf2 rfl 2 (by decide) (hts _ (mT wg_201)) (fun _ h => h) rfl dX8_digits_13 ?_
    refine lv_isub hx hb dX8_digits_16 ?_
    refine lv_topi (fun x6 ex6 => ?_)
    have hb7 : In x6 (-520) 520 := ex6 ▸ In.sub hv3_1 hv2_1 (by decide) (by decide) (by decide) (by decide)
    have et8 : x6.toInt = v3_1.toInt - v2_1.toInt := In.sub2e ex6 hv3_1 hv2_1 (by decide) (by decide)
    refine lv_goto (tgt := 21) hx hb dX8_digits_17 (by decide) ?_
    exact ret_i (ty := .int) hx hb hr hlocks (rfl) hP hD hS (Nat.le_of_ble_eq_true rfl) (Nat.le_of_ble_eq_true rfl) (⟨rfl, rfl, hb7, (fun a b c d hq => by obtain ⟨q1, q2, q3, q4⟩ := inj8 (hf2.symm.trans hq); subst q2; subst q3; subst q4; exact Or.inl ⟨(congrArg Int32.toInt c3).trans (by decide), et8⟩)⟩) dX8_digits_21

abbrev rm_X8_isWord : Room := { frames := 4, cells := 0, slots := 0, locals := 85 }
abbrev po_X8_isWord (g : GG) (ad : Nat → Nat) (th : Nat → Int) (L : List Nat) (f : HP) (z1 : Nat) : Int32 → (List Nat × HP) → Prop := fun r u => u.1 = L ∧ u.2 = f ∧ In r 0 1
set_option maxHeartbeats 4000000 in
set_option maxRecDepth 100000 in
theorem s_X8_isWord (l : Launch) (g : GG) (ad : Nat → Nat) (th : Nat → Int) (L : List Nat) (f : HP) (sz : Nat) (z1 : Nat) (hst : ST ad L) (hT : TI g ad th f) (hi_z1 : z1 < nS) : MtI l g yX8_isWord cX8_isWord 3 (some .boolean) rm_X8_isWord [.ref (ad 1), .ref (g.2.2.1 z1)] L f sz (po_X8_isWord g ad th L f z1) := by
  refine MtI.of (by decide +kernel) (Nat.le_of_ble_eq_true rfl) ?_
  intro p e s m below meth c A hEn hP hD hS ls hl
  obtain ⟨hx, hb, hr, hml, hown, hlocks, hts, hG, hA, hE, hnm⟩ := hEn
  have hown : s.vm.findClass "RulerWord$Tape" = some m.cls := hown
  have hl : lv_has ls 3 [(0, .ref (ad 1)), (1, .ref (g.2.2.1 z1))] := hl
  refine lv_aload_n hx hb dX8_isWord_0 rfl (lv_at hl 0 rfl) ?_
  obtain ⟨v1_1, v2_1, v3_1, v4_1, hf2, hv1_1, hv2_1, hv3_1, hv4_1⟩ := hT.1 1 (by decide)
  refine pl_get (v := .int v4_1) hx hb hts (fun w h => mT (inX8 w h)) hown hG.1 hP (hst.1 1 (by decide)) hf2 rfl 4 (by decide) (hts _ (mT wg_205)) (fun _ h => h) rfl dX8_isWord_1 ?_
  refine lv_iconst (v := 2) hx hb dX8_isWord_4 (by decide) ?_
  refine lv_icmp_ne (tgt := 24) hx hb dX8_isWord_5 (by decide) (fun c3 => ?_) (fun c3 => ?_)
  ·
    have oc2 : (2 : Int32).toInt = 2 := by decide
    have cc4 : v4_1.toInt ≠ (2 : Int32).toInt := i32_ne c3
    refine lv_iconst (v := 0) hx hb dX8_isWord_24 (by decide) ?_
    exact ret_i (ty := .boolean) hx hb hr hlocks (rfl) hP hD hS (Nat.le_of_ble_eq_true rfl) (Nat.le_of_ble_eq_true rfl) (⟨rfl, rfl, (⟨by decide, by decide⟩ : In 0 0 1)⟩) dX8_isWord_25
  ·
    have oc2 : (2 : Int32).toInt = 2 := by decide
    have cc5 : v4_1.toInt = (2 : Int32).toInt := congrArg Int32.toInt c3
    have hb6 : In v4_1 2 2 := In.eq1 hv4_1 (⟨by decide, by decide⟩ : In 2 2 2) cc5 (by omega) (by omega)
    refine lv_aload_n hx hb dX8_isWord_8 rfl (lv_at hl 0 rfl) ?_
    refine pl_get (v := .int v3_1) hx hb hts (fun w h => mT (inX8 w h)) hown hG.1 hP (hst.1 1 (by decide)) hf2 rfl 3 (by decide) (hts _ (mT wg_202)) (fun _ h => h) rfl dX8_isWord_9 ?_
    refine lv_aload_n hx hb dX8_isWord_12 rfl (lv_at hl 0 rfl) ?_
    refine pl_get (v := .int v2_1) hx hb hts (fun w h => mT (inX8 w h)) hown hG.1 hP (hst.1 1 (by decide)) hf2 rfl 2 (by decide) (hts _ (mT wg_201)) (fun _ h => h) rfl dX8_isWord_13 ?_
    refine lv_isub hx hb dX8_isWord_16 ?_
    refine lv_topi (fun x7 ex7 => ?_)
    have hb8 : In x7 (-520) 520 := ex7 ▸ In.sub hv3_1 hv2_1 (by decide) (by decide) (by decide) (by decide)
    have et9 : x7.toInt = v3_1.toInt - v2_1.toInt := In.sub2e ex7 hv3_1 hv2_1 (by decide) (by decide)
    refine lv_aload_n hx hb dX8_isWord_17 rfl (lv_at hl 1 rfl) ?_
    refine call_i (run_VJ (rm := rm_J0_length) hx hb hml hown hts (i := z1) (hi_z1) (s_J0_length l g _ _ _ z1  hi_z1) cV_J0_length_8abf5 wg_574 rfl ⟨Nat.le_of_ble_eq_true rfl, Nat.le_of_ble_eq_true rfl⟩ hG hE hA hP hD hS rfl hl.1 (As := []) (rest := [.int x7]) rfl (Nat.le_of_ble_eq_true rfl) dX8_isWord_18 ⟨Nat.le_of_ble_eq_true rfl, Nat.le_of_ble_eq_true rfl⟩) hA hD hS (fun r10 L11 f12 H locs hp13 hP hD hS => ?_)
    have eL14 : L11 = L := hp13.1
    have eL14f : f12 = f := hp13.2.1
    rw [eL14, eL14f] at hP hD
    have hb15 : In r10 0 7 := hp13.2.2.1
    have hle16 : r10.toInt = ((lenS.getD z1 0 : Nat) : Int) := hp13.2.2.2
    refine lv_icmp_eq (tgt := 26) hx hb dX8_isWord_21 (by decide) (fun c17 => ?_) (fun c17 => ?_)
    ·
      have cc18 : x7.toInt = r10.toInt := congrArg Int32.toInt c17
      have hb19 : In x7 0 7 := In.eq1 hb8 hb15 cc18 (by omega) (by omega)
      refine lv_iconst (v := 0) hx hb dX8_isWord_26 (by decide) ?_
      refine lv_istore_n (lv' := [(2, .int 0), (0, .ref (ad 1)), (1, .ref (g.2.2.1 z1))]) hx hb dX8_isWord_27 rfl hl (by decide) rfl (fun ls hl => ?_)
      have hJ28 : ∀ (k28 : Nat) (y28_l2 : Int32) (H : Heap) (locs : List Loc) (ls : Array Slot), In y28_l2 0 7 → va_P g.1 vwCl (va_pl L f) H → va_D A (va_pl L f) → va_S A s.heap H locs → lv_has ls 3 [(0, .ref (ad 1)), (1, .ref (g.2.2.1 z1)), (2, .int y28_l2)] → 7 - y28_l2.toInt < ((k28 : Nat) : Int) → W p l e rm_X8_isWord s m [.ref (ad 1), .ref (g.2.2.1 z1)].toArray below meth c H locs 0 0 (MQ below (va_Qi (po_X8_isWord g ad th L f z1) (PstB g A) A) [.ref (ad 1), .ref (g.2.2.1 z1)].toArray s rm_X8_isWord.cells rm_X8_isWord.slots A) (F0 m 28 ls []) := by
        intro k28
        induction k28 with
        | zero =>
          intro y28_l2 H locs ls hy28_l2 hP hD hS hl hmz28
          exact ms0 hy28_l2 hmz28
        | succ k28 ih28 =>
          intro y28_l2 H locs ls hy28_l2 hP hD hS hl hmz28
          refine lv_iload_n hx hb dX8_isWord_28 rfl (lv_at hl 2 rfl) ?_
          refine lv_aload_n hx hb dX8_isWord_29 rfl (lv_at hl 1 rfl) ?_
          refine call_i (run_VJ (rm := rm_J0_length) hx hb hml hown hts (i := z1) (hi_z1) (s_J0_length l g _ _ _ z1  hi_z1) cV_J0_length_8abf5 wg_574 rfl ⟨Nat.le_of_ble_eq_true rfl, Nat.le_of_ble_eq_true rfl⟩ hG hE hA hP hD hS rfl hl.1 (As := []) (rest := [.int y28_l2]) rfl (Nat.le_of_ble_eq_true rfl) dX8_isWord_30 ⟨Nat.le_of_ble_eq_true rfl, Nat.le_of_ble_eq_true rfl⟩) hA hD hS (fun r20 L21 f22 H locs hp23 hP hD hS => ?_)
          have eL24 : L21 = L := hp23.1
          have eL24f : f22 = f := hp23.2.1
          rw [eL24, eL24f] at hP hD
          have hb25 : In r20 0 7 := hp23.2.2.1
          have hle26 : r20.toInt = ((lenS.getD z1 0 : Nat) : Int) := hp23.2.2.2
          refine lv_icmp_ge (tgt := 63) hx hb dX8_isWord_33 (by decide) (fun c27 => ?_) (fun c27 => ?_)
          ·
            have cc28 : r20.toInt ≤ y28_l2.toInt := i32_le.mp c27
            refine lv_iconst (v := 1) hx hb dX8_isWord_63 (by decide) ?_
            exact ret_i (ty := .boolean) hx hb hr hlocks (rfl) hP hD hS (Nat.le_of_ble_eq_true rfl) (Nat.le_of_ble_eq_true rfl) (⟨rfl, rfl, (⟨by decide, by decide⟩ : In 1 0 1)⟩) dX8_isWord_64
          ·
            have cc29 : y28_l2.toInt < r20.toInt := i32_nle c27
            have hb30 : In y28_l2 0 6 := In.lt1 hy28_l2 hb25 cc29 (by omega) (by omega)
            have hb31 : In r20 1 7 := In.lt2 hy28_l2 hb25 cc29 (by omega) (by omega)
            refine lv_aload_n hx hb dX8_isWord_36 rfl (lv_at hl 0 rfl) ?_
            refine pl_get (v := .ref (ad 2)) hx hb hts (fun w h => mT (inX8 w h)) hown hG.1 hP (hst.1 1 (by decide)) hf2 rfl 0 (by decide) (hts _ (mT wg_195)) (fun _ h => h) rfl dX8_isWord_37 ?_
            refine lv_aload_n hx hb dX8_isWord_40 rfl (lv_at hl 0 rfl) ?_
            refine pl_get (v := .int v2_1) hx hb hts (fun w h => mT (inX8 w h)) hown hG.1 hP (hst.1 1 (by decide)) hf2 rfl 2 (by decide) (hts _ (mT wg_201)) (fun _ h => h) rfl dX8_isWord_41 ?_
            refine lv_iload_n hx hb dX8_isWord_44 rfl (lv_at hl 2 rfl) ?_
            refine lv_iadd hx hb dX8_isWord_45 ?_
            refine lv_topi (fun x32 ex32 => ?_)
            have hb33 : In x32 0 526 := ex32 ▸ In.add hv2_1 hb30 (by decide) (by decide) (by decide) (by decide)
            have et34 : x32.toInt = v2_1.toInt + y28_l2.toInt := In.add2e ex32 hv2_1 hb30 (by decide) (by decide)
            obtain ⟨rw35, hf36, hc37⟩ := hT.1 2 (by decide)
            have hin38 : vp_in x32 520 := vp_of (by obtain ⟨o0a, o0b⟩ := (hb33 : In _ _ _); obtain ⟨o1a, o1b⟩ := (hv2_1 : In _ _ _); obtain ⟨o2a, o2b⟩ := (hb30 : In _ _ _); obtain ⟨o3a, o3b⟩ := (hb31 : In _ _ _); obtain ⟨o4a, o4b⟩ := (hb15 : In _ _ _); obtain ⟨o5a, o5b⟩ := (hb19 : In _ _ _); obtain ⟨o6a, o6b⟩ := (hv3_1 : In _ _ _); omega) (by obtain ⟨o0a, o0b⟩ := (hb33 : In _ _ _); obtain ⟨o1a, o1b⟩ := (hv2_1 : In _ _ _); obtain ⟨o2a, o2b⟩ := (hb30 : In _ _ _); obtain ⟨o3a, o3b⟩ := (hb31 : In _ _ _); obtain ⟨o4a, o4b⟩ := (hb15 : In _ _ _); obtain ⟨o5a, o5b⟩ := (hb19 : In _ _ _); obtain ⟨o6a, o6b⟩ := (hv3_1 : In _ _ _); omega)
            refine pl_iald hx hb hG.1 hP (hst.1 2 (by decide)) 0 hf36 rfl hin38 dX8_isWord_46 ?_
            refine lv_topi (fun x39 ex39 => ?_)
            have hb40 : In x39 0 65535 := by rw [ex39]; exact hc37 _ (vp_nat hin38)
            refine lv_aload_n hx hb dX8_isWord_47 rfl (lv_at hl 1 rfl) ?_
            refine lv_iload_n hx hb dX8_isWord_48 rfl (lv_at hl 2 rfl) ?_
            refine call_i (run_VJ (rm := rm_J0_charAt) hx hb hml hown hts (i := z1) (hi_z1) (s_J0_charAt l g _ _ _ z1 y28_l2 hi_z1 (Int.le_trans (by decide) hb30.1) (by have q1 := cc29; have q2 := hle26; omega)) cV_J0_charAt_5068e wg_584 rfl ⟨Nat.le_of_ble_eq_true rfl, Nat.le_of_ble_eq_true rfl⟩ hG hE hA hP hD hS rfl hl.1 (As := [.int y28_l2]) (rest := [.int x39]) rfl (Nat.le_of_ble_eq_true rfl) dX8_isWord_49 ⟨Nat.le_of_ble_eq_true rfl, Nat.le_of_ble_eq_true rfl⟩) hA hD hS (fun r41 L42 f43 H locs hp44 hP hD hS => ?_)
            have eL45 : L42 = L := hp44.1
            have eL45f : f43 = f := hp44.2.1
            rw [eL45, eL45f] at hP hD
            have hb46 : In r41 0 65535 := hp44.2.2
            refine lv_icmp_eq (tgt := 57) hx hb dX8_isWord_52 (by decide) (fun c47 => ?_) (fun c47 => ?_)
            ·
              have cc48 : x39.toInt = r41.toInt := congrArg Int32.toInt c47
              obtain ⟨x49, ex49⟩ : ∃ y : Int32, y = y28_l2 + 1 := ⟨_, rfl⟩
              have hb50 : In x49 1 7 := ex49 ▸ In.add hb30 (⟨by decide, by decide⟩ : In 1 1 1) (by decide) (by decide) (by decide) (by decide)
              have et51 : x49.toInt = y28_l2.toInt + 1 := In.adde ex49 hb30 (k := 1) (by decide) (by decide) (by decide)
              refine lv_iinc (v := x49) (lv' := [(2, .int x49), (0, .ref (ad 1)), (1, .ref (g.2.2.1 z1))]) hx hb dX8_isWord_57 hl (k := 2) rfl (by rw [ex49]; rfl) (by decide) rfl (fun ls hl => ?_)
              refine lv_goto (tgt := 28) hx hb dX8_isWord_60 (by decide) ?_
              exact ih28 x49 _ _ _ (In.mono hb50 (by decide) (by decide)) hP hD hS (lv_sub hl [1, 2, 0] rfl) (msu et51 (by decide) hmz28)
            ·
              have cc52 : x39.toInt ≠ r41.toInt := i32_ne c47
              refine lv_iconst (v := 0) hx hb dX8_isWord_55 (by decide) ?_
              exact ret_i (ty := .boolean) hx hb hr hlocks (rfl) hP hD hS (Nat.le_of_ble_eq_true rfl) (Nat.le_of_ble_eq_true rfl) (⟨rfl, rfl, (⟨by decide, by decide⟩ : In 0 0 1)⟩) dX8_isWord_56
      exact hJ28 ((7 - (0 : Int32).toInt).toNat + 1) 0 _ _ _ (⟨by decide, by decide⟩ : In 0 0 7) hP hD hS (lv_sub hl [1, 2, 0] rfl) (msI _)
    ·
      have cc53 : x7.toInt ≠ r10.toInt := i32_ne c17
      refine lv_iconst (v := 0) hx hb dX8_isWord_24 (by decide) ?_
      exact ret_i (ty := .boolean) hx hb hr hlocks (rfl) hP hD hS (Nat.le_of_ble_eq_true rfl) (Nat.le_of_ble_eq_true rfl) (⟨rfl, rfl, (⟨by decide, by decide⟩ : In 0 0 1)⟩) dX8_isWord_25

abbrev rm_X8_digitAt : Room := { frames := 1, cells := 0, slots := 0, locals := 20 }
abbrev po_X8_digitAt (g : GG) (ad : Nat → Nat) (th : Nat → Int) (L : List Nat) (f : HP) (z1 : Int32) : Int32 → (List Nat × HP) → Prop := fun r u => u.1 = L ∧ u.2 = f ∧ In r (-49) 65487
set_option maxHeartbeats 4000000 in
set_option maxRecDepth 100000 in
theorem s_X8_digitAt (l : Launch) (g : GG) (ad : Nat → Nat) (th : Nat → Int) (L : List Nat) (f : HP) (sz : Nat) (z1 : Int32) (hst : ST ad L) (hT : TI g ad th f)  : MtI l g yX8_digitAt cX8_digitAt 2 (some .int) rm_X8_digitAt [.ref (ad 1), .int z1] L f sz (po_X8_digitAt g ad th L f z1) := by
  refine MtI.of (by decide +kernel) (Nat.le_of_ble_eq_true rfl) ?_
  intro p e s m below meth c A hEn hP hD hS ls hl
  obtain ⟨hx, hb, hr, hml, hown, hlocks, hts, hG, hA, hE, hnm⟩ := hEn
  have hown : s.vm.findClass "RulerWord$Tape" = some m.cls := hown
  have hl : lv_has ls 2 [(0, .ref (ad 1)), (1, .int z1)] := hl
  refine lv_iload_n hx hb dX8_digitAt_0 rfl (lv_at hl 1 rfl) ?_
  have hJ29 : ∀ (H : Heap) (locs : List Loc) (ls : Array Slot), va_P g.1 vwCl (va_pl L f) H → va_D A (va_pl L f) → va_S A s.heap H locs → lv_has ls 2 [(0, .ref (ad 1)), (1, .int z1)] → W p l e rm_X8_digitAt s m [.ref (ad 1), .int z1].toArray below meth c H locs 0 0 (MQ below (va_Qi (po_X8_digitAt g ad th L f z1) (PstB g A) A) [.ref (ad 1), .int z1].toArray s rm_X8_digitAt.cells rm_X8_digitAt.slots A) (F0 m 29 ls []) := by
    intro H locs ls hP hD hS hl
    refine lv_iconst (v := (-1)) hx hb dX8_digitAt_29 (by decide) ?_
    exact ret_i (ty := .int) hx hb hr hlocks (rfl) hP hD hS (Nat.le_of_ble_eq_true rfl) (Nat.le_of_ble_eq_true rfl) (⟨rfl, rfl, (⟨by decide, by decide⟩ : In (-1) (-49) 65487)⟩) dX8_digitAt_30
  refine lv_if_lt (tgt := 29) hx hb dX8_digitAt_1 (by decide) (fun c1 => ?_) (fun c1 => ?_)
  ·
    have oc0 : (0 : Int32).toInt = 0 := by decide
    have cc2 : z1.toInt < (0 : Int32).toInt := i32_lt.mp c1
    have hb3 : In z1 (-2147483648) (-1) := In.lt1 (In.full z1) (⟨by decide, by decide⟩ : In 0 0 0) cc2 (by omega) (by omega)
    exact hJ29 _ _ _ hP hD hS (lv_sub hl [0, 1] rfl)
  ·
    have oc0 : (0 : Int32).toInt = 0 := by decide
    have cc4 : (0 : Int32).toInt ≤ z1.toInt := i32_nlt c1
    have hb5 : In z1 0 2147483647 := In.ge1 (In.full z1) (⟨by decide, by decide⟩ : In 0 0 0) cc4 (by omega) (by omega)
    refine lv_iload_n hx hb dX8_digitAt_4 rfl (lv_at hl 1 rfl) ?_
    refine lv_aload_n hx hb dX8_digitAt_5 rfl (lv_at hl 0 rfl) ?_
    obtain ⟨v1_6, v2_6, v3_6, v4_6, hf7, hv1_6, hv2_6, hv3_6, hv4_6⟩ := hT.1 1 (by decide)
    refine call_i (run_V (rm := rm_X8_digits) hx hb hml hown hts (s_X8_digits l g ad th _ _ _  hst hT ) cV_X8_digits wg_651 ⟨Nat.le_of_ble_eq_true rfl, Nat.le_of_ble_eq_true rfl⟩ hG hE hA hP hD hS (hst.1 1 (by decide)) hf7 rfl rfl hl.1 (As := []) (rest := [.int z1]) rfl (Nat.le_of_ble_eq_true rfl) dX8_digitAt_6 ⟨Nat.le_of_ble_eq_true rfl, Nat.le_of_ble_eq_true rfl⟩) hA hD hS (fun r8 L9 f10 H locs hp11 hP hD hS => ?_)
    obtain ⟨eL12L, eL12T, eL12R, eL12X0⟩ := hp11
    have eL12L : L9 = L := eL12L
    have eL12T : f10 = f := eL12T
    rw [eL12L, eL12T] at hP hD
    have eL12R : In r8 (-520) 520 := eL12R
    have hd13 : (v4_6.toInt = 3 ∧ r8.toInt = v3_6.toInt - v2_6.toInt) ∨ (v4_6.toInt ≠ 3 ∧ r8.toInt = 0) := eL12X0 _ _ _ _ hf7
    refine lv_icmp_ge (tgt := 29) hx hb dX8_digitAt_9 (by decide) (fun c14 => ?_) (fun c14 => ?_)
    ·
      have cc15 : r8.toInt ≤ z1.toInt := i32_le.mp c14
      exact hJ29 _ _ _ hP hD hS (lv_sub hl [0, 1] rfl)
    ·
      have cc16 : z1.toInt < r8.toInt := i32_nle c14
      have hb17 : In z1 0 519 := In.lt1 hb5 eL12R cc16 (by omega) (by omega)
      have hb18 : In r8 1 520 := In.lt2 hb5 eL12R cc16 (by omega) (by omega)
      refine lv_aload_n hx hb dX8_digitAt_12 rfl (lv_at hl 0 rfl) ?_
      refine pl_get (v := .ref (ad 2)) hx hb hts (fun w h => mT (inX8 w h)) hown hG.1 hP (hst.1 1 (by decide)) hf7 rfl 0 (by decide) (hts _ (mT wg_195)) (fun _ h => h) rfl dX8_digitAt_13 ?_
      refine lv_aload_n hx hb dX8_digitAt_16 rfl (lv_at hl 0 rfl) ?_
      refine pl_get (v := .int v2_6) hx hb hts (fun w h => mT (inX8 w h)) hown hG.1 hP (hst.1 1 (by decide)) hf7 rfl 2 (by decide) (hts _ (mT wg_201)) (fun _ h => h) rfl dX8_digitAt_17 ?_
      refine lv_iload_n hx hb dX8_digitAt_20 rfl (lv_at hl 1 rfl) ?_
      refine lv_iadd hx hb dX8_digitAt_21 ?_
      refine lv_topi (fun x19 ex19 => ?_)
      have hb20 : In x19 0 1039 := ex19 ▸ In.add hv2_6 hb17 (by decide) (by decide) (by decide) (by decide)
      have et21 : x19.toInt = v2_6.toInt + z1.toInt := In.add2e ex19 hv2_6 hb17 (by decide) (by decide)
      obtain ⟨rw22, hf23, hc24⟩ := hT.1 2 (by decide)
      have hin25 : vp_in x19 520 := vp_of (by obtain ⟨o0a, o0b⟩ := (hb20 : In _ _ _); obtain ⟨o1a, o1b⟩ := (hv2_6 : In _ _ _); obtain ⟨o2a, o2b⟩ := (hb17 : In _ _ _); obtain ⟨o3a, o3b⟩ := (hb18 : In _ _ _); obtain ⟨o4a, o4b⟩ := (hv3_6 : In _ _ _); omega) (by obtain ⟨o0a, o0b⟩ := (hb20 : In _ _ _); obtain ⟨o1a, o1b⟩ := (hv2_6 : In _ _ _); obtain ⟨o2a, o2b⟩ := (hb17 : In _ _ _); obtain ⟨o3a, o3b⟩ := (hb18 : In _ _ _); obtain ⟨o4a, o4b⟩ := (hv3_6 : In _ _ _); omega)
      refine pl_iald hx hb hG.1 hP (hst.1 2 (by decide)) 0 hf23 rfl hin25 dX8_digitAt_22 ?_
      refine lv_topi (fun x26 ex26 => ?_)
      have hb27 : In x26 0 65535 := by rw [ex26]; exact hc24 _ (vp_nat hin25)
      refine lv_bipush (v := 48) hx hb dX8_digitAt_23 (by decide) ?_
      refine lv_isub hx hb dX8_digitAt_25 ?_
      refine lv_topi (fun x28 ex28 => ?_)
      have hb29 : In x28 (-48) 65487 := ex28 ▸ In.sub hb27 (⟨by decide, by decide⟩ : In 48 48 48) (by decide) (by decide) (by decide) (by decide)
      have et30 : x28.toInt = x26.toInt + (-48) := In.sube ex28 hb27 (k := 48) (by decide) (by decide) (by decide)
      refine lv_goto (tgt := 30) hx hb dX8_digitAt_26 (by decide) ?_
      exact ret_i (ty := .int) hx hb hr hlocks (rfl) hP hD hS (Nat.le_of_ble_eq_true rfl) (Nat.le_of_ble_eq_true rfl) (⟨rfl, rfl, (In.mono hb29 (by decide) (by decide))⟩) dX8_digitAt_30

abbrev rm_X8_number : Room := { frames := 2, cells := 0, slots := 0, locals := 41 }
abbrev po_X8_number (g : GG) (ad : Nat → Nat) (th : Nat → Int) (L : List Nat) (f : HP) (z1 : Int32) (z2 : Int32) : Int32 → (List Nat × HP) → Prop := fun _ u => u.1 = L ∧ u.2 = f
set_option maxHeartbeats 4000000 in
set_option maxRecDepth 100000 in
theorem s_X8_number (l : Launch) (g : GG) (ad : Nat → Nat) (th : Nat → Int) (L : List Nat) (f : HP) (sz : Nat) (z1 : Int32) (z2 : Int32) (hst : ST ad L) (hT : TI g ad th f)  : MtI l g yX8_number cX8_number 4 (some .int) rm_X8_number [.ref (ad 1), .int z1, .int z2] L f sz (po_X8_number g ad th L f z1 z2) := by
  refine MtI.of (by decide +kernel) (Nat.le_of_ble_eq_true rfl) ?_
  intro p e s m below meth c A hEn hP hD hS ls hl
  obtain ⟨hx, hb, hr, hml, hown, hlocks, hts, hG, hA, hE, hnm⟩ := hEn
  have hown : s.vm.findClass "RulerWord$Tape" = some m.cls := hown
  have hl : lv_has ls 4 [(0, .ref (ad 1)), (1, .int z1), (2, .int z2)] := hl
  refine lv_aload_n hx hb dX8_number_0 rfl (lv_at hl 0 rfl) ?_
  obtain ⟨v1_1, v2_1, v3_1, v4_1, hf2, hv1_1, hv2_1, hv3_1, hv4_1⟩ := hT.1 1 (by decide)
  refine call_i (run_V (rm := rm_X8_digits) hx hb hml hown hts (s_X8_digits l g ad th _ _ _  hst hT ) cV_X8_digits wg_651 ⟨Nat.le_of_ble_eq_true rfl, Nat.le_of_ble_eq_true rfl⟩ hG hE hA hP hD hS (hst.1 1 (by decide)) hf2 rfl rfl hl.1 (As := []) (rest := []) rfl (Nat.le_of_ble_eq_true rfl) dX8_number_1 ⟨Nat.le_of_ble_eq_true rfl, Nat.le_of_ble_eq_true rfl⟩) hA hD hS (fun r3 L4 f5 H locs hp6 hP hD hS => ?_)
  obtain ⟨eL7L, eL7T, eL7R, eL7X0⟩ := hp6
  have eL7L : L4 = L := eL7L
  have eL7T : f5 = f := eL7T
  rw [eL7L, eL7T] at hP hD
  have eL7R : In r3 (-520) 520 := eL7R
  have hd8 : (v4_1.toInt = 3 ∧ r3.toInt = v3_1.toInt - v2_1.toInt) ∨ (v4_1.toInt ≠ 3 ∧ r3.toInt = 0) := eL7X0 _ _ _ _ hf2
  refine lv_iconst (v := 1) hx hb dX8_number_4 (by decide) ?_
  have hJ17 : ∀ (y17_s0 : Int32) (H : Heap) (locs : List Loc) (ls : Array Slot), In y17_s0 (-49) 65487 → va_P g.1 vwCl (va_pl L f) H → va_D A (va_pl L f) → va_S A s.heap H locs → lv_has ls 4 [(0, .ref (ad 1)), (1, .int z1), (2, .int z2)] → W p l e rm_X8_number s m [.ref (ad 1), .int z1, .int z2].toArray below meth c H locs 0 0 (MQ below (va_Qi (po_X8_number g ad th L f z1 z2) (PstB g A) A) [.ref (ad 1), .int z1, .int z2].toArray s rm_X8_number.cells rm_X8_number.slots A) (F0 m 17 ls [.int y17_s0]) := by
    intro y17_s0 H locs ls hy17_s0 hP hD hS hl
    refine lv_istore_n (lv' := [(3, .int y17_s0), (0, .ref (ad 1)), (1, .int z1), (2, .int z2)]) hx hb dX8_number_17 rfl hl (by decide) rfl (fun ls hl => ?_)
    refine lv_iload_n hx hb dX8_number_18 rfl (lv_at hl 0 rfl) ?_
    refine lv_iload_n hx hb dX8_number_19 rfl (lv_at hl 2 rfl) ?_
    have hJ28 : ∀ (H : Heap) (locs : List Loc) (ls : Array Slot), va_P g.1 vwCl (va_pl L f) H → va_D A (va_pl L f) → va_S A s.heap H locs → lv_has ls 4 [(0, .ref (ad 1)), (1, .int z1), (2, .int z2), (3, .int y17_s0)] → W p l e rm_X8_number s m [.ref (ad 1), .int z1, .int z2].toArray below meth c H locs 0 0 (MQ below (va_Qi (po_X8_number g ad th L f z1 z2) (PstB g A) A) [.ref (ad 1), .int z1, .int z2].toArray s rm_X8_number.cells rm_X8_number.slots A) (F0 m 28 ls []) := by
      intro H locs ls hP hD hS hl
      refine lv_iconst (v := (-1)) hx hb dX8_number_28 (by decide) ?_
      refine lv_goto (tgt := 33) hx hb dX8_number_29 (by decide) ?_
      exact ret_i (ty := .int) hx hb hr hlocks (rfl) hP hD hS (Nat.le_of_ble_eq_true rfl) (Nat.le_of_ble_eq_true rfl) (⟨rfl, rfl⟩) dX8_number_33
    refine lv_icmp_lt (tgt := 28) hx hb dX8_number_20 (by decide) (fun c9 => ?_) (fun c9 => ?_)
    ·
      have cc10 : y17_s0.toInt < z1.toInt := i32_lt.mp c9
      have hb11 : In z1 (-48) 2147483647 := In.lt2 hy17_s0 (In.full z1) cc10 (by omega) (by omega)
      exact hJ28 _ _ _ hP hD hS (lv_sub hl [1, 2, 3, 0] rfl)
    ·
      have cc12 : z1.toInt ≤ y17_s0.toInt := i32_nlt c9
      have hb13 : In z1 (-2147483648) 65487 := In.ge2 hy17_s0 (In.full z1) cc12 (by omega) (by omega)
      refine lv_iload_n hx hb dX8_number_23 rfl (lv_at hl 0 rfl) ?_
      refine lv_iload_n hx hb dX8_number_24 rfl (lv_at hl 3 rfl) ?_
      refine lv_icmp_le (tgt := 32) hx hb dX8_number_25 (by decide) (fun c14 => ?_) (fun c14 => ?_)
      ·
        have cc15 : y17_s0.toInt ≤ z2.toInt := i32_le.mp c14
        have hb16 : In z2 (-49) 2147483647 := In.le2 hy17_s0 (In.full z2) cc15 (by omega) (by omega)
        refine lv_iload_n hx hb dX8_number_32 rfl (lv_at hl 0 rfl) ?_
        exact ret_i (ty := .int) hx hb hr hlocks (rfl) hP hD hS (Nat.le_of_ble_eq_true rfl) (Nat.le_of_ble_eq_true rfl) (⟨rfl, rfl⟩) dX8_number_33
      ·
        have cc17 : z2.toInt < y17_s0.toInt := i32_nle c14
        have hb18 : In z2 (-2147483648) 65486 := In.gt2 hy17_s0 (In.full z2) cc17 (by omega) (by omega)
        exact hJ28 _ _ _ hP hD hS (lv_sub hl [1, 2, 3, 0] rfl)
  refine lv_icmp_ne (tgt := 16) hx hb dX8_number_5 (by decide) (fun c19 => ?_) (fun c19 => ?_)
  ·
    refine lv_iconst (v := (-1)) hx hb dX8_number_16 (by decide) ?_
    exact hJ17 (-1) _ _ _ (⟨by decide, by decide⟩ : In (-1) (-49) 65487) hP hD hS (lv_sub hl [0, 1, 2] rfl)
  ·
    have cc20 : r3.toInt = (1 : Int32).toInt := congrArg Int32.toInt c19
    have hb21 : In r3 1 1 := In.eq1 eL7R (⟨by decide, by decide⟩ : In 1 1 1) cc20 (by omega) (by omega)
    refine lv_aload_n hx hb dX8_number_8 rfl (lv_at hl 0 rfl) ?_
    refine lv_iconst (v := 0) hx hb dX8_number_9 (by decide) ?_
    refine call_i (run_V (rm := rm_X8_digitAt) hx hb hml hown hts (s_X8_digitAt l g ad th _ _ _ 0 hst hT ) cV_X8_digitAt wg_655 ⟨Nat.le_of_ble_eq_true rfl, Nat.le_of_ble_eq_true rfl⟩ hG hE hA hP hD hS (hst.1 1 (by decide)) hf2 rfl rfl hl.1 (As := [.int 0]) (rest := []) rfl (Nat.le_of_ble_eq_true rfl) dX8_number_10 ⟨Nat.le_of_ble_eq_true rfl, Nat.le_of_ble_eq_true rfl⟩) hA hD hS (fun r22 L23 f24 H locs hp25 hP hD hS => ?_)
    obtain ⟨eL26L, eL26T, eL26R⟩ := hp25
    have eL26L : L23 = L := eL26L
    have eL26T : f24 = f := eL26T
    rw [eL26L, eL26T] at hP hD
    have eL26R : In r22 (-49) 65487 := eL26R
    refine lv_goto (tgt := 17) hx hb dX8_number_13 (by decide) ?_
    exact hJ17 r22 _ _ _ eL26R hP hD hS (lv_sub hl [0, 1, 2] rfl)

abbrev rm_X8_add_x : Room := { frames := 0, cells := 0, slots := 0, locals := 0 }
abbrev po_X8_add_x (g : GG) (ad : Nat → Nat) (th : Nat → Int) (L : List Nat) (f : HP) (z1 : Int32) : (List Nat × HP) → Prop := fun u => u.1 = L ∧ TI g ad th u.2 ∧ (∀ b, b ≠ (ad 3) → b ≠ (ad 4) → u.2 b = f b)
set_option maxHeartbeats 4000000 in
set_option maxRecDepth 100000 in
theorem s_X8_add_x (l : Launch) (g : GG) (ad : Nat → Nat) (th : Nat → Int) (L : List Nat) (f : HP) (sz : Nat) (z1 : Int32) (hst : ST ad L) (hT : TI g ad th f)  : MtV l g yX8_add cX8_add 2 rm_X8_add_x [.ref (ad 3), .int z1] L f sz (po_X8_add_x g ad th L f z1) := by
  refine MtV.of (by decide +kernel) (Nat.le_of_ble_eq_true rfl) ?_
  intro p e s m below meth c A hEn hP hD hS ls hl
  obtain ⟨hx, hb, hr, hml, hown, hlocks, hts, hG, hA, hE, hnm⟩ := hEn
  have hown : s.vm.findClass "RulerWord$Tape" = some m.cls := hown
  have hl : lv_has ls 2 [(0, .ref (ad 3)), (1, .int z1)] := hl
  have hfr : (∀ b, b ≠ (ad 3) → b ≠ (ad 4) → f b = f b) := fun b z0_ z1_ => rfl
  refine lv_aload_n hx hb dX8_add_0 rfl (lv_at hl 0 rfl) ?_
  obtain ⟨v1_1, v2_1, v3_1, v4_1, hf2, hv1_1, hv2_1, hv3_1, hv4_1⟩ := hT.1 3 (by decide)
  refine pl_get (v := .int v1_1) hx hb hts (fun w h => mT (inX8 w h)) hown hG.1 hP (hst.1 3 (by decide)) hf2 rfl 1 (by decide) (hts _ (mT wg_198)) (fun _ h => h) rfl dX8_add_1 ?_
  refine lv_aload_n hx hb dX8_add_4 rfl (lv_at hl 0 rfl) ?_
  refine pl_get (v := .ref (ad 4)) hx hb hts (fun w h => mT (inX8 w h)) hown hG.1 hP (hst.1 3 (by decide)) hf2 rfl 0 (by decide) (hts _ (mT wg_195)) (fun _ h => h) rfl dX8_add_5 ?_
  obtain ⟨rw3, hf4⟩ := hT.1 4 (by decide)
  refine pl_alen (v := 520) hx hb hG.1 hP (hst.1 4 (by decide)) 0 hf4 rfl (rfl) dX8_add_8 ?_
  refine lv_icmp_ge (tgt := 32) hx hb dX8_add_9 (by decide) (fun c5 => ?_) (fun c5 => ?_)
  ·
    have cc6 : (520 : Int32).toInt ≤ v1_1.toInt := i32_le.mp c5
    have hb7 : In v1_1 520 520 := In.ge1 hv1_1 (⟨by decide, by decide⟩ : In 520 520 520) cc6 (by omega) (by omega)
    exact ret_v hx hb hr hlocks hP hD hS (Nat.le_of_ble_eq_true rfl) (Nat.le_of_ble_eq_true rfl) (⟨rfl, hT, hfr⟩) dX8_add_32
  ·
    have cc8 : v1_1.toInt < (520 : Int32).toInt := i32_nle c5
    have hb9 : In v1_1 0 519 := In.lt1 hv1_1 (⟨by decide, by decide⟩ : In 520 520 520) cc8 (by omega) (by omega)
    refine lv_aload_n hx hb dX8_add_12 rfl (lv_at hl 0 rfl) ?_
    refine pl_get (v := .ref (ad 4)) hx hb hts (fun w h => mT (inX8 w h)) hown hG.1 hP (hst.1 3 (by decide)) hf2 rfl 0 (by decide) (hts _ (mT wg_195)) (fun _ h => h) rfl dX8_add_13 ?_
    refine lv_aload_n hx hb dX8_add_16 rfl (lv_at hl 0 rfl) ?_
    refine pl_get (v := .int v1_1) hx hb hts (fun w h => mT (inX8 w h)) hown hG.1 hP (hst.1 3 (by decide)) hf2 rfl 1 (by decide) (hts _ (mT wg_198)) (fun _ h => h) rfl dX8_add_17 ?_
    refine lv_iload_n hx hb dX8_add_20 rfl (lv_at hl 1 rfl) ?_
    refine pl_iastE hx hb hG.1 hP hD hS (hst.1 4 (by decide)) 0 hf4 rfl (In.inb hb9 (by decide) (by decide)) dX8_add_21 (fun H locs f10 r13 er13 hf11 ho12 hP hD hS => ?_)
    have hf14 := (ho12 (ad 3) (hst.ne (by decide) (by decide) (by decide))).trans hf2
    have hfr : (∀ b, b ≠ (ad 3) → b ≠ (ad 4) → f10 b = f b) := fun b z0_ z1_ => (ho12 b z1_).trans (hfr b z0_ z1_)
    refine lv_aload_n hx hb dX8_add_22 rfl (lv_at hl 0 rfl) ?_
    refine lv_dup hx hb dX8_add_23 rfl ?_
    refine pl_get (v := .int v1_1) hx hb hts (fun w h => mT (inX8 w h)) hown hG.1 hP (hst.1 3 (by decide)) hf14 rfl 1 (by decide) (hts _ (mT wg_198)) (fun _ h => h) rfl dX8_add_24 ?_
    refine lv_iconst (v := 1) hx hb dX8_add_27 (by decide) ?_
    refine lv_iadd hx hb dX8_add_28 ?_
    refine lv_topi (fun x15 ex15 => ?_)
    have hb16 : In x15 1 520 := ex15 ▸ In.add hb9 (⟨by decide, by decide⟩ : In 1 1 1) (by decide) (by decide) (by decide) (by decide)
    have et17 : x15.toInt = v1_1.toInt + 1 := In.adde ex15 hb9 (k := 1) (by decide) (by decide) (by decide)
    have hT := TI.updA hT hst (k := 4) (by decide) hf11 ho12 ⟨r13, rfl⟩
    refine pl_put (ty := .int) (v := .int x15) (fs' := [.ref (ad 4), .int x15, .int v2_1, .int v3_1, .int v4_1]) hx hb hts (fun w h => mT (inX8 w h)) tyX8 tyX8_ok nmX8 hown hG.1 hP hD hS (hst.1 3 (by decide)) hf14 rfl 1 (by decide) (hts _ (mT wg_198)) (fun _ h => h) rfl (by decide +kernel) (rfl) (rfl) (Nat.le_of_ble_eq_true rfl) rfl dX8_add_29 (fun H locs f18 hf19 ho20 hP hD hS => ?_)
    have hf21 := (ho20 (ad 4) (hst.ne (by decide) (by decide) (by decide))).trans hf11
    have hfr : (∀ b, b ≠ (ad 3) → b ≠ (ad 4) → f18 b = f b) := fun b z0_ z1_ => (ho20 b z0_).trans (hfr b z0_ z1_)
    have hT := TI.updA hT hst (k := 3) (by decide) hf19 ho20 ⟨x15, v2_1, v3_1, v4_1, rfl, (In.mono hb16 (by decide) (by decide)), hv2_1, hv3_1, hv4_1⟩
    exact ret_v hx hb hr hlocks hP hD hS (Nat.le_of_ble_eq_true rfl) (Nat.le_of_ble_eq_true rfl) (⟨rfl, hT, hfr⟩) dX8_add_32

abbrev rm_X8_write : Room := { frames := 4, cells := 0, slots := 0, locals := 85 }
abbrev po_X8_write (g : GG) (ad : Nat → Nat) (th : Nat → Int) (L : List Nat) (f : HP) (z1 : Nat) : (List Nat × HP) → Prop := fun u => u.1 = L ∧ TI g ad th u.2 ∧ (∀ b, b ≠ (ad 3) → b ≠ (ad 4) → u.2 b = f b)
set_option maxHeartbeats 4000000 in
set_option maxRecDepth 100000 in
theorem s_X8_write (l : Launch) (g : GG) (ad : Nat → Nat) (th : Nat → Int) (L : List Nat) (f : HP) (sz : Nat) (z1 : Nat) (hst : ST ad L) (hT : TI g ad th f) (hi_z1 : z1 < nS) : MtV l g yX8_write cX8_write 3 rm_X8_write [.ref (ad 3), .ref (g.2.2.1 z1)] L f sz (po_X8_write g ad th L f z1) := by
  refine MtV.of (by decide +kernel) (Nat.le_of_ble_eq_true rfl) ?_
  intro p e s m below meth c A hEn hP hD hS ls hl
  obtain ⟨hx, hb, hr, hml, hown, hlocks, hts, hG, hA, hE, hnm⟩ := hEn
  have hown : s.vm.findClass "RulerWord$Tape" = some m.cls := hown
  have hl : lv_has ls 3 [(0, .ref (ad 3)), (1, .ref (g.2.2.1 z1))] := hl
  have hfr : (∀ b, b ≠ (ad 3) → b ≠ (ad 4) → f b = f b) := fun b z0_ z1_ => rfl
  refine lv_iconst (v := 0) hx hb dX8_write_0 (by decide) ?_
  refine lv_istore_n (lv' := [(2, .int 0), (0, .ref (ad 3)), (1, .ref (g.2.2.1 z1))]) hx hb dX8_write_1 rfl hl (by decide) rfl (fun ls hl => ?_)
  have hJ2 : ∀ (k2 : Nat) (y2_l2 : Int32) (f_2 : HP) (H : Heap) (locs : List Loc) (ls : Array Slot), In y2_l2 0 7 → va_P g.1 vwCl (va_pl L f_2) H → va_D A (va_pl L f_2) → va_S A s.heap H locs → TI g ad th f_2 → (∀ b, b ≠ (ad 3) → b ≠ (ad 4) → f_2 b = f b) → lv_has ls 3 [(0, .ref (ad 3)), (1, .ref (g.2.2.1 z1)), (2, .int y2_l2)] → 7 - y2_l2.toInt < ((k2 : Nat) : Int) → W p l e rm_X8_write s m [.ref (ad 3), .ref (g.2.2.1 z1)].toArray below meth c H locs 0 0 (MQ below (va_Qv (po_X8_write g ad th L f z1) (PstB g A) A) [.ref (ad 3), .ref (g.2.2.1 z1)].toArray s rm_X8_write.cells rm_X8_write.slots A) (F0 m 2 ls []) := by
    intro k2
    induction k2 with
    | zero =>
      intro y2_l2 f_2 H locs ls hy2_l2 hP hD hS hT hfr hl hmz2
      exact ms0 hy2_l2 hmz2
    | succ k2 ih2 =>
      intro y2_l2 f_2 H locs ls hy2_l2 hP hD hS hT hfr hl hmz2
      refine lv_iload_n hx hb dX8_write_2 rfl (lv_at hl 2 rfl) ?_
      refine lv_aload_n hx hb dX8_write_3 rfl (lv_at hl 1 rfl) ?_
      refine call_i (run_VJ (rm := rm_J0_length) hx hb hml hown hts (i := z1) (hi_z1) (s_J0_length l g _ _ _ z1  hi_z1) cV_J0_length_8abf5 wg_574 rfl ⟨Nat.le_of_ble_eq_true rfl, Nat.le_of_ble_eq_true rfl⟩ hG hE hA hP hD hS rfl hl.1 (As := []) (rest := [.int y2_l2]) rfl (Nat.le_of_ble_eq_true rfl) dX8_write_4 ⟨Nat.le_of_ble_eq_true rfl, Nat.le_of_ble_eq_true rfl⟩) hA hD hS (fun r1 L2 f3 H locs hp4 hP hD hS => ?_)
      have eL5 : L2 = L := hp4.1
      have eL5f : f3 = f_2 := hp4.2.1
      rw [eL5, eL5f] at hP hD
      have hb6 : In r1 0 7 := hp4.2.2.1
      have hle7 : r1.toInt = ((lenS.getD z1 0 : Nat) : Int) := hp4.2.2.2
      refine lv_icmp_ge (tgt := 25) hx hb dX8_write_7 (by decide) (fun c8 => ?_) (fun c8 => ?_)
      ·
        exact ret_v hx hb hr hlocks hP hD hS (Nat.le_of_ble_eq_true rfl) (Nat.le_of_ble_eq_true rfl) (⟨rfl, hT, hfr⟩) dX8_write_25
      ·
        have cc9 : y2_l2.toInt < r1.toInt := i32_nle c8
        have hb10 : In y2_l2 0 6 := In.lt1 hy2_l2 hb6 cc9 (by omega) (by omega)
        have hb11 : In r1 1 7 := In.lt2 hy2_l2 hb6 cc9 (by omega) (by omega)
        refine lv_aload_n hx hb dX8_write_10 rfl (lv_at hl 0 rfl) ?_
        refine lv_aload_n hx hb dX8_write_11 rfl (lv_at hl 1 rfl) ?_
        refine lv_iload_n hx hb dX8_write_12 rfl (lv_at hl 2 rfl) ?_
        refine call_i (run_VJ (rm := rm_J0_charAt) hx hb hml hown hts (i := z1) (hi_z1) (s_J0_charAt l g _ _ _ z1 y2_l2 hi_z1 (Int.le_trans (by decide) hb10.1) (by have q1 := cc9; have q2 := hle7; omega)) cV_J0_charAt_5068e wg_584 rfl ⟨Nat.le_of_ble_eq_true rfl, Nat.le_of_ble_eq_true rfl⟩ hG hE hA hP hD hS rfl hl.1 (As := [.int y2_l2]) (rest := [.ref (ad 3)]) rfl (Nat.le_of_ble_eq_true rfl) dX8_write_13 ⟨Nat.le_of_ble_eq_true rfl, Nat.le_of_ble_eq_true rfl⟩) hA hD hS (fun r12 L13 f14 H locs hp15 hP hD hS => ?_)
        have eL16 : L13 = L := hp15.1
        have eL16f : f14 = f_2 := hp15.2.1
        rw [eL16, eL16f] at hP hD
        have hb17 : In r12 0 65535 := hp15.2.2
        obtain ⟨v1_18, v2_18, v3_18, v4_18, hf19, hv1_18, hv2_18, hv3_18, hv4_18⟩ := hT.1 3 (by decide)
        refine call_v (run_V (rm := rm_X8_add_x) hx hb hml hown hts (s_X8_add_x l g ad th _ _ _ r12 hst hT ) cV_X8_add wg_538 ⟨Nat.le_of_ble_eq_true rfl, Nat.le_of_ble_eq_true rfl⟩ hG hE hA hP hD hS (hst.1 3 (by decide)) hf19 rfl rfl hl.1 (As := [.int r12]) (rest := []) rfl (Nat.le_of_ble_eq_true rfl) dX8_write_16 ⟨Nat.le_of_ble_eq_true rfl, Nat.le_of_ble_eq_true rfl⟩) hA hD hS (fun L21 f22 H locs hp23 hP hD hS => ?_)
        obtain ⟨eL24L, eL24T, eL24F⟩ := hp23
        have eL24L : L21 = L := eL24L
        rw [eL24L] at hP hD
        have hT : TI g ad th f22 := eL24T
        have eL24F : ∀ b, b ≠ (ad 3) → b ≠ (ad 4) → f22 b = f_2 b := eL24F
        have hfr : (∀ b, b ≠ (ad 3) → b ≠ (ad 4) → f22 b = f b) := fun b z0_ z1_ => (eL24F b z0_ z1_).trans (hfr b z0_ z1_)
        obtain ⟨x25, ex25⟩ : ∃ y : Int32, y = y2_l2 + 1 := ⟨_, rfl⟩
        have hb26 : In x25 1 7 := ex25 ▸ In.add hb10 (⟨by decide, by decide⟩ : In 1 1 1) (by decide) (by decide) (by decide) (by decide)
        have et27 : x25.toInt = y2_l2.toInt + 1 := In.adde ex25 hb10 (k := 1) (by decide) (by decide) (by decide)
        refine lv_iinc (v := x25) (lv' := [(2, .int x25), (0, .ref (ad 3)), (1, .ref (g.2.2.1 z1))]) hx hb dX8_write_19 hl (k := 2) rfl (by rw [ex25]; rfl) (by decide) rfl (fun ls hl => ?_)
        refine lv_goto (tgt := 2) hx hb dX8_write_22 (by decide) ?_
        exact ih2 x25 _ _ _ _ (In.mono hb26 (by decide) (by decide)) hP hD hS hT hfr (lv_sub hl [1, 2, 0] rfl) (msu et27 (by decide) hmz2)
  exact hJ2 ((7 - (0 : Int32).toInt).toNat + 1) 0 _ _ _ _ (⟨by decide, by decide⟩ : In 0 0 7) hP hD hS hT hfr (lv_sub hl [1, 2, 0] rfl) (msI _)

abbrev rm_X8_writeNumber : Room := { frames := 5, cells := 0, slots := 0, locals := 107 }
abbrev po_X8_writeNumber (g : GG) (ad : Nat → Nat) (th : Nat → Int) (L : List Nat) (f : HP) (z1 : Nat) (z2 : Int32) : (List Nat × HP) → Prop := fun u => u.1 = L ∧ TI g ad th u.2 ∧ (∀ b, b ≠ (ad 3) → b ≠ (ad 4) → u.2 b = f b)
set_option maxHeartbeats 4000000 in
set_option maxRecDepth 100000 in
theorem s_X8_writeNumber (l : Launch) (g : GG) (ad : Nat → Nat) (th : Nat → Int) (L : List Nat) (f : HP) (sz : Nat) (z1 : Nat) (z2 : Int32) (hst : ST ad L) (hT : TI g ad th f) (hi_z1 : z1 < nS) : MtV l g yX8_writeNumber cX8_writeNumber 3 rm_X8_writeNumber [.ref (ad 3), .ref (g.2.2.1 z1), .int z2] L f sz (po_X8_writeNumber g ad th L f z1 z2) := by
  refine MtV.of (by decide +kernel) (Nat.le_of_ble_eq_true rfl) ?_
  intro p e s m below meth c A hEn hP hD hS ls hl
  obtain ⟨hx, hb, hr, hml, hown, hlocks, hts, hG, hA, hE, hnm⟩ := hEn
  have hown : s.vm.findClass "RulerWord$Tape" = some m.cls := hown
  have hl : lv_has ls 3 [(0, .ref (ad 3)), (1, .ref (g.2.2.1 z1)), (2, .int z2)] := hl
  have hfr : (∀ b, b ≠ (ad 3) → b ≠ (ad 4) → f b = f b) := fun b z0_ z1_ => rfl
  refine lv_aload_n hx hb dX8_writeNumber_0 rfl (lv_at hl 0 rfl) ?_
  refine lv_aload_n hx hb dX8_writeNumber_1 rfl (lv_at hl 1 rfl) ?_
  obtain ⟨v1_1, v2_1, v3_1, v4_1, hf2, hv1_1, hv2_1, hv3_1, hv4_1⟩ := hT.1 3 (by decide)
  refine call_v (run_V (rm := rm_X8_write) hx hb hml hown hts (s_X8_write l g ad th _ _ _ z1 hst hT hi_z1) cV_X8_write wg_1141 ⟨Nat.le_of_ble_eq_true rfl, Nat.le_of_ble_eq_true rfl⟩ hG hE hA hP hD hS (hst.1 3 (by decide)) hf2 rfl rfl hl.1 (As := [.ref (g.2.2.1 z1)]) (rest := []) rfl (Nat.le_of_ble_eq_true rfl) dX8_writeNumber_2 ⟨Nat.le_of_ble_eq_true rfl, Nat.le_of_ble_eq_true rfl⟩) hA hD hS (fun L4 f5 H locs hp6 hP hD hS => ?_)
  obtain ⟨eL7L, eL7T, eL7F⟩ := hp6
  have eL7L : L4 = L := eL7L
  rw [eL7L] at hP hD
  have hT : TI g ad th f5 := eL7T
  have eL7F : ∀ b, b ≠ (ad 3) → b ≠ (ad 4) → f5 b = f b := eL7F
  have hfr : (∀ b, b ≠ (ad 3) → b ≠ (ad 4) → f5 b = f b) := fun b z0_ z1_ => (eL7F b z0_ z1_).trans (hfr b z0_ z1_)
  refine lv_aload_n hx hb dX8_writeNumber_5 rfl (lv_at hl 0 rfl) ?_
  refine lv_bipush (v := 48) hx hb dX8_writeNumber_6 (by decide) ?_
  refine lv_iload_n hx hb dX8_writeNumber_8 rfl (lv_at hl 2 rfl) ?_
  refine lv_iadd hx hb dX8_writeNumber_9 ?_
  refine lv_topi (fun x8 ex8 => ?_)
  obtain ⟨v1_9, v2_9, v3_9, v4_9, hf10, hv1_9, hv2_9, hv3_9, hv4_9⟩ := hT.1 3 (by decide)
  refine call_v (run_V (rm := rm_X8_add_x) hx hb hml hown hts (s_X8_add_x l g ad th _ _ _ x8 hst hT ) cV_X8_add wg_538 ⟨Nat.le_of_ble_eq_true rfl, Nat.le_of_ble_eq_true rfl⟩ hG hE hA hP hD hS (hst.1 3 (by decide)) hf10 rfl rfl hl.1 (As := [.int x8]) (rest := []) rfl (Nat.le_of_ble_eq_true rfl) dX8_writeNumber_10 ⟨Nat.le_of_ble_eq_true rfl, Nat.le_of_ble_eq_true rfl⟩) hA hD hS (fun L12 f13 H locs hp14 hP hD hS => ?_)
  obtain ⟨eL15L, eL15T, eL15F⟩ := hp14
  have eL15L : L12 = L := eL15L
  rw [eL15L] at hP hD
  have hT : TI g ad th f13 := eL15T
  have eL15F : ∀ b, b ≠ (ad 3) → b ≠ (ad 4) → f13 b = f5 b := eL15F
  have hfr : (∀ b, b ≠ (ad 3) → b ≠ (ad 4) → f13 b = f b) := fun b z0_ z1_ => (eL15F b z0_ z1_).trans (hfr b z0_ z1_)
  exact ret_v hx hb hr hlocks hP hD hS (Nat.le_of_ble_eq_true rfl) (Nat.le_of_ble_eq_true rfl) (⟨rfl, hT, hfr⟩) dX8_writeNumber_13
