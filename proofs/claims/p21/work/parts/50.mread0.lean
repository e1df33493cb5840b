abbrev rm_X11_bytesOf : Room := { frames := 0, cells := 0, slots := 0, locals := 0 }
abbrev po_X11_bytesOf (g : GG) (ad : Nat → Nat) (th : Nat → Int) (L : List Nat) (f : HP) (z0 : Int32) : Int32 → (List Nat × HP) → Prop := fun r u => u.1 = L ∧ u.2 = f ∧ In r 0 4 ∧ r.toInt = nb z0
set_option maxHeartbeats 4000000 in
set_option maxRecDepth 100000 in
theorem s_X11_bytesOf (l : Launch) (g : GG) (ad : Nat → Nat) (th : Nat → Int) (L : List Nat) (f : HP) (sz : Nat) (z0 : Int32) (hst : ST ad L) (hT : TI g ad th f)  : MtI l g yX11_bytesOf cX11_bytesOf 3 (some .int) rm_X11_bytesOf [.int z0] L f sz (po_X11_bytesOf g ad th L f z0) := by
  refine MtI.of (by decide +kernel) (Nat.le_of_ble_eq_true rfl) ?_
  intro p e s m below meth c A hEn hP hD hS ls hl
  obtain ⟨hx, hb, hr, hml, hown, hlocks, hts, hG, hA, hE, hnm⟩ := hEn
  have hown : s.vm.findClass "RulerWordModel" = some m.cls := hown
  have hl : lv_has ls 3 [(0, .int z0)] := hl
  refine lv_iconst (v := 0) hx hb dX11_bytesOf_0 (by decide) ?_
  refine lv_istore_n (lv' := [(1, .int 0), (0, .int z0)]) hx hb dX11_bytesOf_1 rfl hl (by decide) rfl (fun ls hl => ?_)
  refine lv_iconst (v := 0) hx hb dX11_bytesOf_2 (by decide) ?_
  refine lv_istore_n (lv' := [(2, .int 0), (1, .int 0), (0, .int z0)]) hx hb dX11_bytesOf_3 rfl hl (by decide) rfl (fun ls hl => ?_)
  refine lv_iload_n hx hb dX11_bytesOf_4 rfl (lv_at hl 0 rfl) ?_
  refine lv_iconst (v := 4) hx hb dX11_bytesOf_5 (by decide) ?_
  refine lv_icmp_ge (tgt := 36) hx hb dX11_bytesOf_6 (by decide) (fun c1 => ?_) (fun c1 => ?_)
  ·
    have cc2 : (4 : Int32).toInt ≤ (0 : Int32).toInt := i32_le.mp c1
    exact In.empty (lo := 4) (hi := 0) (In.ge1 (⟨by decide, by decide⟩ : In 0 0 0) (⟨by decide, by decide⟩ : In 4 4 4) cc2 (by omega) (by omega)) (by decide)
  ·
    refine lv_iload_n hx hb dX11_bytesOf_9 rfl (lv_at hl 1 rfl) ?_
    refine lv_iload_n hx hb dX11_bytesOf_10 rfl (lv_at hl 2 rfl) ?_
    refine lv_bipush (v := 8) hx hb dX11_bytesOf_11 (by decide) ?_
    refine lv_iload_n hx hb dX11_bytesOf_13 rfl (lv_at hl 0 rfl) ?_
    refine lv_imul hx hb dX11_bytesOf_14 ?_
    refine lv_topi (fun x3 ex3 => ?_)
    obtain rfl : x3 = 0 := ex3.trans (by decide)
    refine lv_ishr hx hb dX11_bytesOf_15 ?_
    refine lv_topi (fun x4 ex4 => ?_)
    refine lv_sipush (v := 255) hx hb dX11_bytesOf_16 (by decide) ?_
    refine lv_iand hx hb dX11_bytesOf_19 ?_
    refine lv_topi (fun x5 ex5 => ?_)
    have hb6 : In x5 0 255 := ex5 ▸ In.andr (⟨by decide, by decide⟩ : In 255 255 255) (by decide)
    refine lv_if_ne (tgt := 27) hx hb dX11_bytesOf_20 (by decide) (fun c7 => ?_) (fun c7 => ?_)
    ·
      have cc8 : x5.toInt ≠ (0 : Int32).toInt := i32_ne c7
      have hb9 : In x5 1 255 := In.ne1 hb6 (⟨by decide, by decide⟩ : In 0 0 0) cc8 (by omega) (by omega)
      refine lv_iconst (v := 1) hx hb dX11_bytesOf_27 (by decide) ?_
      refine lv_iadd hx hb dX11_bytesOf_28 ?_
      refine lv_topi (fun x10 ex10 => ?_)
      obtain rfl : x10 = 1 := ex10.trans (by decide)
      refine lv_istore_n (lv' := [(1, .int 1), (2, .int 0), (0, .int z0)]) hx hb dX11_bytesOf_29 rfl hl (by decide) rfl (fun ls hl => ?_)
      refine lv_iinc (v := 1) (lv' := [(2, .int 1), (1, .int 1), (0, .int z0)]) hx hb dX11_bytesOf_30 hl (k := 1) rfl (by decide) (by decide) rfl (fun ls hl => ?_)
      refine lv_goto (tgt := 4) hx hb dX11_bytesOf_33 (by decide) ?_
      refine lv_iload_n hx hb dX11_bytesOf_4 rfl (lv_at hl 0 rfl) ?_
      refine lv_iconst (v := 4) hx hb dX11_bytesOf_5 (by decide) ?_
      refine lv_icmp_ge (tgt := 36) hx hb dX11_bytesOf_6 (by decide) (fun c11 => ?_) (fun c11 => ?_)
      ·
        have cc12 : (4 : Int32).toInt ≤ (1 : Int32).toInt := i32_le.mp c11
        exact In.empty (lo := 4) (hi := 1) (In.ge1 (⟨by decide, by decide⟩ : In 1 1 1) (⟨by decide, by decide⟩ : In 4 4 4) cc12 (by omega) (by omega)) (by decide)
      ·
        refine lv_iload_n hx hb dX11_bytesOf_9 rfl (lv_at hl 1 rfl) ?_
        refine lv_iload_n hx hb dX11_bytesOf_10 rfl (lv_at hl 2 rfl) ?_
        refine lv_bipush (v := 8) hx hb dX11_bytesOf_11 (by decide) ?_
        refine lv_iload_n hx hb dX11_bytesOf_13 rfl (lv_at hl 0 rfl) ?_
        refine lv_imul hx hb dX11_bytesOf_14 ?_
        refine lv_topi (fun x13 ex13 => ?_)
        obtain rfl : x13 = 8 := ex13.trans (by decide)
        refine lv_ishr hx hb dX11_bytesOf_15 ?_
        refine lv_topi (fun x14 ex14 => ?_)
        refine lv_sipush (v := 255) hx hb dX11_bytesOf_16 (by decide) ?_
        refine lv_iand hx hb dX11_bytesOf_19 ?_
        refine lv_topi (fun x15 ex15 => ?_)
        have hb16 : In x15 0 255 := ex15 ▸ In.andr (⟨by decide, by decide⟩ : In 255 255 255) (by decide)
        refine lv_if_ne (tgt := 27) hx hb dX11_bytesOf_20 (by decide) (fun c17 => ?_) (fun c17 => ?_)
        ·
          have cc18 : x15.toInt ≠ (0 : Int32).toInt := i32_ne c17
          have hb19 : In x15 1 255 := In.ne1 hb16 (⟨by decide, by decide⟩ : In 0 0 0) cc18 (by omega) (by omega)
          refine lv_iconst (v := 1) hx hb dX11_bytesOf_27 (by decide) ?_
          refine lv_iadd hx hb dX11_bytesOf_28 ?_
          refine lv_topi (fun x20 ex20 => ?_)
          obtain rfl : x20 = 2 := ex20.trans (by decide)
          refine lv_istore_n (lv' := [(1, .int 2), (2, .int 1), (0, .int z0)]) hx hb dX11_bytesOf_29 rfl hl (by decide) rfl (fun ls hl => ?_)
          refine lv_iinc (v := 2) (lv' := [(2, .int 2), (1, .int 2), (0, .int z0)]) hx hb dX11_bytesOf_30 hl (k := 1) rfl (by decide) (by decide) rfl (fun ls hl => ?_)
          refine lv_goto (tgt := 4) hx hb dX11_bytesOf_33 (by decide) ?_
          refine lv_iload_n hx hb dX11_bytesOf_4 rfl (lv_at hl 0 rfl) ?_
          refine lv_iconst (v := 4) hx hb dX11_bytesOf_5 (by decide) ?_
          refine lv_icmp_ge (tgt := 36) hx hb dX11_bytesOf_6 (by decide) (fun c21 => ?_) (fun c21 => ?_)
          ·
            have cc22 : (4 : Int32).toInt ≤ (2 : Int32).toInt := i32_le.mp c21
            exact In.empty (lo := 4) (hi := 2) (In.ge1 (⟨by decide, by decide⟩ : In 2 2 2) (⟨by decide, by decide⟩ : In 4 4 4) cc22 (by omega) (by omega)) (by decide)
          ·
            refine lv_iload_n hx hb dX11_bytesOf_9 rfl (lv_at hl 1 rfl) ?_
            refine lv_iload_n hx hb dX11_bytesOf_10 rfl (lv_at hl 2 rfl) ?_
            refine lv_bipush (v := 8) hx hb dX11_bytesOf_11 (by decide) ?_
            refine lv_iload_n hx hb dX11_bytesOf_13 rfl (lv_at hl 0 rfl) ?_
            refine lv_imul hx hb dX11_bytesOf_14 ?_
            refine lv_topi (fun x23 ex23 => ?_)
            obtain rfl : x23 = 16 := ex23.trans (by decide)
            refine lv_ishr hx hb dX11_bytesOf_15 ?_
            refine lv_topi (fun x24 ex24 => ?_)
            refine lv_sipush (v := 255) hx hb dX11_bytesOf_16 (by decide) ?_
            refine lv_iand hx hb dX11_bytesOf_19 ?_
            refine lv_topi (fun x25 ex25 => ?_)
            have hb26 : In x25 0 255 := ex25 ▸ In.andr (⟨by decide, by decide⟩ : In 255 255 255) (by decide)
            refine lv_if_ne (tgt := 27) hx hb dX11_bytesOf_20 (by decide) (fun c27 => ?_) (fun c27 => ?_)
            ·
              have cc28 : x25.toInt ≠ (0 : Int32).toInt := i32_ne c27
              have hb29 : In x25 1 255 := In.ne1 hb26 (⟨by decide, by decide⟩ : In 0 0 0) cc28 (by omega) (by omega)
              refine lv_iconst (v := 1) hx hb dX11_bytesOf_27 (by decide) ?_
              refine lv_iadd hx hb dX11_bytesOf_28 ?_
              refine lv_topi (fun x30 ex30 => ?_)
              obtain rfl : x30 = 3 := ex30.trans (by decide)
              refine lv_istore_n (lv' := [(1, .int 3), (2, .int 2), (0, .int z0)]) hx hb dX11_bytesOf_29 rfl hl (by decide) rfl (fun ls hl => ?_)
              refine lv_iinc (v := 3) (lv' := [(2, .int 3), (1, .int 3), (0, .int z0)]) hx hb dX11_bytesOf_30 hl (k := 1) rfl (by decide) (by decide) rfl (fun ls hl => ?_)
              refine lv_goto (tgt := 4) hx hb dX11_bytesOf_33 (by decide) ?_
              refine lv_iload_n hx hb dX11_bytesOf_4 rfl (lv_at hl 0 rfl) ?_
              refine lv_iconst (v := 4) hx hb dX11_bytesOf_5 (by decide) ?_
              refine lv_icmp_ge (tgt := 36) hx hb dX11_bytesOf_6 (by decide) (fun c31 => ?_) (fun c31 => ?_)
              ·
                have cc32 : (4 : Int32).toInt ≤ (3 : Int32).toInt := i32_le.mp c31
                exact In.empty (lo := 4) (hi := 3) (In.ge1 (⟨by decide, by decide⟩ : In 3 3 3) (⟨by decide, by decide⟩ : In 4 4 4) cc32 (by omega) (by omega)) (by decide)
              ·
                refine lv_iload_n hx hb dX11_bytesOf_9 rfl (lv_at hl 1 rfl) ?_
                refine lv_iload_n hx hb dX11_bytesOf_10 rfl (lv_at hl 2 rfl) ?_
                refine lv_bipush (v := 8) hx hb dX11_bytesOf_11 (by decide) ?_
                refine lv_iload_n hx hb dX11_bytesOf_13 rfl (lv_at hl 0 rfl) ?_
                refine lv_imul hx hb dX11_bytesOf_14 ?_
                refine lv_topi (fun x33 ex33 => ?_)
                obtain rfl : x33 = 24 := ex33.trans (by decide)
                refine lv_ishr hx hb dX11_bytesOf_15 ?_
                refine lv_topi (fun x34 ex34 => ?_)
                refine lv_sipush (v := 255) hx hb dX11_bytesOf_16 (by decide) ?_
                refine lv_iand hx hb dX11_bytesOf_19 ?_
                refine lv_topi (fun x35 ex35 => ?_)
                have hb36 : In x35 0 255 := ex35 ▸ In.andr (⟨by decide, by decide⟩ : In 255 255 255) (by decide)
                refine lv_if_ne (tgt := 27) hx hb dX11_bytesOf_20 (by decide) (fun c37 => ?_) (fun c37 => ?_)
                ·
                  have cc38 : x35.toInt ≠ (0 : Int32).toInt := i32_ne c37
                  have hb39 : In x35 1 255 := In.ne1 hb36 (⟨by decide, by decide⟩ : In 0 0 0) cc38 (by omega) (by omega)
                  refine lv_iconst (v := 1) hx hb dX11_bytesOf_27 (by decide) ?_
                  refine lv_iadd hx hb dX11_bytesOf_28 ?_
                  refine lv_topi (fun x40 ex40 => ?_)
                  obtain rfl : x40 = 4 := ex40.trans (by decide)
                  refine lv_istore_n (lv' := [(1, .int 4), (2, .int 3), (0, .int z0)]) hx hb dX11_bytesOf_29 rfl hl (by decide) rfl (fun ls hl => ?_)
                  refine lv_iinc (v := 4) (lv' := [(2, .int 4), (1, .int 4), (0, .int z0)]) hx hb dX11_bytesOf_30 hl (k := 1) rfl (by decide) (by decide) rfl (fun ls hl => ?_)
                  refine lv_goto (tgt := 4) hx hb dX11_bytesOf_33 (by decide) ?_
                  refine lv_iload_n hx hb dX11_bytesOf_4 rfl (lv_at hl 0 rfl) ?_
                  refine lv_iconst (v := 4) hx hb dX11_bytesOf_5 (by decide) ?_
                  refine lv_icmp_ge (tgt := 36) hx hb dX11_bytesOf_6 (by decide) (fun c41 => ?_) (fun c41 => ?_)
                  ·
                    refine lv_iload_n hx hb dX11_bytesOf_36 rfl (lv_at hl 1 rfl) ?_
                    have hby42 : b1 z0 0 = 1 := b1_1 (by rw [show byS z0 0 = x5 by rw [ex5, ex4]; rfl]; exact c7)
                    have hby43 : b1 z0 8 = 1 := b1_1 (by rw [show byS z0 8 = x15 by rw [ex15, ex14]; rfl]; exact c17)
                    have hby44 : b1 z0 16 = 1 := b1_1 (by rw [show byS z0 16 = x25 by rw [ex25, ex24]; rfl]; exact c27)
                    have hby45 : b1 z0 24 = 1 := b1_1 (by rw [show byS z0 24 = x35 by rw [ex35, ex34]; rfl]; exact c37)
                    exact ret_i (ty := .int) hx hb hr hlocks (rfl) hP hD hS (Nat.le_of_ble_eq_true rfl) (Nat.le_of_ble_eq_true rfl) (⟨rfl, rfl, (⟨by decide, by decide⟩ : In 4 0 4), (by have e0 : (4 : Int32).toInt = 4 := (by decide); unfold nb; omega)⟩) dX11_bytesOf_37
                  ·
                    have cc46 : (4 : Int32).toInt < (4 : Int32).toInt := i32_nle c41
                    exact In.empty (lo := 4) (hi := 3) (In.lt1 (⟨by decide, by decide⟩ : In 4 4 4) (⟨by decide, by decide⟩ : In 4 4 4) cc46 (by omega) (by omega)) (by decide)
                ·
                  have cc47 : x35.toInt = (0 : Int32).toInt := congrArg Int32.toInt c37
                  have hb48 : In x35 0 0 := In.eq1 hb36 (⟨by decide, by decide⟩ : In 0 0 0) cc47 (by omega) (by omega)
                  refine lv_iconst (v := 0) hx hb dX11_bytesOf_23 (by decide) ?_
                  refine lv_goto (tgt := 28) hx hb dX11_bytesOf_24 (by decide) ?_
                  refine lv_iadd hx hb dX11_bytesOf_28 ?_
                  refine lv_topi (fun x49 ex49 => ?_)
                  obtain rfl : x49 = 3 := ex49.trans (by decide)
                  refine lv_istore_n (lv' := [(1, .int 3), (2, .int 3), (0, .int z0)]) hx hb dX11_bytesOf_29 rfl hl (by decide) rfl (fun ls hl => ?_)
                  refine lv_iinc (v := 4) (lv' := [(2, .int 4), (1, .int 3), (0, .int z0)]) hx hb dX11_bytesOf_30 hl (k := 1) rfl (by decide) (by decide) rfl (fun ls hl => ?_)
                  refine lv_goto (tgt := 4) hx hb dX11_bytesOf_33 (by decide) ?_
                  refine lv_iload_n hx hb dX11_bytesOf_4 rfl (lv_at hl 0 rfl) ?_
                  refine lv_iconst (v := 4) hx hb dX11_bytesOf_5 (by decide) ?_
                  refine lv_icmp_ge (tgt := 36) hx hb dX11_bytesOf_6 (by decide) (fun c50 => ?_) (fun c50 => ?_)
                  ·
                    refine lv_iload_n hx hb dX11_bytesOf_36 rfl (lv_at hl 1 rfl) ?_
                    have hby51 : b1 z0 0 = 1 := b1_1 (by rw [show byS z0 0 = x5 by rw [ex5, ex4]; rfl]; exact c7)
                    have hby52 : b1 z0 8 = 1 := b1_1 (by rw [show byS z0 8 = x15 by rw [ex15, ex14]; rfl]; exact c17)
                    have hby53 : b1 z0 16 = 1 := b1_1 (by rw [show byS z0 16 = x25 by rw [ex25, ex24]; rfl]; exact c27)
                    have hby54 : b1 z0 24 = 0 := b1_0 (by rw [show byS z0 24 = x35 by rw [ex35, ex34]; rfl]; exact c37)
                    exact ret_i (ty := .int) hx hb hr hlocks (rfl) hP hD hS (Nat.le_of_ble_eq_true rfl) (Nat.le_of_ble_eq_true rfl) (⟨rfl, rfl, (⟨by decide, by decide⟩ : In 3 0 4), (by have e0 : (3 : Int32).toInt = 3 := (by decide); unfold nb; omega)⟩) dX11_bytesOf_37
                  ·
                    have cc55 : (4 : Int32).toInt < (4 : Int32).toInt := i32_nle c50
                    exact In.empty (lo := 4) (hi := 3) (In.lt1 (⟨by decide, by decide⟩ : In 4 4 4) (⟨by decide, by decide⟩ : In 4 4 4) cc55 (by omega) (by omega)) (by decide)
            ·
              have cc56 : x25.toInt = (0 : Int32).toInt := congrArg Int32.toInt c27
              have hb57 : In x25 0 0 := In.eq1 hb26 (⟨by decide, by decide⟩ : In 0 0 0) cc56 (by omega) (by omega)
              refine lv_iconst (v := 0) hx hb dX11_bytesOf_23 (by decide) ?_
              refine lv_goto (tgt := 28) hx hb dX11_bytesOf_24 (by decide) ?_
              refine lv_iadd hx hb dX11_bytesOf_28 ?_
              refine lv_topi (fun x58 ex58 => ?_)
              obtain rfl : x58 = 2 := ex58.trans (by decide)
              refine lv_istore_n (lv' := [(1, .int 2), (2, .int 2), (0, .int z0)]) hx hb dX11_bytesOf_29 rfl hl (by decide) rfl (fun ls hl => ?_)
              refine lv_iinc (v := 3) (lv' := [(2, .int 3), (1, .int 2), (0, .int z0)]) hx hb dX11_bytesOf_30 hl (k := 1) rfl (by decide) (by decide) rfl (fun ls hl => ?_)
              refine lv_goto (tgt := 4) hx hb dX11_bytesOf_33 (by decide) ?_
              refine lv_iload_n hx hb dX11_bytesOf_4 rfl (lv_at hl 0 rfl) ?_
              refine lv_iconst (v := 4) hx hb dX11_bytesOf_5 (by decide) ?_
              refine lv_icmp_ge (tgt := 36) hx hb dX11_bytesOf_6 (by decide) (fun c59 => ?_) (fun c59 => ?_)
              ·
                have cc60 : (4 : Int32).toInt ≤ (3 : Int32).toInt := i32_le.mp c59
                exact In.empty (lo := 4) (hi := 3) (In.ge1 (⟨by decide, by decide⟩ : In 3 3 3) (⟨by decide, by decide⟩ : In 4 4 4) cc60 (by omega) (by omega)) (by decide)
              ·
                refine lv_iload_n hx hb dX11_bytesOf_9 rfl (lv_at hl 1 rfl) ?_
                refine lv_iload_n hx hb dX11_bytesOf_10 rfl (lv_at hl 2 rfl) ?_
                refine lv_bipush (v := 8) hx hb dX11_bytesOf_11 (by decide) ?_
                refine lv_iload_n hx hb dX11_bytesOf_13 rfl (lv_at hl 0 rfl) ?_
                refine lv_imul hx hb dX11_bytesOf_14 ?_
                refine lv_topi (fun x61 ex61 => ?_)
                obtain rfl : x61 = 24 := ex61.trans (by decide)
                refine lv_ishr hx hb dX11_bytesOf_15 ?_
                refine lv_topi (fun x62 ex62 => ?_)
                refine lv_sipush (v := 255) hx hb dX11_bytesOf_16 (by decide) ?_
                refine lv_iand hx hb dX11_bytesOf_19 ?_
                refine lv_topi (fun x63 ex63 => ?_)
                have hb64 : In x63 0 255 := ex63 ▸ In.andr (⟨by decide, by decide⟩ : In 255 255 255) (by decide)
                refine lv_if_ne (tgt := 27) hx hb dX11_bytesOf_20 (by decide) (fun c65 => ?_) (fun c65 => ?_)
                ·
                  have cc66 : x63.toInt ≠ (0 : Int32).toInt := i32_ne c65
                  have hb67 : In x63 1 255 := In.ne1 hb64 (⟨by decide, by decide⟩ : In 0 0 0) cc66 (by omega) (by omega)
                  refine lv_iconst (v := 1) hx hb dX11_bytesOf_27 (by decide) ?_
                  refine lv_iadd hx hb dX11_bytesOf_28 ?_
                  refine lv_topi (fun x68 ex68 => ?_)
                  obtain rfl : x68 = 3 := ex68.trans (by decide)
                  refine lv_istore_n (lv' := [(1, .int 3), (2, .int 3), (0, .int z0)]) hx hb dX11_bytesOf_29 rfl hl (by decide) rfl (fun ls hl => ?_)
                  refine lv_iinc (v := 4) (lv' := [(2, .int 4), (1, .int 3), (0, .int z0)]) hx hb dX11_bytesOf_30 hl (k := 1) rfl (by decide) (by decide) rfl (fun ls hl => ?_)
                  refine lv_goto (tgt := 4) hx hb dX11_bytesOf_33 (by decide) ?_
                  refine lv_iload_n hx hb dX11_bytesOf_4 rfl (lv_at hl 0 rfl) ?_
                  refine lv_iconst (v := 4) hx hb dX11_bytesOf_5 (by decide) ?_
                  refine lv_icmp_ge (tgt := 36) hx hb dX11_bytesOf_6 (by decide) (fun c69 => ?_) (fun c69 => ?_)
                  ·
                    refine lv_iload_n hx hb dX11_bytesOf_36 rfl (lv_at hl 1 rfl) ?_
                    have hby70 : b1 z0 0 = 1 := b1_1 (by rw [show byS z0 0 = x5 by rw [ex5, ex4]; rfl]; exact c7)
                    have hby71 : b1 z0 8 = 1 := b1_1 (by rw [show byS z0 8 = x15 by rw [ex15, ex14]; rfl]; exact c17)
                    have hby72 : b1 z0 16 = 0 := b1_0 (by rw [show byS z0 16 = x25 by rw [ex25, ex24]; rfl]; exact c27)
                    have hby73 : b1 z0 24 = 1 := b1_1 (by rw [show byS z0 24 = x63 by rw [ex63, ex62]; rfl]; exact c65)
                    exact ret_i (ty := .int) hx hb hr hlocks (rfl) hP hD hS (Nat.le_of_ble_eq_true rfl) (Nat.le_of_ble_eq_true rfl) (⟨rfl, rfl, (⟨by decide, by decide⟩ : In 3 0 4), (by have e0 : (3 : Int32).toInt = 3 := (by decide); unfold nb; omega)⟩) dX11_bytesOf_37
                  ·
                    have cc74 : (4 : Int32).toInt < (4 : Int32).toInt := i32_nle c69
                    exact In.empty (lo := 4) (hi := 3) (In.lt1 (⟨by decide, by decide⟩ : In 4 4 4) (⟨by decide, by decide⟩ : In 4 4 4) cc74 (by omega) (by omega)) (by decide)
                ·
                  have cc75 : x63.toInt = (0 : Int32).toInt := congrArg Int32.toInt c65
                  have hb76 : In x63 0 0 := In.eq1 hb64 (⟨by decide, by decide⟩ : In 0 0 0) cc75 (by omega) (by omega)
                  refine lv_iconst (v := 0) hx hb dX11_bytesOf_23 (by decide) ?_
                  refine lv_goto (tgt := 28) hx hb dX11_bytesOf_24 (by decide) ?_
                  refine lv_iadd hx hb dX11_bytesOf_28 ?_
                  refine lv_topi (fun x77 ex77 => ?_)
                  obtain rfl : x77 = 2 := ex77.trans (by decide)
                  refine lv_istore_n (lv' := [(1, .int 2), (2, .int 3), (0, .int z0)]) hx hb dX11_bytesOf_29 rfl hl (by decide) rfl (fun ls hl => ?_)
                  refine lv_iinc (v := 4) (lv' := [(2, .int 4), (1, .int 2), (0, .int z0)]) hx hb dX11_bytesOf_30 hl (k := 1) rfl (by decide) (by decide) rfl (fun ls hl => ?_)
                  refine lv_goto (tgt := 4) hx hb dX11_bytesOf_33 (by decide) ?_
                  refine lv_iload_n hx hb dX11_bytesOf_4 rfl (lv_at hl 0 rfl) ?_
                  refine lv_iconst (v := 4) hx hb dX11_bytesOf_5 (by decide) ?_
                  refine lv_icmp_ge (tgt := 36) hx hb dX11_bytesOf_6 (by decide) (fun c78 => ?_) (fun c78 => ?_)
                  ·
                    refine lv_iload_n hx hb dX11_bytesOf_36 rfl (lv_at hl 1 rfl) ?_
                    have hby79 : b1 z0 0 = 1 := b1_1 (by rw [show byS z0 0 = x5 by rw [ex5, ex4]; rfl]; exact c7)
                    have hby80 : b1 z0 8 = 1 := b1_1 (by rw [show byS z0 8 = x15 by rw [ex15, ex14]; rfl]; exact c17)
                    have hby81 : b1 z0 16 = 0 := b1_0 (by rw [show byS z0 16 = x25 by rw [ex25, ex24]; rfl]; exact c27)
                    have hby82 : b1 z0 24 = 0 := b1_0 (by rw [show byS z0 24 = x63 by rw [ex63, ex62]; rfl]; exact c65)
                    exact ret_i (ty := .int) hx hb hr hlocks (rfl) hP hD hS (Nat.le_of_ble_eq_true rfl) (Nat.le_of_ble_eq_true rfl) (⟨rfl, rfl, (⟨by decide, by decide⟩ : In 2 0 4), (by have e0 : (2 : Int32).toInt = 2 := (by decide); unfold nb; omega)⟩) dX11_bytesOf_37
                  ·
                    have cc83 : (4 : Int32).toInt < (4 : Int32).toInt := i32_nle c78
                    exact In.empty (lo := 4) (hi := 3) (In.lt1 (⟨by decide, by decide⟩ : In 4 4 4) (⟨by decide, by decide⟩ : In 4 4 4) cc83 (by omega) (by omega)) (by decide)
        ·
          have cc84 : x15.toInt = (0 : Int32).toInt := congrArg Int32.toInt c17
          have hb85 : In x15 0 0 := In.eq1 hb16 (⟨by decide, by decide⟩ : In 0 0 0) cc84 (by omega) (by omega)
          refine lv_iconst (v := 0) hx hb dX11_bytesOf_23 (by decide) ?_
          refine lv_goto (tgt := 28) hx hb dX11_bytesOf_24 (by decide) ?_
          refine lv_iadd hx hb dX11_bytesOf_28 ?_
          refine lv_topi (fun x86 ex86 => ?_)
          obtain rfl : x86 = 1 := ex86.trans (by decide)
          refine lv_istore_n (lv' := [(1, .int 1), (2, .int 1), (0, .int z0)]) hx hb dX11_bytesOf_29 rfl hl (by decide) rfl (fun ls hl => ?_)
          refine lv_iinc (v := 2) (lv' := [(2, .int 2), (1, .int 1), (0, .int z0)]) hx hb dX11_bytesOf_30 hl (k := 1) rfl (by decide) (by decide) rfl (fun ls hl => ?_)
          refine lv_goto (tgt := 4) hx hb dX11_bytesOf_33 (by decide) ?_
          refine lv_iload_n hx hb dX11_bytesOf_4 rfl (lv_at hl 0 rfl) ?_
          refine lv_iconst (v := 4) hx hb dX11_bytesOf_5 (by decide) ?_
          refine lv_icmp_ge (tgt := 36) hx hb dX11_bytesOf_6 (by decide) (fun c87 => ?_) (fun c87 => ?_)
          ·
            have cc88 : (4 : Int32).toInt ≤ (2 : Int32).toInt := i32_le.mp c87
            exact In.empty (lo := 4) (hi := 2) (In.ge1 (⟨by decide, by decide⟩ : In 2 2 2) (⟨by decide, by decide⟩ : In 4 4 4) cc88 (by omega) (by omega)) (by decide)
          ·
            refine lv_iload_n hx hb dX11_bytesOf_9 rfl (lv_at hl 1 rfl) ?_
            refine lv_iload_n hx hb dX11_bytesOf_10 rfl (lv_at hl 2 rfl) ?_
            refine lv_bipush (v := 8) hx hb dX11_bytesOf_11 (by decide) ?_
            refine lv_iload_n hx hb dX11_bytesOf_13 rfl (lv_at hl 0 rfl) ?_
            refine lv_imul hx hb dX11_bytesOf_14 ?_
            refine lv_topi (fun x89 ex89 => ?_)
            obtain rfl : x89 = 16 := ex89.trans (by decide)
            refine lv_ishr hx hb dX11_bytesOf_15 ?_
            refine lv_topi (fun x90 ex90 => ?_)
            refine lv_sipush (v := 255) hx hb dX11_bytesOf_16 (by decide) ?_
            refine lv_iand hx hb dX11_bytesOf_19 ?_
            refine lv_topi (fun x91 ex91 => ?_)
            have hb92 : In x91 0 255 := ex91 ▸ In.andr (⟨by decide, by decide⟩ : In 255 255 255) (by decide)
            refine lv_if_ne (tgt := 27) hx hb dX11_bytesOf_20 (by decide) (fun c93 => ?_) (fun c93 => ?_)
            ·
              have cc94 : x91.toInt ≠ (0 : Int32).toInt := i32_ne c93
              have hb95 : In x91 1 255 := In.ne1 hb92 (⟨by decide, by decide⟩ : In 0 0 0) cc94 (by omega) (by omega)
              refine lv_iconst (v := 1) hx hb dX11_bytesOf_27 (by decide) ?_
              refine lv_iadd hx hb dX11_bytesOf_28 ?_
              refine lv_topi (fun x96 ex96 => ?_)
              obtain rfl : x96 = 2 := ex96.trans (by decide)
              refine lv_istore_n (lv' := [(1, .int 2), (2, .int 2), (0, .int z0)]) hx hb dX11_bytesOf_29 rfl hl (by decide) rfl (fun ls hl => ?_)
              refine lv_iinc (v := 3) (lv' := [(2, .int 3), (1, .int 2), (0, .int z0)]) hx hb dX11_bytesOf_30 hl (k := 1) rfl (by decide) (by decide) rfl (fun ls hl => ?_)
              refine lv_goto (tgt := 4) hx hb dX11_bytesOf_33 (by decide) ?_
              refine lv_iload_n hx hb dX11_bytesOf_4 rfl (lv_at hl 0 rfl) ?_
              refine lv_iconst (v := 4) hx hb dX11_bytesOf_5 (by decide) ?_
              refine lv_icmp_ge (tgt := 36) hx hb dX11_bytesOf_6 (by decide) (fun c97 => ?_) (fun c97 => ?_)
              ·
                have cc98 : (4 : Int32).toInt ≤ (3 : Int32).toInt := i32_le.mp c97
                exact In.empty (lo := 4) (hi := 3) (In.ge1 (⟨by decide, by decide⟩ : In 3 3 3) (⟨by decide, by decide⟩ : In 4 4 4) cc98 (by omega) (by omega)) (by decide)
              ·
                refine lv_iload_n hx hb dX11_bytesOf_9 rfl (lv_at hl 1 rfl) ?_
                refine lv_iload_n hx hb dX11_bytesOf_10 rfl (lv_at hl 2 rfl) ?_
                refine lv_bipush (v := 8) hx hb dX11_bytesOf_11 (by decide) ?_
                refine lv_iload_n hx hb dX11_bytesOf_13 rfl (lv_at hl 0 rfl) ?_
                refine lv_imul hx hb dX11_bytesOf_14 ?_
                refine lv_topi (fun x99 ex99 => ?_)
                obtain rfl : x99 = 24 := ex99.trans (by decide)
                refine lv_ishr hx hb dX11_bytesOf_15 ?_
                refine lv_topi (fun x100 ex100 => ?_)
                refine lv_sipush (v := 255) hx hb dX11_bytesOf_16 (by decide) ?_
                refine lv_iand hx hb dX11_bytesOf_19 ?_
                refine lv_topi (fun x101 ex101 => ?_)
                have hb102 : In x101 0 255 := ex101 ▸ In.andr (⟨by decide, by decide⟩ : In 255 255 255) (by decide)
                refine lv_if_ne (tgt := 27) hx hb dX11_bytesOf_20 (by decide) (fun c103 => ?_) (fun c103 => ?_)
                ·
                  have cc104 : x101.toInt ≠ (0 : Int32).toInt := i32_ne c103
                  have hb105 : In x101 1 255 := In.ne1 hb102 (⟨by decide, by decide⟩ : In 0 0 0) cc104 (by omega) (by omega)
                  refine lv_iconst (v := 1) hx hb dX11_bytesOf_27 (by decide) ?_
                  refine lv_iadd hx hb dX11_bytesOf_28 ?_
                  refine lv_topi (fun x106 ex106 => ?_)
                  obtain rfl : x106 = 3 := ex106.trans (by decide)
                  refine lv_istore_n (lv' := [(1, .int 3), (2, .int 3), (0, .int z0)]) hx hb dX11_bytesOf_29 rfl hl (by decide) rfl (fun ls hl => ?_)
                  refine lv_iinc (v := 4) (lv' := [(2, .int 4), (1, .int 3), (0, .int z0)]) hx hb dX11_bytesOf_30 hl (k := 1) rfl (by decide) (by decide) rfl (fun ls hl => ?_)
                  refine lv_goto (tgt := 4) hx hb dX11_bytesOf_33 (by decide) ?_
                  refine lv_iload_n hx hb dX11_bytesOf_4 rfl (lv_at hl 0 rfl) ?_
                  refine lv_iconst (v := 4) hx hb dX11_bytesOf_5 (by decide) ?_
                  refine lv_icmp_ge (tgt := 36) hx hb dX11_bytesOf_6 (by decide) (fun c107 => ?_) (fun c107 => ?_)
                  ·
                    refine lv_iload_n hx hb dX11_bytesOf_36 rfl (lv_at hl 1 rfl) ?_
                    have hby108 : b1 z0 0 = 1 := b1_1 (by rw [show byS z0 0 = x5 by rw [ex5, ex4]; rfl]; exact c7)
                    have hby109 : b1 z0 8 = 0 := b1_0 (by rw [show byS z0 8 = x15 by rw [ex15, ex14]; rfl]; exact c17)
                    have hby110 : b1 z0 16 = 1 := b1_1 (by rw [show byS z0 16 = x91 by rw [ex91, ex90]; rfl]; exact c93)
                    have hby111 : b1 z0 24 = 1 := b1_1 (by rw [show byS z0 24 = x101 by rw [ex101, ex100]; rfl]; exact c103)
                    exact ret_i (ty := .int) hx hb hr hlocks (rfl) hP hD hS (Nat.le_of_ble_eq_true rfl) (Nat.le_of_ble_eq_true rfl) (⟨rfl, rfl, (⟨by decide, by decide⟩ : In 3 0 4), (by have e0 : (3 : Int32).toInt = 3 := (by decide); unfold nb; omega)⟩) dX11_bytesOf_37
                  ·
                    have cc112 : (4 : Int32).toInt < (4 : Int32).toInt := i32_nle c107
                    exact In.empty (lo := 4) (hi := 3) (In.lt1 (⟨by decide, by decide⟩ : In 4 4 4) (⟨by decide, by decide⟩ : In 4 4 4) cc112 (by omega) (by omega)) (by decide)
                ·
                  have cc113 : x101.toInt = (0 : Int32).toInt := congrArg Int32.toInt c103
                  have hb114 : In x101 0 0 := In.eq1 hb102 (⟨by decide, by decide⟩ : In 0 0 0) cc113 (by omega) (by omega)
                  refine lv_iconst (v := 0) hx hb dX11_bytesOf_23 (by decide) ?_
                  refine lv_goto (tgt := 28) hx hb dX11_bytesOf_24 (by decide) ?_
                  refine lv_iadd hx hb dX11_bytesOf_28 ?_
                  refine lv_topi (fun x115 ex115 => ?_)
                  obtain rfl : x115 = 2 := ex115.trans (by decide)
                  refine lv_istore_n (lv' := [(1, .int 2), (2, .int 3), (0, .int z0)]) hx hb dX11_bytesOf_29 rfl hl (by decide) rfl (fun ls hl => ?_)
                  refine lv_iinc (v := 4) (lv' := [(2, .int 4), (1, .int 2), (0, .int z0)]) hx hb dX11_bytesOf_30 hl (k := 1) rfl (by decide) (by decide) rfl (fun ls hl => ?_)
                  refine lv_goto (tgt := 4) hx hb dX11_bytesOf_33 (by decide) ?_
                  refine lv_iload_n hx hb dX11_bytesOf_4 rfl (lv_at hl 0 rfl) ?_
                  refine lv_iconst (v := 4) hx hb dX11_bytesOf_5 (by decide) ?_
                  refine lv_icmp_ge (tgt := 36) hx hb dX11_bytesOf_6 (by decide) (fun c116 => ?_) (fun c116 => ?_)
                  ·
                    refine lv_iload_n hx hb dX11_bytesOf_36 rfl (lv_at hl 1 rfl) ?_
                    have hby117 : b1 z0 0 = 1 := b1_1 (by rw [show byS z0 0 = x5 by rw [ex5, ex4]; rfl]; exact c7)
                    have hby118 : b1 z0 8 = 0 := b1_0 (by rw [show byS z0 8 = x15 by rw [ex15, ex14]; rfl]; exact c17)
                    have hby119 : b1 z0 16 = 1 := b1_1 (by rw [show byS z0 16 = x91 by rw [ex91, ex90]; rfl]; exact c93)
                    have hby120 : b1 z0 24 = 0 := b1_0 (by rw [show byS z0 24 = x101 by rw [ex101, ex100]; rfl]; exact c103)
                    exact ret_i (ty := .int) hx hb hr hlocks (rfl) hP hD hS (Nat.le_of_ble_eq_true rfl) (Nat.le_of_ble_eq_true rfl) (⟨rfl, rfl, (⟨by decide, by decide⟩ : In 2 0 4), (by have e0 : (2 : Int32).toInt = 2 := (by decide); unfold nb; omega)⟩) dX11_bytesOf_37
                  ·
                    have cc121 : (4 : Int32).toInt < (4 : Int32).toInt := i32_nle c116
                    exact In.empty (lo := 4) (hi := 3) (In.lt1 (⟨by decide, by decide⟩ : In 4 4 4) (⟨by decide, by decide⟩ : In 4 4 4) cc121 (by omega) (by omega)) (by decide)
            ·
              have cc122 : x91.toInt = (0 : Int32).toInt := congrArg Int32.toInt c93
              have hb123 : In x91 0 0 := In.eq1 hb92 (⟨by decide, by decide⟩ : In 0 0 0) cc122 (by omega) (by omega)
              refine lv_iconst (v := 0) hx hb dX11_bytesOf_23 (by decide) ?_
              refine lv_goto (tgt := 28) hx hb dX11_bytesOf_24 (by decide) ?_
              refine lv_iadd hx hb dX11_bytesOf_28 ?_
              refine lv_topi (fun x124 ex124 => ?_)
              obtain rfl : x124 = 1 := ex124.trans (by decide)
              refine lv_istore_n (lv' := [(1, .int 1), (2, .int 2), (0, .int z0)]) hx hb dX11_bytesOf_29 rfl hl (by decide) rfl (fun ls hl => ?_)
              refine lv_iinc (v := 3) (lv' := [(2, .int 3), (1, .int 1), (0, .int z0)]) hx hb dX11_bytesOf_30 hl (k := 1) rfl (by decide) (by decide) rfl (fun ls hl => ?_)
              refine lv_goto (tgt := 4) hx hb dX11_bytesOf_33 (by decide) ?_
              refine lv_iload_n hx hb dX11_bytesOf_4 rfl (lv_at hl 0 rfl) ?_
              refine lv_iconst (v := 4) hx hb dX11_bytesOf_5 (by decide) ?_
              refine lv_icmp_ge (tgt := 36) hx hb dX11_bytesOf_6 (by decide) (fun c125 => ?_) (fun c125 => ?_)
              ·
                have cc126 : (4 : Int32).toInt ≤ (3 : Int32).toInt := i32_le.mp c125
                exact In.empty (lo := 4) (hi := 3) (In.ge1 (⟨by decide, by decide⟩ : In 3 3 3) (⟨by decide, by decide⟩ : In 4 4 4) cc126 (by omega) (by omega)) (by decide)
              ·
                refine lv_iload_n hx hb dX11_bytesOf_9 rfl (lv_at hl 1 rfl) ?_
                refine lv_iload_n hx hb dX11_bytesOf_10 rfl (lv_at hl 2 rfl) ?_
                refine lv_bipush (v := 8) hx hb dX11_bytesOf_11 (by decide) ?_
                refine lv_iload_n hx hb dX11_bytesOf_13 rfl (lv_at hl 0 rfl) ?_
                refine lv_imul hx hb dX11_bytesOf_14 ?_
                refine lv_topi (fun x127 ex127 => ?_)
                obtain rfl : x127 = 24 := ex127.trans (by decide)
                refine lv_ishr hx hb dX11_bytesOf_15 ?_
                refine lv_topi (fun x128 ex128 => ?_)
                refine lv_sipush (v := 255) hx hb dX11_bytesOf_16 (by decide) ?_
                refine lv_iand hx hb dX11_bytesOf_19 ?_
                refine lv_topi (fun x129 ex129 => ?_)
                have hb130 : In x129 0 255 := ex129 ▸ In.andr (⟨by decide, by decide⟩ : In 255 255 255) (by decide)
                refine lv_if_ne (tgt := 27) hx hb dX11_bytesOf_20 (by decide) (fun c131 => ?_) (fun c131 => ?_)
                ·
                  have cc132 : x129.toInt ≠ (0 : Int32).toInt := i32_ne c131
                  have hb133 : In x129 1 255 := In.ne1 hb130 (⟨by decide, by decide⟩ : In 0 0 0) cc132 (by omega) (by omega)
                  refine lv_iconst (v := 1) hx hb dX11_bytesOf_27 (by decide) ?_
                  refine lv_iadd hx hb dX11_bytesOf_28 ?_
                  refine lv_topi (fun x134 ex134 => ?_)
                  obtain rfl : x134 = 2 := ex134.trans (by decide)
                  refine lv_istore_n (lv' := [(1, .int 2), (2, .int 3), (0, .int z0)]) hx hb dX11_bytesOf_29 rfl hl (by decide) rfl (fun ls hl => ?_)
                  refine lv_iinc (v := 4) (lv' := [(2, .int 4), (1, .int 2), (0, .int z0)]) hx hb dX11_bytesOf_30 hl (k := 1) rfl (by decide) (by decide) rfl (fun ls hl => ?_)
                  refine lv_goto (tgt := 4) hx hb dX11_bytesOf_33 (by decide) ?_
                  refine lv_iload_n hx hb dX11_bytesOf_4 rfl (lv_at hl 0 rfl) ?_
                  refine lv_iconst (v := 4) hx hb dX11_bytesOf_5 (by decide) ?_
                  refine lv_icmp_ge (tgt := 36) hx hb dX11_bytesOf_6 (by decide) (fun c135 => ?_) (fun c135 => ?_)
                  ·
                    refine lv_iload_n hx hb dX11_bytesOf_36 rfl (lv_at hl 1 rfl) ?_
                    have hby136 : b1 z0 0 = 1 := b1_1 (by rw [show byS z0 0 = x5 by rw [ex5, ex4]; rfl]; exact c7)
                    have hby137 : b1 z0 8 = 0 := b1_0 (by rw [show byS z0 8 = x15 by rw [ex15, ex14]; rfl]; exact c17)
                    have hby138 : b1 z0 16 = 0 := b1_0 (by rw [show byS z0 16 = x91 by rw [ex91, ex90]; rfl]; exact c93)
                    have hby139 : b1 z0 24 = 1 := b1_1 (by rw [show byS z0 24 = x129 by rw [ex129, ex128]; rfl]; exact c131)
                    exact ret_i (ty := .int) hx hb hr hlocks (rfl) hP hD hS (Nat.le_of_ble_eq_true rfl) (Nat.le_of_ble_eq_true rfl) (⟨rfl, rfl, (⟨by decide, by decide⟩ : In 2 0 4), (by have e0 : (2 : Int32).toInt = 2 := (by decide); unfold nb; omega)⟩) dX11_bytesOf_37
                  ·
                    have cc140 : (4 : Int32).toInt < (4 : Int32).toInt := i32_nle c135
                    exact In.empty (lo := 4) (hi := 3) (In.lt1 (⟨by decide, by decide⟩ : In 4 4 4) (⟨by decide, by decide⟩ : In 4 4 4) cc140 (by omega) (by omega)) (by decide)
                ·
                  have cc141 : x129.toInt = (0 : Int32).toInt := congrArg Int32.toInt c131
                  have hb142 : In x129 0 0 := In.eq1 hb130 (⟨by decide, by decide⟩ : In 0 0 0) cc141 (by omega) (by omega)
                  refine lv_iconst (v := 0) hx hb dX11_bytesOf_23 (by decide) ?_
                  refine lv_goto (tgt := 28) hx hb dX11_bytesOf_24 (by decide) ?_
                  refine lv_iadd hx hb dX11_bytesOf_28 ?_
                  refine lv_topi (fun x143 ex143 => ?_)
                  obtain rfl : x143 = 1 := ex143.trans (by decide)
                  refine lv_istore_n (lv' := [(1, .int 1), (2, .int 3), (0, .int z0)]) hx hb dX11_bytesOf_29 rfl hl (by decide) rfl (fun ls hl => ?_)
                  refine lv_iinc (v := 4) (lv' := [(2, .int 4), (1, .int 1), (0, .int z0)]) hx hb dX11_bytesOf_30 hl (k := 1) rfl (by decide) (by decide) rfl (fun ls hl => ?_)
                  refine lv_goto (tgt := 4) hx hb dX11_bytesOf_33 (by decide) ?_
                  refine lv_iload_n hx hb dX11_bytesOf_4 rfl (lv_at hl 0 rfl) ?_
                  refine lv_iconst (v := 4) hx hb dX11_bytesOf_5 (by decide) ?_
                  refine lv_icmp_ge (tgt := 36) hx hb dX11_bytesOf_6 (by decide) (fun c144 => ?_) (fun c144 => ?_)
                  ·
                    refine lv_iload_n hx hb dX11_bytesOf_36 rfl (lv_at hl 1 rfl) ?_
                    have hby145 : b1 z0 0 = 1 := b1_1 (by rw [show byS z0 0 = x5 by rw [ex5, ex4]; rfl]; exact c7)
                    have hby146 : b1 z0 8 = 0 := b1_0 (by rw [show byS z0 8 = x15 by rw [ex15, ex14]; rfl]; exact c17)
                    have hby147 : b1 z0 16 = 0 := b1_0 (by rw [show byS z0 16 = x91 by rw [ex91, ex90]; rfl]; exact c93)
                    have hby148 : b1 z0 24 = 0 := b1_0 (by rw [show byS z0 24 = x129 by rw [ex129, ex128]; rfl]; exact c131)
                    exact ret_i (ty := .int) hx hb hr hlocks (rfl) hP hD hS (Nat.le_of_ble_eq_true rfl) (Nat.le_of_ble_eq_true rfl) (⟨rfl, rfl, (⟨by decide, by decide⟩ : In 1 0 4), (by have e0 : (1 : Int32).toInt = 1 := (by decide); unfold nb; omega)⟩) dX11_bytesOf_37
                  ·
                    have cc149 : (4 : Int32).toInt < (4 : Int32).toInt := i32_nle c144
                    exact In.empty (lo := 4) (hi := 3) (In.lt1 (⟨by decide, by decide⟩ : In 4 4 4) (⟨by decide, by decide⟩ : In 4 4 4) cc149 (by omega) (by omega)) (by decide)
    ·
      have cc150 : x5.toInt = (0 : Int32).toInt := congrArg Int32.toInt c7
      have hb151 : In x5 0 0 := In.eq1 hb6 (⟨by decide, by decide⟩ : In 0 0 0) cc150 (by omega) (by omega)
      refine lv_iconst (v := 0) hx hb dX11_bytesOf_23 (by decide) ?_
      refine lv_goto (tgt := 28) hx hb dX11_bytesOf_24 (by decide) ?_
      refine lv_iadd hx hb dX11_bytesOf_28 ?_
      refine lv_topi (fun x152 ex152 => ?_)
      obtain rfl : x152 = 0 := ex152.trans (by decide)
      refine lv_istore_n (lv' := [(1, .int 0), (2, .int 0), (0, .int z0)]) hx hb dX11_bytesOf_29 rfl hl (by decide) rfl (fun ls hl => ?_)
      refine lv_iinc (v := 1) (lv' := [(2, .int 1), (1, .int 0), (0, .int z0)]) hx hb dX11_bytesOf_30 hl (k := 1) rfl (by decide) (by decide) rfl (fun ls hl => ?_)
      refine lv_goto (tgt := 4) hx hb dX11_bytesOf_33 (by decide) ?_
      refine lv_iload_n hx hb dX11_bytesOf_4 rfl (lv_at hl 0 rfl) ?_
      refine lv_iconst (v := 4) hx hb dX11_bytesOf_5 (by decide) ?_
      refine lv_icmp_ge (tgt := 36) hx hb dX11_bytesOf_6 (by decide) (fun c153 => ?_) (fun c153 => ?_)
      ·
        have cc154 : (4 : Int32).toInt ≤ (1 : Int32).toInt := i32_le.mp c153
        exact In.empty (lo := 4) (hi := 1) (In.ge1 (⟨by decide, by decide⟩ : In 1 1 1) (⟨by decide, by decide⟩ : In 4 4 4) cc154 (by omega) (by omega)) (by decide)
      ·
        refine lv_iload_n hx hb dX11_bytesOf_9 rfl (lv_at hl 1 rfl) ?_
        refine lv_iload_n hx hb dX11_bytesOf_10 rfl (lv_at hl 2 rfl) ?_
        refine lv_bipush (v := 8) hx hb dX11_bytesOf_11 (by decide) ?_
        refine lv_iload_n hx hb dX11_bytesOf_13 rfl (lv_at hl 0 rfl) ?_
        refine lv_imul hx hb dX11_bytesOf_14 ?_
        refine lv_topi (fun x155 ex155 => ?_)
        obtain rfl : x155 = 8 := ex155.trans (by decide)
        refine lv_ishr hx hb dX11_bytesOf_15 ?_
        refine lv_topi (fun x156 ex156 => ?_)
        refine lv_sipush (v := 255) hx hb dX11_bytesOf_16 (by decide) ?_
        refine lv_iand hx hb dX11_bytesOf_19 ?_
        refine lv_topi (fun x157 ex157 => ?_)
        have hb158 : In x157 0 255 := ex157 ▸ In.andr (⟨by decide, by decide⟩ : In 255 255 255) (by decide)
        refine lv_if_ne (tgt := 27) hx hb dX11_bytesOf_20 (by decide) (fun c159 => ?_) (fun c159 => ?_)
        ·
          have cc160 : x157.toInt ≠ (0 : Int32).toInt := i32_ne c159
          have hb161 : In x157 1 255 := In.ne1 hb158 (⟨by decide, by decide⟩ : In 0 0 0) cc160 (by omega) (by omega)
          refine lv_iconst (v := 1) hx hb dX11_bytesOf_27 (by decide) ?_
          refine lv_iadd hx hb dX11_bytesOf_28 ?_
          refine lv_topi (fun x162 ex162 => ?_)
          obtain rfl : x162 = 1 := ex162.trans (by decide)
          refine lv_istore_n (lv' := [(1, .int 1), (2, .int 1), (0, .int z0)]) hx hb dX11_bytesOf_29 rfl hl (by decide) rfl (fun ls hl => ?_)
          refine lv_iinc (v := 2) (lv' := [(2, .int 2), (1, .int 1), (0, .int z0)]) hx hb dX11_bytesOf_30 hl (k := 1) rfl (by decide) (by decide) rfl (fun ls hl => ?_)
          refine lv_goto (tgt := 4) hx hb dX11_bytesOf_33 (by decide) ?_
          refine lv_iload_n hx hb dX11_bytesOf_4 rfl (lv_at hl 0 rfl) ?_
          refine lv_iconst (v := 4) hx hb dX11_bytesOf_5 (by decide) ?_
          refine lv_icmp_ge (tgt := 36) hx hb dX11_bytesOf_6 (by decide) (fun c163 => ?_) (fun c163 => ?_)
          ·
            have cc164 : (4 : Int32).toInt ≤ (2 : Int32).toInt := i32_le.mp c163
            exact In.empty (lo := 4) (hi := 2) (In.ge1 (⟨by decide, by decide⟩ : In 2 2 2) (⟨by decide, by decide⟩ : In 4 4 4) cc164 (by omega) (by omega)) (by decide)
          ·
            refine lv_iload_n hx hb dX11_bytesOf_9 rfl (lv_at hl 1 rfl) ?_
            refine lv_iload_n hx hb dX11_bytesOf_10 rfl (lv_at hl 2 rfl) ?_
            refine lv_bipush (v := 8) hx hb dX11_bytesOf_11 (by decide) ?_
            refine lv_iload_n hx hb dX11_bytesOf_13 rfl (lv_at hl 0 rfl) ?_
            refine lv_imul hx hb dX11_bytesOf_14 ?_
            refine lv_topi (fun x165 ex165 => ?_)
            obtain rfl : x165 = 16 := ex165.trans (by decide)
            refine lv_ishr hx hb dX11_bytesOf_15 ?_
            refine lv_topi (fun x166 ex166 => ?_)
            refine lv_sipush (v := 255) hx hb dX11_bytesOf_16 (by decide) ?_
            refine lv_iand hx hb dX11_bytesOf_19 ?_
            refine lv_topi (fun x167 ex167 => ?_)
            have hb168 : In x167 0 255 := ex167 ▸ In.andr (⟨by decide, by decide⟩ : In 255 255 255) (by decide)
            refine lv_if_ne (tgt := 27) hx hb dX11_bytesOf_20 (by decide) (fun c169 => ?_) (fun c169 => ?_)
            ·
              have cc170 : x167.toInt ≠ (0 : Int32).toInt := i32_ne c169
              have hb171 : In x167 1 255 := In.ne1 hb168 (⟨by decide, by decide⟩ : In 0 0 0) cc170 (by omega) (by omega)
              refine lv_iconst (v := 1) hx hb dX11_bytesOf_27 (by decide) ?_
              refine lv_iadd hx hb dX11_bytesOf_28 ?_
              refine lv_topi (fun x172 ex172 => ?_)
              obtain rfl : x172 = 2 := ex172.trans (by decide)
              refine lv_istore_n (lv' := [(1, .int 2), (2, .int 2), (0, .int z0)]) hx hb dX11_bytesOf_29 rfl hl (by decide) rfl (fun ls hl => ?_)
              refine lv_iinc (v := 3) (lv' := [(2, .int 3), (1, .int 2), (0, .int z0)]) hx hb dX11_bytesOf_30 hl (k := 1) rfl (by decide) (by decide) rfl (fun ls hl => ?_)
              refine lv_goto (tgt := 4) hx hb dX11_bytesOf_33 (by decide) ?_
              refine lv_iload_n hx hb dX11_bytesOf_4 rfl (lv_at hl 0 rfl) ?_
              refine lv_iconst (v := 4) hx hb dX11_bytesOf_5 (by decide) ?_
              refine lv_icmp_ge (tgt := 36) hx hb dX11_bytesOf_6 (by decide) (fun c173 => ?_) (fun c173 => ?_)
              ·
                have cc174 : (4 : Int32).toInt ≤ (3 : Int32).toInt := i32_le.mp c173
                exact In.empty (lo := 4) (hi := 3) (In.ge1 (⟨by decide, by decide⟩ : In 3 3 3) (⟨by decide, by decide⟩ : In 4 4 4) cc174 (by omega) (by omega)) (by decide)
              ·
                refine lv_iload_n hx hb dX11_bytesOf_9 rfl (lv_at hl 1 rfl) ?_
                refine lv_iload_n hx hb dX11_bytesOf_10 rfl (lv_at hl 2 rfl) ?_
                refine lv_bipush (v := 8) hx hb dX11_bytesOf_11 (by decide) ?_
                refine lv_iload_n hx hb dX11_bytesOf_13 rfl (lv_at hl 0 rfl) ?_
                refine lv_imul hx hb dX11_bytesOf_14 ?_
                refine lv_topi (fun x175 ex175 => ?_)
                obtain rfl : x175 = 24 := ex175.trans (by decide)
                refine lv_ishr hx hb dX11_bytesOf_15 ?_
                refine lv_topi (fun x176 ex176 => ?_)
                refine lv_sipush (v := 255) hx hb dX11_bytesOf_16 (by decide) ?_
                refine lv_iand hx hb dX11_bytesOf_19 ?_
                refine lv_topi (fun x177 ex177 => ?_)
                have hb178 : In x177 0 255 := ex177 ▸ In.andr (⟨by decide, by decide⟩ : In 255 255 255) (by decide)
                refine lv_if_ne (tgt := 27) hx hb dX11_bytesOf_20 (by decide) (fun c179 => ?_) (fun c179 => ?_)
                ·
                  have cc180 : x177.toInt ≠ (0 : Int32).toInt := i32_ne c179
                  have hb181 : In x177 1 255 := In.ne1 hb178 (⟨by decide, by decide⟩ : In 0 0 0) cc180 (by omega) (by omega)
                  refine lv_iconst (v := 1) hx hb dX11_bytesOf_27 (by decide) ?_
                  refine lv_iadd hx hb dX11_bytesOf_28 ?_
                  refine lv_topi (fun x182 ex182 => ?_)
                  obtain rfl : x182 = 3 := ex182.trans (by decide)
                  refine lv_istore_n (lv' := [(1, .int 3), (2, .int 3), (0, .int z0)]) hx hb dX11_bytesOf_29 rfl hl (by decide) rfl (fun ls hl => ?_)
                  refine lv_iinc (v := 4) (lv' := [(2, .int 4), (1, .int 3), (0, .int z0)]) hx hb dX11_bytesOf_30 hl (k := 1) rfl (by decide) (by decide) rfl (fun ls hl => ?_)
                  refine lv_goto (tgt := 4) hx hb dX11_bytesOf_33 (by decide) ?_
                  refine lv_iload_n hx hb dX11_bytesOf_4 rfl (lv_at hl 0 rfl) ?_
                  refine lv_iconst (v := 4) hx hb dX11_bytesOf_5 (by decide) ?_
                  refine lv_icmp_ge (tgt := 36) hx hb dX11_bytesOf_6 (by decide) (fun c183 => ?_) (fun c183 => ?_)
                  ·
                    refine lv_iload_n hx hb dX11_bytesOf_36 rfl (lv_at hl 1 rfl) ?_
                    have hby184 : b1 z0 0 = 0 := b1_0 (by rw [show byS z0 0 = x5 by rw [ex5, ex4]; rfl]; exact c7)
                    have hby185 : b1 z0 8 = 1 := b1_1 (by rw [show byS z0 8 = x157 by rw [ex157, ex156]; rfl]; exact c159)
                    have hby186 : b1 z0 16 = 1 := b1_1 (by rw [show byS z0 16 = x167 by rw [ex167, ex166]; rfl]; exact c169)
                    have hby187 : b1 z0 24 = 1 := b1_1 (by rw [show byS z0 24 = x177 by rw [ex177, ex176]; rfl]; exact c179)
                    exact ret_i (ty := .int) hx hb hr hlocks (rfl) hP hD hS (Nat.le_of_ble_eq_true rfl) (Nat.le_of_ble_eq_true rfl) (⟨rfl, rfl, (⟨by decide, by decide⟩ : In 3 0 4), (by have e0 : (3 : Int32).toInt = 3 := (by decide); unfold nb; omega)⟩) dX11_bytesOf_37
                  ·
                    have cc188 : (4 : Int32).toInt < (4 : Int32).toInt := i32_nle c183
                    exact In.empty (lo := 4) (hi := 3) (In.lt1 (⟨by decide, by decide⟩ : In 4 4 4) (⟨by decide, by decide⟩ : In 4 4 4) cc188 (by omega) (by omega)) (by decide)
                ·
                  have cc189 : x177.toInt = (0 : Int32).toInt := congrArg Int32.toInt c179
                  have hb190 : In x177 0 0 := In.eq1 hb178 (⟨by decide, by decide⟩ : In 0 0 0) cc189 (by omega) (by omega)
                  refine lv_iconst (v := 0) hx hb dX11_bytesOf_23 (by decide) ?_
                  refine lv_goto (tgt := 28) hx hb dX11_bytesOf_24 (by decide) ?_
                  refine lv_iadd hx hb dX11_bytesOf_28 ?_
                  refine lv_topi (fun x191 ex191 => ?_)
                  obtain rfl : x191 = 2 := ex191.trans (by decide)
                  refine lv_istore_n (lv' := [(1, .int 2), (2, .int 3), (0, .int z0)]) hx hb dX11_bytesOf_29 rfl hl (by decide) rfl (fun ls hl => ?_)
                  refine lv_iinc (v := 4) (lv' := [(2, .int 4), (1, .int 2), (0, .int z0)]) hx hb dX11_bytesOf_30 hl (k := 1) rfl (by decide) (by decide) rfl (fun ls hl => ?_)
                  refine lv_goto (tgt := 4) hx hb dX11_bytesOf_33 (by decide) ?_
                  refine lv_iload_n hx hb dX11_bytesOf_4 rfl (lv_at hl 0 rfl) ?_
                  refine lv_iconst (v := 4) hx hb dX11_bytesOf_5 (by decide) ?_
                  refine lv_icmp_ge (tgt := 36) hx hb dX11_bytesOf_6 (by decide) (fun c192 => ?_) (fun c192 => ?_)
                  ·
                    refine lv_iload_n hx hb dX11_bytesOf_36 rfl (lv_at hl 1 rfl) ?_
                    have hby193 : b1 z0 0 = 0 := b1_0 (by rw [show byS z0 0 = x5 by rw [ex5, ex4]; rfl]; exact c7)
                    have hby194 : b1 z0 8 = 1 := b1_1 (by rw [show byS z0 8 = x157 by rw [ex157, ex156]; rfl]; exact c159)
                    have hby195 : b1 z0 16 = 1 := b1_1 (by rw [show byS z0 16 = x167 by rw [ex167, ex166]; rfl]; exact c169)
                    have hby196 : b1 z0 24 = 0 := b1_0 (by rw [show byS z0 24 = x177 by rw [ex177, ex176]; rfl]; exact c179)
                    exact ret_i (ty := .int) hx hb hr hlocks (rfl) hP hD hS (Nat.le_of_ble_eq_true rfl) (Nat.le_of_ble_eq_true rfl) (⟨rfl, rfl, (⟨by decide, by decide⟩ : In 2 0 4), (by have e0 : (2 : Int32).toInt = 2 := (by decide); unfold nb; omega)⟩) dX11_bytesOf_37
                  ·
                    have cc197 : (4 : Int32).toInt < (4 : Int32).toInt := i32_nle c192
                    exact In.empty (lo := 4) (hi := 3) (In.lt1 (⟨by decide, by decide⟩ : In 4 4 4) (⟨by decide, by decide⟩ : In 4 4 4) cc197 (by omega) (by omega)) (by decide)
            ·
              have cc198 : x167.toInt = (0 : Int32).toInt := congrArg Int32.toInt c169
              have hb199 : In x167 0 0 := In.eq1 hb168 (⟨by decide, by decide⟩ : In 0 0 0) cc198 (by omega) (by omega)
              refine lv_iconst (v := 0) hx hb dX11_bytesOf_23 (by decide) ?_
              refine lv_goto (tgt := 28) hx hb dX11_bytesOf_24 (by decide) ?_
              refine lv_iadd hx hb dX11_bytesOf_28 ?_
              refine lv_topi (fun x200 ex200 => ?_)
              obtain rfl : x200 = 1 := ex200.trans (by decide)
              refine lv_istore_n (lv' := [(1, .int 1), (2, .int 2), (0, .int z0)]) hx hb dX11_bytesOf_29 rfl hl (by decide) rfl (fun ls hl => ?_)
              refine lv_iinc (v := 3) (lv' := [(2, .int 3), (1, .int 1), (0, .int z0)]) hx hb dX11_bytesOf_30 hl (k := 1) rfl (by decide) (by decide) rfl (fun ls hl => ?_)
              refine lv_goto (tgt := 4) hx hb dX11_bytesOf_33 (by decide) ?_
              refine lv_iload_n hx hb dX11_bytesOf_4 rfl (lv_at hl 0 rfl) ?_
              refine lv_iconst (v := 4) hx hb dX11_bytesOf_5 (by decide) ?_
              refine lv_icmp_ge (tgt := 36) hx hb dX11_bytesOf_6 (by decide) (fun c201 => ?_) (fun c201 => ?_)
              ·
                have cc202 : (4 : Int32).toInt ≤ (3 : Int32).toInt := i32_le.mp c201
                exact In.empty (lo := 4) (hi := 3) (In.ge1 (⟨by decide, by decide⟩ : In 3 3 3) (⟨by decide, by decide⟩ : In 4 4 4) cc202 (by omega) (by omega)) (by decide)
              ·
                refine lv_iload_n hx hb dX11_bytesOf_9 rfl (lv_at hl 1 rfl) ?_
                refine lv_iload_n hx hb dX11_bytesOf_10 rfl (lv_at hl 2 rfl) ?_
                refine lv_bipush (v := 8) hx hb dX11_bytesOf_11 (by decide) ?_
                refine lv_iload_n hx hb dX11_bytesOf_13 rfl (lv_at hl 0 rfl) ?_
                refine lv_imul hx hb dX11_bytesOf_14 ?_
                refine lv_topi (fun x203 ex203 => ?_)
                obtain rfl : x203 = 24 := ex203.trans (by decide)
                refine lv_ishr hx hb dX11_bytesOf_15 ?_
                refine lv_topi (fun x204 ex204 => ?_)
                refine lv_sipush (v := 255) hx hb dX11_bytesOf_16 (by decide) ?_
                refine lv_iand hx hb dX11_bytesOf_19 ?_
                refine lv_topi (fun x205 ex205 => ?_)
                have hb206 : In x205 0 255 := ex205 ▸ In.andr (⟨by decide, by decide⟩ : In 255 255 255) (by decide)
                refine lv_if_ne (tgt := 27) hx hb dX11_bytesOf_20 (by decide) (fun c207 => ?_) (fun c207 => ?_)
                ·
                  have cc208 : x205.toInt ≠ (0 : Int32).toInt := i32_ne c207
                  have hb209 : In x205 1 255 := In.ne1 hb206 (⟨by decide, by decide⟩ : In 0 0 0) cc208 (by omega) (by omega)
                  refine lv_iconst (v := 1) hx hb dX11_bytesOf_27 (by decide) ?_
                  refine lv_iadd hx hb dX11_bytesOf_28 ?_
                  refine lv_topi (fun x210 ex210 => ?_)
                  obtain rfl : x210 = 2 := ex210.trans (by decide)
                  refine lv_istore_n (lv' := [(1, .int 2), (2, .int 3), (0, .int z0)]) hx hb dX11_bytesOf_29 rfl hl (by decide) rfl (fun ls hl => ?_)
                  refine lv_iinc (v := 4) (lv' := [(2, .int 4), (1, .int 2), (0, .int z0)]) hx hb dX11_bytesOf_30 hl (k := 1) rfl (by decide) (by decide) rfl (fun ls hl => ?_)
                  refine lv_goto (tgt := 4) hx hb dX11_bytesOf_33 (by decide) ?_
                  refine lv_iload_n hx hb dX11_bytesOf_4 rfl (lv_at hl 0 rfl) ?_
                  refine lv_iconst (v := 4) hx hb dX11_bytesOf_5 (by decide) ?_
                  refine lv_icmp_ge (tgt := 36) hx hb dX11_bytesOf_6 (by decide) (fun c211 => ?_) (fun c211 => ?_)
                  ·
                    refine lv_iload_n hx hb dX11_bytesOf_36 rfl (lv_at hl 1 rfl) ?_
                    have hby212 : b1 z0 0 = 0 := b1_0 (by rw [show byS z0 0 = x5 by rw [ex5, ex4]; rfl]; exact c7)
                    have hby213 : b1 z0 8 = 1 := b1_1 (by rw [show byS z0 8 = x157 by rw [ex157, ex156]; rfl]; exact c159)
                    have hby214 : b1 z0 16 = 0 := b1_0 (by rw [show byS z0 16 = x167 by rw [ex167, ex166]; rfl]; exact c169)
                    have hby215 : b1 z0 24 = 1 := b1_1 (by rw [show byS z0 24 = x205 by rw [ex205, ex204]; rfl]; exact c207)
                    exact ret_i (ty := .int) hx hb hr hlocks (rfl) hP hD hS (Nat.le_of_ble_eq_true rfl) (Nat.le_of_ble_eq_true rfl) (⟨rfl, rfl, (⟨by decide, by decide⟩ : In 2 0 4), (by have e0 : (2 : Int32).toInt = 2 := (by decide); unfold nb; omega)⟩) dX11_bytesOf_37
                  ·
                    have cc216 : (4 : Int32).toInt < (4 : Int32).toInt := i32_nle c211
                    exact In.empty (lo := 4) (hi := 3) (In.lt1 (⟨by decide, by decide⟩ : In 4 4 4) (⟨by decide, by decide⟩ : In 4 4 4) cc216 (by omega) (by omega)) (by decide)
                ·
                  have cc217 : x205.toInt = (0 : Int32).toInt := congrArg Int32.toInt c207
                  have hb218 : In x205 0 0 := In.eq1 hb206 (⟨by decide, by decide⟩ : In 0 0 0) cc217 (by omega) (by omega)
                  refine lv_iconst (v := 0) hx hb dX11_bytesOf_23 (by decide) ?_
                  refine lv_goto (tgt := 28) hx hb dX11_bytesOf_24 (by decide) ?_
                  refine lv_iadd hx hb dX11_bytesOf_28 ?_
                  refine lv_topi (fun x219 ex219 => ?_)
                  obtain rfl : x219 = 1 := ex219.trans (by decide)
                  refine lv_istore_n (lv' := [(1, .int 1), (2, .int 3), (0, .int z0)]) hx hb dX11_bytesOf_29 rfl hl (by decide) rfl (fun ls hl => ?_)
                  refine lv_iinc (v := 4) (lv' := [(2, .int 4), (1, .int 1), (0, .int z0)]) hx hb dX11_bytesOf_30 hl (k := 1) rfl (by decide) (by decide) rfl (fun ls hl => ?_)
                  refine lv_goto (tgt := 4) hx hb dX11_bytesOf_33 (by decide) ?_
                  refine lv_iload_n hx hb dX11_bytesOf_4 rfl (lv_at hl 0 rfl) ?_
                  refine lv_iconst (v := 4) hx hb dX11_bytesOf_5 (by decide) ?_
                  refine lv_icmp_ge (tgt := 36) hx hb dX11_bytesOf_6 (by decide) (fun c220 => ?_) (fun c220 => ?_)
                  ·
                    refine lv_iload_n hx hb dX11_bytesOf_36 rfl (lv_at hl 1 rfl) ?_
                    have hby221 : b1 z0 0 = 0 := b1_0 (by rw [show byS z0 0 = x5 by rw [ex5, ex4]; rfl]; exact c7)
                    have hby222 : b1 z0 8 = 1 := b1_1 (by rw [show byS z0 8 = x157 by rw [ex157, ex156]; rfl]; exact c159)
                    have hby223 : b1 z0 16 = 0 := b1_0 (by rw [show byS z0 16 = x167 by rw [ex167, ex166]; rfl]; exact c169)
                    have hby224 : b1 z0 24 = 0 := b1_0 (by rw [show byS z0 24 = x205 by rw [ex205, ex204]; rfl]; exact c207)
                    exact ret_i (ty := .int) hx hb hr hlocks (rfl) hP hD hS (Nat.le_of_ble_eq_true rfl) (Nat.le_of_ble_eq_true rfl) (⟨rfl, rfl, (⟨by decide, by decide⟩ : In 1 0 4), (by have e0 : (1 : Int32).toInt = 1 := (by decide); unfold nb; omega)⟩) dX11_bytesOf_37
                  ·
                    have cc225 : (4 : Int32).toInt < (4 : Int32).toInt := i32_nle c220
                    exact In.empty (lo := 4) (hi := 3) (In.lt1 (⟨by decide, by decide⟩ : In 4 4 4) (⟨by decide, by decide⟩ : In 4 4 4) cc225 (by omega) (by omega)) (by decide)
        ·
          have cc226 : x157.toInt = (0 : Int32).toInt := congrArg Int32.toInt c159
          have hb227 : In x157 0 0 := In.eq1 hb158 (⟨by decide, by decide⟩ : In 0 0 0) cc226 (by omega) (by omega)
          refine lv_iconst (v := 0) hx hb dX11_bytesOf_23 (by decide) ?_
          refine lv_goto (tgt := 28) hx hb dX11_bytesOf_24 (by decide) ?_
          refine lv_iadd hx hb dX11_bytesOf_28 ?_
          refine lv_topi (fun x228 ex228 => ?_)
          obtain rfl : x228 = 0 := ex228.trans (by decide)
          refine lv_istore_n (lv' := [(1, .int 0), (2, .int 1), (0, .int z0)]) hx hb dX11_bytesOf_29 rfl hl (by decide) rfl (fun ls hl => ?_)
          refine lv_iinc (v := 2) (lv' := [(2, .int 2), (1, .int 0), (0, .int z0)]) hx hb dX11_bytesOf_30 hl (k := 1) rfl (by decide) (by decide) rfl (fun ls hl => ?_)
          refine lv_goto (tgt := 4) hx hb dX11_bytesOf_33 (by decide) ?_
          refine lv_iload_n hx hb dX11_bytesOf_4 rfl (lv_at hl 0 rfl) ?_
          refine lv_iconst (v := 4) hx hb dX11_bytesOf_5 (by decide) ?_
          refine lv_icmp_ge (tgt := 36) hx hb dX11_bytesOf_6 (by decide) (fun c229 => ?_) (fun c229 => ?_)
          ·
            have cc230 : (4 : Int32).toInt ≤ (2 : Int32).toInt := i32_le.mp c229
            exact In.empty (lo := 4) (hi := 2) (In.ge1 (⟨by decide, by decide⟩ : In 2 2 2) (⟨by decide, by decide⟩ : In 4 4 4) cc230 (by omega) (by omega)) (by decide)
          ·
            refine lv_iload_n hx hb dX11_bytesOf_9 rfl (lv_at hl 1 rfl) ?_
            refine lv_iload_n hx hb dX11_bytesOf_10 rfl (lv_at hl 2 rfl) ?_
            refine lv_bipush (v := 8) hx hb dX11_bytesOf_11 (by decide) ?_
            refine lv_iload_n hx hb dX11_bytesOf_13 rfl (lv_at hl 0 rfl) ?_
            refine lv_imul hx hb dX11_bytesOf_14 ?_
            refine lv_topi (fun x231 ex231 => ?_)
            obtain rfl : x231 = 16 := ex231.trans (by decide)
            refine lv_ishr hx hb dX11_bytesOf_15 ?_
            refine lv_topi (fun x232 ex232 => ?_)
            refine lv_sipush (v := 255) hx hb dX11_bytesOf_16 (by decide) ?_
            refine lv_iand hx hb dX11_bytesOf_19 ?_
            refine lv_topi (fun x233 ex233 => ?_)
            have hb234 : In x233 0 255 := ex233 ▸ In.andr (⟨by decide, by decide⟩ : In 255 255 255) (by decide)
            refine lv_if_ne (tgt := 27) hx hb dX11_bytesOf_20 (by decide) (fun c235 => ?_) (fun c235 => ?_)
            ·
              have cc236 : x233.toInt ≠ (0 : Int32).toInt := i32_ne c235
              have hb237 : In x233 1 255 := In.ne1 hb234 (⟨by decide, by decide⟩ : In 0 0 0) cc236 (by omega) (by omega)
              refine lv_iconst (v := 1) hx hb dX11_bytesOf_27 (by decide) ?_
              refine lv_iadd hx hb dX11_bytesOf_28 ?_
              refine lv_topi (fun x238 ex238 => ?_)
              obtain rfl : x238 = 1 := ex238.trans (by decide)
              refine lv_istore_n (lv' := [(1, .int 1), (2, .int 2), (0, .int z0)]) hx hb dX11_bytesOf_29 rfl hl (by decide) rfl (fun ls hl => ?_)
              refine lv_iinc (v := 3) (lv' := [(2, .int 3), (1, .int 1), (0, .int z0)]) hx hb dX11_bytesOf_30 hl (k := 1) rfl (by decide) (by decide) rfl (fun ls hl => ?_)
              refine lv_goto (tgt := 4) hx hb dX11_bytesOf_33 (by decide) ?_
              refine lv_iload_n hx hb dX11_bytesOf_4 rfl (lv_at hl 0 rfl) ?_
              refine lv_iconst (v := 4) hx hb dX11_bytesOf_5 (by decide) ?_
              refine lv_icmp_ge (tgt := 36) hx hb dX11_bytesOf_6 (by decide) (fun c239 => ?_) (fun c239 => ?_)
              ·
                have cc240 : (4 : Int32).toInt ≤ (3 : Int32).toInt := i32_le.mp c239
                exact In.empty (lo := 4) (hi := 3) (In.ge1 (⟨by decide, by decide⟩ : In 3 3 3) (⟨by decide, by decide⟩ : In 4 4 4) cc240 (by omega) (by omega)) (by decide)
              ·
                refine lv_iload_n hx hb dX11_bytesOf_9 rfl (lv_at hl 1 rfl) ?_
                refine lv_iload_n hx hb dX11_bytesOf_10 rfl (lv_at hl 2 rfl) ?_
                refine lv_bipush (v := 8) hx hb dX11_bytesOf_11 (by decide) ?_
                refine lv_iload_n hx hb dX11_bytesOf_13 rfl (lv_at hl 0 rfl) ?_
                refine lv_imul hx hb dX11_bytesOf_14 ?_
                refine lv_topi (fun x241 ex241 => ?_)
                obtain rfl : x241 = 24 := ex241.trans (by decide)
                refine lv_ishr hx hb dX11_bytesOf_15 ?_
                refine lv_topi (fun x242 ex242 => ?_)
                refine lv_sipush (v := 255) hx hb dX11_bytesOf_16 (by decide) ?_
                refine lv_iand hx hb dX11_bytesOf_19 ?_
                refine lv_topi (fun x243 ex243 => ?_)
                have hb244 : In x243 0 255 := ex243 ▸ In.andr (⟨by decide, by decide⟩ : In 255 255 255) (by decide)
                refine lv_if_ne (tgt := 27) hx hb dX11_bytesOf_20 (by decide) (fun c245 => ?_) (fun c245 => ?_)
                ·
                  have cc246 : x243.toInt ≠ (0 : Int32).toInt := i32_ne c245
                  have hb247 : In x243 1 255 := In.ne1 hb244 (⟨by decide, by decide⟩ : In 0 0 0) cc246 (by omega) (by omega)
                  refine lv_iconst (v := 1) hx hb dX11_bytesOf_27 (by decide) ?_
                  refine lv_iadd hx hb dX11_bytesOf_28 ?_
                  refine lv_topi (fun x248 ex248 => ?_)
                  obtain rfl : x248 = 2 := ex248.trans (by decide)
                  refine lv_istore_n (lv' := [(1, .int 2), (2, .int 3), (0, .int z0)]) hx hb dX11_bytesOf_29 rfl hl (by decide) rfl (fun ls hl => ?_)
                  refine lv_iinc (v := 4) (lv' := [(2, .int 4), (1, .int 2), (0, .int z0)]) hx hb dX11_bytesOf_30 hl (k := 1) rfl (by decide) (by decide) rfl (fun ls hl => ?_)
                  refine lv_goto (tgt := 4) hx hb dX11_bytesOf_33 (by decide) ?_
                  refine lv_iload_n hx hb dX11_bytesOf_4 rfl (lv_at hl 0 rfl) ?_
                  refine lv_iconst (v := 4) hx hb dX11_bytesOf_5 (by decide) ?_
                  refine lv_icmp_ge (tgt := 36) hx hb dX11_bytesOf_6 (by decide) (fun c249 => ?_) (fun c249 => ?_)
                  ·
                    refine lv_iload_n hx hb dX11_bytesOf_36 rfl (lv_at hl 1 rfl) ?_
                    have hby250 : b1 z0 0 = 0 := b1_0 (by rw [show byS z0 0 = x5 by rw [ex5, ex4]; rfl]; exact c7)
                    have hby251 : b1 z0 8 = 0 := b1_0 (by rw [show byS z0 8 = x157 by rw [ex157, ex156]; rfl]; exact c159)
                    have hby252 : b1 z0 16 = 1 := b1_1 (by rw [show byS z0 16 = x233 by rw [ex233, ex232]; rfl]; exact c235)
                    have hby253 : b1 z0 24 = 1 := b1_1 (by rw [show byS z0 24 = x243 by rw [ex243, ex242]; rfl]; exact c245)
                    exact ret_i (ty := .int) hx hb hr hlocks (rfl) hP hD hS (Nat.le_of_ble_eq_true rfl) (Nat.le_of_ble_eq_true rfl) (⟨rfl, rfl, (⟨by decide, by decide⟩ : In 2 0 4), (by have e0 : (2 : Int32).toInt = 2 := (by decide); unfold nb; omega)⟩) dX11_bytesOf_37
                  ·
                    have cc254 : (4 : Int32).toInt < (4 : Int32).toInt := i32_nle c249
                    exact In.empty (lo := 4) (hi := 3) (In.lt1 (⟨by decide, by decide⟩ : In 4 4 4) (⟨by decide, by decide⟩ : In 4 4 4) cc254 (by omega) (by omega)) (by decide)
                ·
                  have cc255 : x243.toInt = (0 : Int32).toInt := congrArg Int32.toInt c245
                  have hb256 : In x243 0 0 := In.eq1 hb244 (⟨by decide, by decide⟩ : In 0 0 0) cc255 (by omega) (by omega)
                  refine lv_iconst (v := 0) hx hb dX11_bytesOf_23 (by decide) ?_
                  refine lv_goto (tgt := 28) hx hb dX11_bytesOf_24 (by decide) ?_
                  refine lv_iadd hx hb dX11_bytesOf_28 ?_
                  refine lv_topi (fun x257 ex257 => ?_)
                  obtain rfl : x257 = 1 := ex257.trans (by decide)
                  refine lv_istore_n (lv' := [(1, .int 1), (2, .int 3), (0, .int z0)]) hx hb dX11_bytesOf_29 rfl hl (by decide) rfl (fun ls hl => ?_)
                  refine lv_iinc (v := 4) (lv' := [(2, .int 4), (1, .int 1), (0, .int z0)]) hx hb dX11_bytesOf_30 hl (k := 1) rfl (by decide) (by decide) rfl (fun ls hl => ?_)
                  refine lv_goto (tgt := 4) hx hb dX11_bytesOf_33 (by decide) ?_
                  refine lv_iload_n hx hb dX11_bytesOf_4 rfl (lv_at hl 0 rfl) ?_
                  refine lv_iconst (v := 4) hx hb dX11_bytesOf_5 (by decide) ?_
                  refine lv_icmp_ge (tgt := 36) hx hb dX11_bytesOf_6 (by decide) (fun c258 => ?_) (fun c258 => ?_)
                  ·
                    refine lv_iload_n hx hb dX11_bytesOf_36 rfl (lv_at hl 1 rfl) ?_
                    have hby259 : b1 z0 0 = 0 := b1_0 (by rw [show byS z0 0 = x5 by rw [ex5, ex4]; rfl]; exact c7)
                    have hby260 : b1 z0 8 = 0 := b1_0 (by rw [show byS z0 8 = x157 by rw [ex157, ex156]; rfl]; exact c159)
                    have hby261 : b1 z0 16 = 1 := b1_1 (by rw [show byS z0 16 = x233 by rw [ex233, ex232]; rfl]; exact c235)
                    have hby262 : b1 z0 24 = 0 := b1_0 (by rw [show byS z0 24 = x243 by rw [ex243, ex242]; rfl]; exact c245)
                    exact ret_i (ty := .int) hx hb hr hlocks (rfl) hP hD hS (Nat.le_of_ble_eq_true rfl) (Nat.le_of_ble_eq_true rfl) (⟨rfl, rfl, (⟨by decide, by decide⟩ : In 1 0 4), (by have e0 : (1 : Int32).toInt = 1 := (by decide); unfold nb; omega)⟩) dX11_bytesOf_37
                  ·
                    have cc263 : (4 : Int32).toInt < (4 : Int32).toInt := i32_nle c258
                    exact In.empty (lo := 4) (hi := 3) (In.lt1 (⟨by decide, by decide⟩ : In 4 4 4) (⟨by decide, by decide⟩ : In 4 4 4) cc263 (by omega) (by omega)) (by decide)
            ·
              have cc264 : x233.toInt = (0 : Int32).toInt := congrArg Int32.toInt c235
              have hb265 : In x233 0 0 := In.eq1 hb234 (⟨by decide, by decide⟩ : In 0 0 0) cc264 (by omega) (by omega)
              refine lv_iconst (v := 0) hx hb dX11_bytesOf_23 (by decide) ?_
              refine lv_goto (tgt := 28) hx hb dX11_bytesOf_24 (by decide) ?_
              refine lv_iadd hx hb dX11_bytesOf_28 ?_
              refine lv_topi (fun x266 ex266 => ?_)
              obtain rfl : x266 = 0 := ex266.trans (by decide)
              refine lv_istore_n (lv' := [(1, .int 0), (2, .int 2), (0, .int z0)]) hx hb dX11_bytesOf_29 rfl hl (by decide) rfl (fun ls hl => ?_)
              refine lv_iinc (v := 3) (lv' := [(2, .int 3), (1, .int 0), (0, .int z0)]) hx hb dX11_bytesOf_30 hl (k := 1) rfl (by decide) (by decide) rfl (fun ls hl => ?_)
              refine lv_goto (tgt := 4) hx hb dX11_bytesOf_33 (by decide) ?_
              refine lv_iload_n hx hb dX11_bytesOf_4 rfl (lv_at hl 0 rfl) ?_
              refine lv_iconst (v := 4) hx hb dX11_bytesOf_5 (by decide) ?_
              refine lv_icmp_ge (tgt := 36) hx hb dX11_bytesOf_6 (by decide) (fun c267 => ?_) (fun c267 => ?_)
              ·
                have cc268 : (4 : Int32).toInt ≤ (3 : Int32).toInt := i32_le.mp c267
                exact In.empty (lo := 4) (hi := 3) (In.ge1 (⟨by decide, by decide⟩ : In 3 3 3) (⟨by decide, by decide⟩ : In 4 4 4) cc268 (by omega) (by omega)) (by decide)
              ·
                refine lv_iload_n hx hb dX11_bytesOf_9 rfl (lv_at hl 1 rfl) ?_
                refine lv_iload_n hx hb dX11_bytesOf_10 rfl (lv_at hl 2 rfl) ?_
                refine lv_bipush (v := 8) hx hb dX11_bytesOf_11 (by decide) ?_
                refine lv_iload_n hx hb dX11_bytesOf_13 rfl (lv_at hl 0 rfl) ?_
                refine lv_imul hx hb dX11_bytesOf_14 ?_
                refine lv_topi (fun x269 ex269 => ?_)
                obtain rfl : x269 = 24 := ex269.trans (by decide)
                refine lv_ishr hx hb dX11_bytesOf_15 ?_
                refine lv_topi (fun x270 ex270 => ?_)
                refine lv_sipush (v := 255) hx hb dX11_bytesOf_16 (by decide) ?_
                refine lv_iand hx hb dX11_bytesOf_19 ?_
                refine lv_topi (fun x271 ex271 => ?_)
                have hb272 : In x271 0 255 := ex271 ▸ In.andr (⟨by decide, by decide⟩ : In 255 255 255) (by decide)
                refine lv_if_ne (tgt := 27) hx hb dX11_bytesOf_20 (by decide) (fun c273 => ?_) (fun c273 => ?_)
                ·
                  have cc274 : x271.toInt ≠ (0 : Int32).toInt := i32_ne c273
                  have hb275 : In x271 1 255 := In.ne1 hb272 (⟨by decide, by decide⟩ : In 0 0 0) cc274 (by omega) (by omega)
                  refine lv_iconst (v := 1) hx hb dX11_bytesOf_27 (by decide) ?_
                  refine lv_iadd hx hb dX11_bytesOf_28 ?_
                  refine lv_topi (fun x276 ex276 => ?_)
                  obtain rfl : x276 = 1 := ex276.trans (by decide)
                  refine lv_istore_n (lv' := [(1, .int 1), (2, .int 3), (0, .int z0)]) hx hb dX11_bytesOf_29 rfl hl (by decide) rfl (fun ls hl => ?_)
                  refine lv_iinc (v := 4) (lv' := [(2, .int 4), (1, .int 1), (0, .int z0)]) hx hb dX11_bytesOf_30 hl (k := 1) rfl (by decide) (by decide) rfl (fun ls hl => ?_)
                  refine lv_goto (tgt := 4) hx hb dX11_bytesOf_33 (by decide) ?_
                  refine lv_iload_n hx hb dX11_bytesOf_4 rfl (lv_at hl 0 rfl) ?_
                  refine lv_iconst (v := 4) hx hb dX11_bytesOf_5 (by decide) ?_
                  refine lv_icmp_ge (tgt := 36) hx hb dX11_bytesOf_6 (by decide) (fun c277 => ?_) (fun c277 => ?_)
                  ·
                    refine lv_iload_n hx hb dX11_bytesOf_36 rfl (lv_at hl 1 rfl) ?_
                    have hby278 : b1 z0 0 = 0 := b1_0 (by rw [show byS z0 0 = x5 by rw [ex5, ex4]; rfl]; exact c7)
                    have hby279 : b1 z0 8 = 0 := b1_0 (by rw [show byS z0 8 = x157 by rw [ex157, ex156]; rfl]; exact c159)
                    have hby280 : b1 z0 16 = 0 := b1_0 (by rw [show byS z0 16 = x233 by rw [ex233, ex232]; rfl]; exact c235)
                    have hby281 : b1 z0 24 = 1 := b1_1 (by rw [show byS z0 24 = x271 by rw [ex271, ex270]; rfl]; exact c273)
                    exact ret_i (ty := .int) hx hb hr hlocks (rfl) hP hD hS (Nat.le_of_ble_eq_true rfl) (Nat.le_of_ble_eq_true rfl) (⟨rfl, rfl, (⟨by decide, by decide⟩ : In 1 0 4), (by have e0 : (1 : Int32).toInt = 1 := (by decide); unfold nb; omega)⟩) dX11_bytesOf_37
                  ·
                    have cc282 : (4 : Int32).toInt < (4 : Int32).toInt := i32_nle c277
                    exact In.empty (lo := 4) (hi := 3) (In.lt1 (⟨by decide, by decide⟩ : In 4 4 4) (⟨by decide, by decide⟩ : In 4 4 4) cc282 (by omega) (by omega)) (by decide)
                ·
                  have cc283 : x271.toInt = (0 : Int32).toInt := congrArg Int32.toInt c273
                  have hb284 : In x271 0 0 := In.eq1 hb272 (⟨by decide, by decide⟩ : In 0 0 0) cc283 (by omega) (by omega)
                  refine lv_iconst (v := 0) hx hb dX11_bytesOf_23 (by decide) ?_
                  refine lv_goto (tgt := 28) hx hb dX11_bytesOf_24 (by decide) ?_
                  refine lv_iadd hx hb dX11_bytesOf_28 ?_
                  refine lv_topi (fun x285 ex285 => ?_)
                  obtain rfl : x285 = 0 := ex285.trans (by decide)
                  refine lv_istore_n (lv' := [(1, .int 0), (2, .int 3), (0, .int z0)]) hx hb dX11_bytesOf_29 rfl hl (by decide) rfl (fun ls hl => ?_)
                  refine lv_iinc (v := 4) (lv' := [(2, .int 4), (1, .int 0), (0, .int z0)]) hx hb dX11_bytesOf_30 hl (k := 1) rfl (by decide) (by decide) rfl (fun ls hl => ?_)
                  refine lv_goto (tgt := 4) hx hb dX11_bytesOf_33 (by decide) ?_
                  refine lv_iload_n hx hb dX11_bytesOf_4 rfl (lv_at hl 0 rfl) ?_
                  refine lv_iconst (v := 4) hx hb dX11_bytesOf_5 (by decide) ?_
                  refine lv_icmp_ge (tgt := 36) hx hb dX11_bytesOf_6 (by decide) (fun c286 => ?_) (fun c286 => ?_)
                  ·
                    refine lv_iload_n hx hb dX11_bytesOf_36 rfl (lv_at hl 1 rfl) ?_
                    have hby287 : b1 z0 0 = 0 := b1_0 (by rw [show byS z0 0 = x5 by rw [ex5, ex4]; rfl]; exact c7)
                    have hby288 : b1 z0 8 = 0 := b1_0 (by rw [show byS z0 8 = x157 by rw [ex157, ex156]; rfl]; exact c159)
                    have hby289 : b1 z0 16 = 0 := b1_0 (by rw [show byS z0 16 = x233 by rw [ex233, ex232]; rfl]; exact c235)
                    have hby290 : b1 z0 24 = 0 := b1_0 (by rw [show byS z0 24 = x271 by rw [ex271, ex270]; rfl]; exact c273)
                    exact ret_i (ty := .int) hx hb hr hlocks (rfl) hP hD hS (Nat.le_of_ble_eq_true rfl) (Nat.le_of_ble_eq_true rfl) (⟨rfl, rfl, (⟨by decide, by decide⟩ : In 0 0 4), (by have e0 : (0 : Int32).toInt = 0 := (by decide); unfold nb; omega)⟩) dX11_bytesOf_37
                  ·
                    have cc291 : (4 : Int32).toInt < (4 : Int32).toInt := i32_nle c286
                    exact In.empty (lo := 4) (hi := 3) (In.lt1 (⟨by decide, by decide⟩ : In 4 4 4) (⟨by decide, by decide⟩ : In 4 4 4) cc291 (by omega) (by omega)) (by decide)

abbrev rm_X11_brings : Room := { frames := 0, cells := 0, slots := 0, locals := 0 }
abbrev po_X11_brings (g : GG) (ad : Nat → Nat) (th : Nat → Int) (L : List Nat) (f : HP) (z1 : Int32) : (List Nat × HP) → Prop := fun u => u.1 = L ∧ (∃ zz : Int, (zz = th 13 + nb z1) ∧ TI g ad (gset th 13 zz) u.2) ∧ (∀ b, b ≠ (ad 255) → b ≠ (ad 256) → u.2 b = f b)
set_option maxHeartbeats 4000000 in
set_option maxRecDepth 100000 in
theorem s_X11_brings (l : Launch) (g : GG) (ad : Nat → Nat) (th : Nat → Int) (L : List Nat) (f : HP) (sz : Nat) (z1 : Int32) (hst : ST ad L) (hT : TI g ad th f) (hbr : th 13 + nb z1 ≤ 500) : MtV l g yX11_brings cX11_brings 4 rm_X11_brings [.ref (ad 255), .int z1] L f sz (po_X11_brings g ad th L f z1) := by
  refine MtV.of (by decide +kernel) (Nat.le_of_ble_eq_true rfl) ?_
  intro p e s m below meth c A hEn hP hD hS ls hl
  obtain ⟨hx, hb, hr, hml, hown, hlocks, hts, hG, hA, hE, hnm⟩ := hEn
  have hown : s.vm.findClass "RulerWordModel" = some m.cls := hown
  have hl : lv_has ls 4 [(0, .ref (ad 255)), (1, .int z1)] := hl
  have hfr : (∀ b, b ≠ (ad 255) → b ≠ (ad 256) → f b = f b) := fun b z0_ z1_ => rfl
  refine lv_bipush (v := 24) hx hb dX11_brings_0 (by decide) ?_
  refine lv_istore_n (lv' := [(2, .int 24), (0, .ref (ad 255)), (1, .int z1)]) hx hb dX11_brings_2 rfl hl (by decide) rfl (fun ls hl => ?_)
  have hJ3 : ∀ (k3 : Nat) (zg3_zz : Int) (y3_l2 : Int32) (f_3 : HP) (H : Heap) (locs : List Loc) (ls : Array Slot), (zg3_zz = th 13 + sK z1 y3_l2.toInt) → In y3_l2 (-8) 24 → va_P g.1 vwCl (va_pl L f_3) H → va_D A (va_pl L f_3) → va_S A s.heap H locs → TI g ad (gset th 13 zg3_zz) f_3 → (∀ b, b ≠ (ad 255) → b ≠ (ad 256) → f_3 b = f b) → (y3_l2.toInt = 24 ∨ y3_l2.toInt = 16 ∨ y3_l2.toInt = 8 ∨ y3_l2.toInt = 0 ∨ y3_l2.toInt = -8) → lv_has ls 4 [(0, .ref (ad 255)), (1, .int z1), (2, .int y3_l2)] → y3_l2.toInt - (-8) < ((k3 : Nat) : Int) → W p l e rm_X11_brings s m [.ref (ad 255), .int z1].toArray below meth c H locs 0 0 (MQ below (va_Qv (po_X11_brings g ad th L f z1) (PstB g A) A) [.ref (ad 255), .int z1].toArray s rm_X11_brings.cells rm_X11_brings.slots A) (F0 m 3 ls []) := by
    intro k3
    induction k3 with
    | zero =>
      intro zg3_zz y3_l2 f_3 H locs ls hzg3 hy3_l2 hP hD hS hT hfr hinv3_0 hl hmz3
      exact ms0d hy3_l2 hmz3
    | succ k3 ih3 =>
      intro zg3_zz y3_l2 f_3 H locs ls hzg3 hy3_l2 hP hD hS hT hfr hinv3_0 hl hmz3
      refine lv_iload_n hx hb dX11_brings_3 rfl (lv_at hl 2 rfl) ?_
      refine lv_if_lt (tgt := 49) hx hb dX11_brings_4 (by decide) (fun c1 => ?_) (fun c1 => ?_)
      ·
        have oc0 : (0 : Int32).toInt = 0 := by decide
        have cc2 : y3_l2.toInt < (0 : Int32).toInt := i32_lt.mp c1
        have hb3 : In y3_l2 (-8) (-1) := In.lt1 hy3_l2 (⟨by decide, by decide⟩ : In 0 0 0) cc2 (by decide) (by decide)
        exact ret_v hx hb hr hlocks hP hD hS (Nat.le_of_ble_eq_true rfl) (Nat.le_of_ble_eq_true rfl) (⟨rfl, ⟨zg3_zz, (show zg3_zz = th 13 + nb z1 from (by have := sK_end (z := z1) (k := y3_l2) (by omega) (by omega); omega)), TI.cast hT (by funext q; by_cases hq0 : q = 13; (subst hq0; rfl); simp only [gset, if_neg hq0])⟩, hfr⟩) dX11_brings_49
      ·
        have oc0 : (0 : Int32).toInt = 0 := by decide
        have cc4 : (0 : Int32).toInt ≤ y3_l2.toInt := i32_nlt c1
        have hb5 : In y3_l2 0 24 := In.ge1 hy3_l2 (⟨by decide, by decide⟩ : In 0 0 0) cc4 (by decide) (by decide)
        refine lv_iload_n hx hb dX11_brings_7 rfl (lv_at hl 1 rfl) ?_
        refine lv_iload_n hx hb dX11_brings_8 rfl (lv_at hl 2 rfl) ?_
        refine lv_ishr hx hb dX11_brings_9 ?_
        refine lv_topi (fun x6 ex6 => ?_)
        refine lv_sipush (v := 255) hx hb dX11_brings_10 (by decide) ?_
        refine lv_iand hx hb dX11_brings_13 ?_
        refine lv_topi (fun x7 ex7 => ?_)
        have hb8 : In x7 0 255 := ex7 ▸ In.andr (⟨by decide, by decide⟩ : In 255 255 255) (by decide)
        refine lv_istore_n (lv' := [(3, .int x7), (0, .ref (ad 255)), (1, .int z1), (2, .int y3_l2)]) hx hb dX11_brings_14 rfl hl (by decide) rfl (fun ls hl => ?_)
        refine lv_iload_n hx hb dX11_brings_15 rfl (lv_at hl 0 rfl) ?_
        have hJ43 : ∀ (zg43_zz : Int) (f_43 : HP) (H : Heap) (locs : List Loc) (ls : Array Slot), (zg43_zz = th 13 + sK z1 (y3_l2.toInt + -8)) → va_P g.1 vwCl (va_pl L f_43) H → va_D A (va_pl L f_43) → va_S A s.heap H locs → TI g ad (gset th 13 zg43_zz) f_43 → (∀ b, b ≠ (ad 255) → b ≠ (ad 256) → f_43 b = f b) → lv_has ls 4 [(0, .ref (ad 255)), (1, .int z1), (2, .int y3_l2), (3, .int x7)] → W p l e rm_X11_brings s m [.ref (ad 255), .int z1].toArray below meth c H locs 0 0 (MQ below (va_Qv (po_X11_brings g ad th L f z1) (PstB g A) A) [.ref (ad 255), .int z1].toArray s rm_X11_brings.cells rm_X11_brings.slots A) (F0 m 43 ls []) := by
          intro zg43_zz f_43 H locs ls hzg43 hP hD hS hT hfr hl
          obtain ⟨x9, ex9⟩ : ∃ y : Int32, y = y3_l2 + (-8) := ⟨_, rfl⟩
          have hb10 : In x9 (-8) 16 := ex9 ▸ In.add hb5 (⟨by decide, by decide⟩ : In (-8) (-8) (-8)) (by decide) (by decide) (by decide) (by decide)
          have et11 : x9.toInt = y3_l2.toInt + (-8) := In.adde ex9 hb5 (k := (-8)) (by decide) (by decide) (by decide)
          refine lv_iinc (v := x9) (lv' := [(2, .int x9), (0, .ref (ad 255)), (1, .int z1), (3, .int x7)]) hx hb dX11_brings_43 hl (k := 2) rfl (by rw [ex9]; rfl) (by decide) rfl (fun ls hl => ?_)
          refine lv_goto (tgt := 3) hx hb dX11_brings_46 (by decide) ?_
          exact ih3 zg43_zz x9 _ _ _ _ (by rw [et11]; omega) (In.mono hb10 (by decide) (by decide)) hP hD hS (TI.cast hT (by funext q; by_cases hq0 : q = 13; (subst hq0; rfl); simp only [gset, if_neg hq0])) hfr (by have ob13 : (0 : Int) ≤ zg43_zz ∧ zg43_zz ≤ 500 := (b0_13 hT :); obtain ⟨o0a, o0b⟩ := (hb10 : In _ _ _); obtain ⟨o1a, o1b⟩ := (hb5 : In _ _ _); omega) (lv_sub hl [1, 2, 0] rfl) (msd et11 (by decide) hmz3)
        refine lv_if_ne (tgt := 22) hx hb dX11_brings_16 (by decide) (fun c12 => ?_) (fun c12 => ?_)
        ·
          have oc0 : (0 : Int32).toInt = 0 := by decide
          have cc13 : x7.toInt ≠ (0 : Int32).toInt := i32_ne c12
          have hb14 : In x7 1 255 := In.ne1 hb8 (⟨by decide, by decide⟩ : In 0 0 0) cc13 (by decide) (by decide)
          have hb1k : b1 z1 y3_l2 = 1 := b1_1 (by rw [show byS z1 y3_l2 = x7 by rw [ex7, ex6]; rfl]; exact c12)
          have hsk := sK_step (z := z1) (k := y3_l2) (by omega)
          refine lv_aload_n hx hb dX11_brings_22 rfl (lv_at hl 1 rfl) ?_
          refine M0e hT (fun v0_15 v2_15 v3_15 v4_15 v5_15 v6_15 v8_15 v9_15 v12_15 v13_15 v14_15 v15_15 v16_15 v17_15 v18_15 v19_15 v20_15 v21_15 v22_15 v23_15 v25_15 v36_15 v37_15 v38_15 v39_15 v40_15 v45_15 v46_15 v47_15 v48_15 v50_15 v51_15 v53_15 v55_15 hf16 hv0_15 hv2_15 hg2_15 hv3_15 hg3_15 hv4_15 hg4_15 hv5_15 hg5_15 hv6_15 hg6_15 hv8_15 hg8_15 hv9_15 hg9_15 hv12_15 hv13_15 hg13_15 hv14_15 hg14_15 hv15_15 hg15_15 hv17_15 hg17_15 hv20_15 hg20_15 hv23_15 hg23_15 hv25_15 hg25_15 hv36_15 hg36_15 hv47_15 hg47_15 hv48_15 hg48_15 hv53_15 hg53_15 hv55_15 hg55_15 hrel0_15 => ?_)
          have hg15_15 : v15_15.toInt = th 11 := hg15_15
          have hg17_15 : v17_15.toInt = th 12 := hg17_15
          have hg20_15 : v20_15.toInt = th 14 := hg20_15
          refine pl_get (v := .ref (ad 256)) hx hb hts (fun w h => mT (inX11 w h)) hown hG.1 hP (hst.1 255 (by decide)) hf16 rfl 1 (by decide) (hts _ (mT wg_1337)) (fun _ h => h) rfl dX11_brings_23 ?_
          refine lv_aload_n hx hb dX11_brings_26 rfl (lv_at hl 1 rfl) ?_
          refine pl_get (v := .int v2_15) hx hb hts (fun w h => mT (inX11 w h)) hown hG.1 hP (hst.1 255 (by decide)) hf16 rfl 2 (by decide) (hts _ (mT wg_1338)) (fun _ h => h) rfl dX11_brings_27 ?_
          have hg2_15 : v2_15.toInt = zg3_zz := hg2_15
          refine lv_iload_n hx hb dX11_brings_30 rfl (lv_at hl 0 rfl) ?_
          refine lv_i2b hx hb dX11_brings_31 rfl ?_
          refine lv_topi (fun x17 ex17 => ?_)
          obtain ⟨rw18, hf19, hc20⟩ := hT.2.2 1 (by decide)
          refine pl_bastE hx hb hG.1 hP hD hS (hst.1 256 (by decide)) 2 hf19 rfl (vp_of (by have ob13 : (0 : Int) ≤ zg3_zz ∧ zg3_zz ≤ 500 := (b0_13 hT :); obtain ⟨o0a, o0b⟩ := (hv2_15 : In _ _ _); omega) (by have ob13 : (0 : Int) ≤ zg3_zz ∧ zg3_zz ≤ 500 := (b0_13 hT :); obtain ⟨o0a, o0b⟩ := (hv2_15 : In _ _ _); omega)) dX11_brings_32 (fun H locs f21 r24 er24 hf22 ho23 hP hD hS => ?_)
          have hc25 : ∀ i : Nat, i < 500 → In (r24 i) (-128) 127 := cont_upd er24 hc20 (nar_byte _)
          have hf26 := (ho23 (ad 255) (hst.ne (by decide) (by decide) (by decide))).trans hf16
          have hfr : (∀ b, b ≠ (ad 255) → b ≠ (ad 256) → f21 b = f b) := fun b z0_ z1_ => (ho23 b z1_).trans (hfr b z0_ z1_)
          refine lv_aload_n hx hb dX11_brings_33 rfl (lv_at hl 1 rfl) ?_
          refine lv_dup hx hb dX11_brings_34 rfl ?_
          refine pl_get (v := .int v2_15) hx hb hts (fun w h => mT (inX11 w h)) hown hG.1 hP (hst.1 255 (by decide)) hf26 rfl 2 (by decide) (hts _ (mT wg_1338)) (fun _ h => h) rfl dX11_brings_35 ?_
          refine lv_iconst (v := 1) hx hb dX11_brings_38 (by decide) ?_
          refine lv_iadd hx hb dX11_brings_39 ?_
          refine lv_topi (fun x27 ex27 => ?_)
          have hb28 : In x27 1 501 := ex27 ▸ In.add hv2_15 (⟨by decide, by decide⟩ : In 1 1 1) (by decide) (by decide) (by decide) (by decide)
          have et29 : x27.toInt = v2_15.toInt + 1 := In.adde ex27 hv2_15 (k := 1) (by decide) (by decide) (by decide)
          have hT := TI.updM hT hst (k := 1) (by decide) hf22 ho23 ⟨r24, rfl, hc25⟩
          refine pl_put (ty := .int) (v := .int x27) (fs' := [.int v0_15, .ref (ad 256), .int x27, .int v3_15, .int v4_15, .int v5_15, .int v6_15, .ref (ad 257), .int v8_15, .int v9_15, .ref (ad 258), .ref (ad 259), .int v12_15, .int v13_15, .int v14_15, .int v15_15, .int v16_15, .int v17_15, .int v18_15, .int v19_15, .int v20_15, .long v21_15, .long v22_15, .int v23_15, .ref (ad 260), .int v25_15, .ref (ad 261), .ref (ad 262), .ref (ad 263), .ref (ad 264), .ref (ad 265), .ref (ad 266), .ref (ad 267), .ref (ad 268), .ref (ad 269), .ref (ad 270), .int v36_15, .int v37_15, .int v38_15, .int v39_15, .int v40_15, .ref (ad 271), .ref (ad 272), .ref (ad 273), .ref (ad 274), .long v45_15, .long v46_15, .int v47_15, .int v48_15, .ref (ad 275), .int v50_15, .int v51_15, .ref (ad 276), .int v53_15, .ref (ad 277), .int v55_15]) hx hb hts (fun w h => mT (inX11 w h)) tyX11 tyX11_ok nmX11 hown hG.1 hP hD hS (hst.1 255 (by decide)) hf26 rfl 2 (by decide) (hts _ (mT wg_1338)) (fun _ h => h) rfl (by decide +kernel) (rfl) (rfl) (Nat.le_of_ble_eq_true rfl) rfl dX11_brings_40 (fun H locs f30 hf31 ho32 hP hD hS => ?_)
          have hf33 := (ho32 (ad 256) (hst.ne (by decide) (by decide) (by decide))).trans hf22
          have hfr : (∀ b, b ≠ (ad 255) → b ≠ (ad 256) → f30 b = f b) := fun b z0_ z1_ => (ho32 b z0_).trans (hfr b z0_ z1_)
          have hT := TI.updMG (th' := (gset (gset th 13 zg3_zz) 13 (x27.toInt))) hT hst (k := 0) (by decide) hf31 ho32 ⟨v0_15, x27, v3_15, v4_15, v5_15, v6_15, v8_15, v9_15, v12_15, v13_15, v14_15, v15_15, v16_15, v17_15, v18_15, v19_15, v20_15, v21_15, v22_15, v23_15, v25_15, v36_15, v37_15, v38_15, v39_15, v40_15, v45_15, v46_15, v47_15, v48_15, v50_15, v51_15, v53_15, v55_15, rfl, hv0_15, (In.mk (by have ob13 : (0 : Int) ≤ zg3_zz ∧ zg3_zz ≤ 500 := (b0_13 hT :); obtain ⟨o0a, o0b⟩ := (hb28 : In _ _ _); obtain ⟨o1a, o1b⟩ := (hv2_15 : In _ _ _); omega) (by have ob13 : (0 : Int) ≤ zg3_zz ∧ zg3_zz ≤ 500 := (b0_13 hT :); obtain ⟨o0a, o0b⟩ := (hb28 : In _ _ _); obtain ⟨o1a, o1b⟩ := (hv2_15 : In _ _ _); omega)), rfl, hv3_15, hg3_15, hv4_15, hg4_15, hv5_15, hg5_15, hv6_15, hg6_15, hv8_15, hg8_15, hv9_15, hg9_15, hv12_15, hv13_15, hg13_15, hv14_15, hg14_15, hv15_15, hg15_15, hv17_15, hg17_15, hv20_15, hg20_15, hv23_15, hg23_15, hv25_15, hg25_15, hv36_15, hg36_15, hv47_15, hg47_15, hv48_15, hg48_15, hv53_15, hg53_15, hv55_15, hg55_15, hrel0_15⟩ (fun q hq => ((gset_ne (fun e => hq (by subst e; decide))).trans rfl))
          have hT : TI g ad (gset th 13 x27.toInt) f30 := TI.cast hT (by funext q; by_cases hq0 : q = 13; (subst hq0; rfl); simp only [gset, if_neg hq0])
          exact hJ43 x27.toInt _ _ _ _ (by omega) hP hD hS (TI.cast hT (by funext q; by_cases hq0 : q = 13; (subst hq0; rfl); simp only [gset, if_neg hq0])) hfr (lv_sub hl [1, 2, 3, 0] rfl)
        ·
          have oc0 : (0 : Int32).toInt = 0 := by decide
          have cc34 : x7.toInt = (0 : Int32).toInt := congrArg Int32.toInt c12
          have hb35 : In x7 0 0 := In.eq1 hb8 (⟨by decide, by decide⟩ : In 0 0 0) cc34 (by decide) (by decide)
          have hb1k : b1 z1 y3_l2 = 0 := b1_0 (by rw [show byS z1 y3_l2 = x7 by rw [ex7, ex6]; rfl]; exact c12)
          have hsk := sK_step (z := z1) (k := y3_l2) (by omega)
          refine lv_goto (tgt := 43) hx hb dX11_brings_19 (by decide) ?_
          exact hJ43 zg3_zz _ _ _ _ (by omega) hP hD hS (TI.cast hT (by funext q; by_cases hq0 : q = 13; (subst hq0; rfl); simp only [gset, if_neg hq0])) hfr (lv_sub hl [1, 2, 3, 0] rfl)
  exact hJ3 (((24 : Int32).toInt - (-8)).toNat + 1) (th 13) 24 _ _ _ _ (show th 13 = th 13 + sK z1 ((24 : Int32).toInt) by rw [show (24 : Int32).toInt = 24 by decide, sK_0]; omega) (⟨by decide, by decide⟩ : In 24 (-8) 24) hP hD hS (TI.cast hT (by funext q; by_cases hq0 : q = 13; (subst hq0; rfl); simp only [gset, if_neg hq0])) hfr (by have ob13 : (0 : Int) ≤ (th 13) ∧ (th 13) ≤ 500 := (b0_13 hT :); have oc24 : (24 : Int32).toInt = 24 := (by decide); omega) (lv_sub hl [1, 2, 0] rfl) (msI _)
