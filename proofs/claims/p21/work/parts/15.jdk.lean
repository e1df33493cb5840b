/-! the JDK's own methods on the literals -/
theorem len_in : ∀ i, i < nS → (In (Int32.ofNat (lenS.getD i 0)) 0 7 ∧ (Int32.ofNat (lenS.getD i 0)).toInt = (lenS.getD i 0 : Int)) := by unfold In; decide +kernel
theorem shr0 (x : Int32) : x >>> ((0 : Int32) &&& 31) = x := by
  have e : (0 : Int32) &&& 31 = 0 := by decide
  rw [e]
  exact Int32.shiftRight_zero
abbrev rm_J0_coder : Room := { frames := 0, cells := 0, slots := 0, locals := 0 }
set_option maxHeartbeats 4000000 in
theorem s_J0_coder (l : Launch) (g : GG) (L : List Nat) (f : HP) (sz : Nat) (i : Nat) (hi : i < nS) : MtI l g yJ0_coder_7d493 cJ0_coder_7d493 1 (some .byte) rm_J0_coder [.ref (g.2.2.1 i)] L f sz (fun r u => u.1 = L ∧ u.2 = f ∧ r = 0) := by
  refine MtI.of (by decide +kernel) (Nat.le_of_ble_eq_true rfl) ?_
  intro p e s m below meth c A hEn hP hD hS ls hl
  obtain ⟨hx, hb, hr, hml, hown, hlocks, hts, hG, hA, hE, hnm⟩ := hEn
  have hown : s.vm.findClass "java/lang/String" = some m.cls := hown
  have hl : lv_has ls 1 [(0, .ref (g.2.2.1 i))] := hl
  refine va_gets hx hb hE.2.1 hS hown (hts _ (mT wg_582)) (fun _ h => h) dJ0_coder_7d493_0 ?_
  refine lv_if_eq (tgt := 13) hx hb dJ0_coder_7d493_3 (by decide) (fun c1 => absurd c1 (by decide)) (fun c1 => ?_)
  refine lv_aload_n hx hb dJ0_coder_7d493_6 rfl (lv_at hl 0 rfl) ?_
  refine vk_getf hx hb (hE.1 i hi).2.1 hS hown (hts _ (mT wg_1968)) (fun _ h => h) dJ0_coder_7d493_7 ?_
  refine lv_goto (tgt := 14) hx hb dJ0_coder_7d493_10 (by decide) ?_
  exact ret_i (ty := .byte) hx hb hr hlocks (rfl) hP hD hS (Nat.le_of_ble_eq_true rfl) (Nat.le_of_ble_eq_true rfl) ⟨rfl, rfl, rfl⟩ dJ0_coder_7d493_14
abbrev rm_J0_length : Room := { frames := 1, cells := 0, slots := 0, locals := 20 }
set_option maxHeartbeats 4000000 in
theorem s_J0_length (l : Launch) (g : GG) (L : List Nat) (f : HP) (sz : Nat) (i : Nat) (hi : i < nS) : MtI l g yJ0_length_8abf5 cJ0_length_8abf5 1 (some .int) rm_J0_length [.ref (g.2.2.1 i)] L f sz (fun r u => u.1 = L ∧ u.2 = f ∧ In r 0 7 ∧ r.toInt = (lenS.getD i 0 : Int)) := by
  refine MtI.of (by decide +kernel) (Nat.le_of_ble_eq_true rfl) ?_
  intro p e s m below meth c A hEn hP hD hS ls hl
  obtain ⟨hx, hb, hr, hml, hown, hlocks, hts, hG, hA, hE, hnm⟩ := hEn
  have hown : s.vm.findClass "java/lang/String" = some m.cls := hown
  have hl : lv_has ls 1 [(0, .ref (g.2.2.1 i))] := hl
  refine lv_aload_n hx hb dJ0_length_8abf5_0 rfl (lv_at hl 0 rfl) ?_
  refine vk_getf hx hb (hE.1 i hi).2.2.1 hS hown (hts _ (mT wg_1967)) (fun _ h => h) dJ0_length_8abf5_1 ?_
  refine va_tlen hx hb (hE.1 i hi).2.2.2 hS rfl dJ0_length_8abf5_4 ?_
  refine lv_aload_n hx hb dJ0_length_8abf5_5 rfl (lv_at hl 0 rfl) ?_
  refine call_i (run_VJ (rm := rm_J0_coder) hx hb hml hown hts (i := i) hi (s_J0_coder l g _ _ _ i hi) cV_J0_coder_7d493 wg_578 rfl ⟨Nat.le_of_ble_eq_true rfl, Nat.le_of_ble_eq_true rfl⟩ hG hE hA hP hD hS rfl hl.1 (As := []) (rest := [.int (Int32.ofNat (lenS.getD i 0))]) rfl (Nat.le_of_ble_eq_true rfl) dJ0_length_8abf5_6 ⟨Nat.le_of_ble_eq_true rfl, Nat.le_of_ble_eq_true rfl⟩) hA hD hS (fun r L2 f2 H locs hp hP hD hS => ?_)
  obtain ⟨e1, e2, e3⟩ : L2 = _ ∧ f2 = _ ∧ r = 0 := hp
  rw [e1, e2] at hP hD
  subst e3
  refine lv_ishr hx hb dJ0_length_8abf5_9 ?_
  refine lv_topi (fun x1 ex1 => ?_)
  obtain rfl : x1 = Int32.ofNat (lenS.getD i 0) := ex1.trans (shr0 _)
  exact ret_i (ty := .int) hx hb hr hlocks (rfl) hP hD hS (Nat.le_of_ble_eq_true rfl) (Nat.le_of_ble_eq_true rfl) ⟨rfl, rfl, (len_in i hi).1, (len_in i hi).2⟩ dJ0_length_8abf5_10
abbrev rm_J0_isLatin1 : Room := { frames := 0, cells := 0, slots := 0, locals := 0 }
set_option maxHeartbeats 4000000 in
theorem s_J0_isLatin1 (l : Launch) (g : GG) (L : List Nat) (f : HP) (sz : Nat) (i : Nat) (hi : i < nS) : MtI l g yJ0_isLatin1_aae02 cJ0_isLatin1_aae02 1 (some .boolean) rm_J0_isLatin1 [.ref (g.2.2.1 i)] L f sz (fun r u => u.1 = L ∧ u.2 = f ∧ r = 1) := by
  refine MtI.of (by decide +kernel) (Nat.le_of_ble_eq_true rfl) ?_
  intro p e s m below meth c A hEn hP hD hS ls hl
  obtain ⟨hx, hb, hr, hml, hown, hlocks, hts, hG, hA, hE, hnm⟩ := hEn
  have hown : s.vm.findClass "java/lang/String" = some m.cls := hown
  have hl : lv_has ls 1 [(0, .ref (g.2.2.1 i))] := hl
  refine va_gets hx hb hE.2.1 hS hown (hts _ (mT wg_582)) (fun _ h => h) dJ0_isLatin1_aae02_0 ?_
  refine lv_if_eq (tgt := 17) hx hb dJ0_isLatin1_aae02_3 (by decide) (fun c1 => absurd c1 (by decide)) (fun c1 => ?_)
  refine lv_aload_n hx hb dJ0_isLatin1_aae02_6 rfl (lv_at hl 0 rfl) ?_
  refine vk_getf hx hb (hE.1 i hi).2.1 hS hown (hts _ (mT wg_1968)) (fun _ h => h) dJ0_isLatin1_aae02_7 ?_
  refine lv_if_ne (tgt := 17) hx hb dJ0_isLatin1_aae02_10 (by decide) (fun c2 => absurd rfl c2) (fun c2 => ?_)
  refine lv_iconst (v := 1) hx hb dJ0_isLatin1_aae02_13 (by decide) ?_
  refine lv_goto (tgt := 18) hx hb dJ0_isLatin1_aae02_14 (by decide) ?_
  exact ret_i (ty := .boolean) hx hb hr hlocks (rfl) hP hD hS (Nat.le_of_ble_eq_true rfl) (Nat.le_of_ble_eq_true rfl) ⟨rfl, rfl, rfl⟩ dJ0_isLatin1_aae02_18
abbrev rm_J3_checkIndex : Room := { frames := 0, cells := 0, slots := 0, locals := 0 }
set_option maxHeartbeats 4000000 in
theorem s_J3_checkIndexN (l : Launch) (g : GG) (L : List Nat) (f : HP) (sz : Nat) (k n : Int32) (h0 : 0 ≤ k.toInt) (h1 : k.toInt < n.toInt) : MtI l g yJ3_checkIndex_8e157 cJ3_checkIndex_8e157 3 (some .int) rm_J3_checkIndex [.int k, .int n, .null] L f sz (fun _ u => u.1 = L ∧ u.2 = f) := by
  refine MtI.of (by decide +kernel) (Nat.le_of_ble_eq_true rfl) ?_
  intro p e s m below meth c A hEn hP hD hS ls hl
  obtain ⟨hx, hb, hr, hml, hown, hlocks, hts, hG, hA, hE, hnm⟩ := hEn
  have hl : lv_has ls 3 [(0, .int k), (1, .int n), (2, .null)] := hl
  refine lv_iload_n hx hb dJ3_checkIndex_8e157_0 rfl (lv_at hl 0 rfl) ?_
  refine lv_if_lt (tgt := 9) hx hb dJ3_checkIndex_8e157_1 (by decide) (fun c1 => absurd c1 (nlt0 h0)) (fun c1 => ?_)
  refine lv_iload_n hx hb dJ3_checkIndex_8e157_4 rfl (lv_at hl 0 rfl) ?_
  refine lv_iload_n hx hb dJ3_checkIndex_8e157_5 rfl (lv_at hl 1 rfl) ?_
  refine lv_icmp_lt (tgt := 16) hx hb dJ3_checkIndex_8e157_6 (by decide) (fun c2 => ?_) (fun c2 => absurd (i32_lt.mpr h1) c2)
  refine lv_iload_n hx hb dJ3_checkIndex_8e157_16 rfl (lv_at hl 0 rfl) ?_
  exact ret_i (ty := .int) hx hb hr hlocks (rfl) hP hD hS (Nat.le_of_ble_eq_true rfl) (Nat.le_of_ble_eq_true rfl) ⟨rfl, rfl⟩ dJ3_checkIndex_8e157_17
set_option maxHeartbeats 4000000 in
theorem s_J3_checkIndexR (l : Launch) (g : GG) (L : List Nat) (f : HP) (sz : Nat) (k n : Int32) (t : Nat) (h0 : 0 ≤ k.toInt) (h1 : k.toInt < n.toInt) : MtI l g yJ3_checkIndex_8e157 cJ3_checkIndex_8e157 3 (some .int) rm_J3_checkIndex [.int k, .int n, .ref t] L f sz (fun _ u => u.1 = L ∧ u.2 = f) := by
  refine MtI.of (by decide +kernel) (Nat.le_of_ble_eq_true rfl) ?_
  intro p e s m below meth c A hEn hP hD hS ls hl
  obtain ⟨hx, hb, hr, hml, hown, hlocks, hts, hG, hA, hE, hnm⟩ := hEn
  have hl : lv_has ls 3 [(0, .int k), (1, .int n), (2, .ref t)] := hl
  refine lv_iload_n hx hb dJ3_checkIndex_8e157_0 rfl (lv_at hl 0 rfl) ?_
  refine lv_if_lt (tgt := 9) hx hb dJ3_checkIndex_8e157_1 (by decide) (fun c1 => absurd c1 (nlt0 h0)) (fun c1 => ?_)
  refine lv_iload_n hx hb dJ3_checkIndex_8e157_4 rfl (lv_at hl 0 rfl) ?_
  refine lv_iload_n hx hb dJ3_checkIndex_8e157_5 rfl (lv_at hl 1 rfl) ?_
  refine lv_icmp_lt (tgt := 16) hx hb dJ3_checkIndex_8e157_6 (by decide) (fun c2 => ?_) (fun c2 => absurd (i32_lt.mpr h1) c2)
  refine lv_iload_n hx hb dJ3_checkIndex_8e157_16 rfl (lv_at hl 0 rfl) ?_
  exact ret_i (ty := .int) hx hb hr hlocks (rfl) hP hD hS (Nat.le_of_ble_eq_true rfl) (Nat.le_of_ble_eq_true rfl) ⟨rfl, rfl⟩ dJ3_checkIndex_8e157_17
abbrev rm_J0_checkIndex : Room := { frames := 1, cells := 0, slots := 0, locals := 22 }
set_option maxHeartbeats 4000000 in
theorem s_J0_checkIndex (l : Launch) (g : GG) (L : List Nat) (f : HP) (sz : Nat) (k n : Int32) (h0 : 0 ≤ k.toInt) (h1 : k.toInt < n.toInt) : MtV l g yJ0_checkIndex_df160 cJ0_checkIndex_df160 2 rm_J0_checkIndex [.int k, .int n] L f sz (fun u => u.1 = L ∧ u.2 = f) := by
  refine MtV.of (by decide +kernel) (Nat.le_of_ble_eq_true rfl) ?_
  intro p e s m below meth c A hEn hP hD hS ls hl
  obtain ⟨hx, hb, hr, hml, hown, hlocks, hts, hG, hA, hE, hnm⟩ := hEn
  have hown : s.vm.findClass "java/lang/String" = some m.cls := hown
  have hl : lv_has ls 2 [(0, .int k), (1, .int n)] := hl
  refine lv_iload_n hx hb dJ0_checkIndex_df160_0 rfl (lv_at hl 0 rfl) ?_
  refine lv_iload_n hx hb dJ0_checkIndex_df160_1 rfl (lv_at hl 1 rfl) ?_
  rcases hE.2.2.2.2 with hz | ⟨t, hz⟩
  · refine va_gets hx hb hz hS hown (hts _ (mT wg_598)) (fun _ h => h) dJ0_checkIndex_df160_2 ?_
    refine call_i (run_S (rm := rm_J3_checkIndex) hx hb hml hown hts (s_J3_checkIndexN l g _ _ _ k n h0 h1) cS_J3_checkIndex_8e157 wg_600 ⟨Nat.le_of_ble_eq_true rfl, Nat.le_of_ble_eq_true rfl⟩ hG hE hA hP hD hS rfl hl.1 (As := [.int k, .int n, .null]) (rest := []) rfl (Nat.le_of_ble_eq_true rfl) dJ0_checkIndex_df160_5 ⟨Nat.le_of_ble_eq_true rfl, Nat.le_of_ble_eq_true rfl⟩) hA hD hS (fun r L2 f2 H locs hp hP hD hS => ?_)
    obtain ⟨e1, e2⟩ : L2 = _ ∧ f2 = _ := hp
    rw [e1, e2] at hP hD
    refine lv_pop hx hb dJ0_checkIndex_df160_8 rfl ?_
    exact ret_v hx hb hr hlocks hP hD hS (Nat.le_of_ble_eq_true rfl) (Nat.le_of_ble_eq_true rfl) ⟨rfl, rfl⟩ dJ0_checkIndex_df160_9
  · refine va_gets hx hb hz hS hown (hts _ (mT wg_598)) (fun _ h => h) dJ0_checkIndex_df160_2 ?_
    refine call_i (run_S (rm := rm_J3_checkIndex) hx hb hml hown hts (s_J3_checkIndexR l g _ _ _ k n t h0 h1) cS_J3_checkIndex_8e157 wg_600 ⟨Nat.le_of_ble_eq_true rfl, Nat.le_of_ble_eq_true rfl⟩ hG hE hA hP hD hS rfl hl.1 (As := [.int k, .int n, .ref t]) (rest := []) rfl (Nat.le_of_ble_eq_true rfl) dJ0_checkIndex_df160_5 ⟨Nat.le_of_ble_eq_true rfl, Nat.le_of_ble_eq_true rfl⟩) hA hD hS (fun r L2 f2 H locs hp hP hD hS => ?_)
    obtain ⟨e1, e2⟩ : L2 = _ ∧ f2 = _ := hp
    rw [e1, e2] at hP hD
    refine lv_pop hx hb dJ0_checkIndex_df160_8 rfl ?_
    exact ret_v hx hb hr hlocks hP hD hS (Nat.le_of_ble_eq_true rfl) (Nat.le_of_ble_eq_true rfl) ⟨rfl, rfl⟩ dJ0_checkIndex_df160_9
abbrev rm_J1_charAt : Room := { frames := 2, cells := 0, slots := 0, locals := 43 }
theorem nar_c {v : Int32} (h : In v 0 65535) : narrow .char (.int v) = .int v := by
  obtain ⟨h1, h2⟩ := h
  have hn := i32_nn h1
  show Value.int ((v.toUInt32 % 65536).toInt32) = .int v
  have e : (v.toUInt32 % 65536).toInt32 = v := by
    apply Int32.toBitVec_inj.mp
    apply BitVec.eq_of_toNat_eq
    show v.toBitVec.toNat % 65536 = v.toBitVec.toNat
    exact Nat.mod_eq_of_lt (by omega)
  rw [e]
set_option maxHeartbeats 4000000 in
theorem s_J1_charAt (l : Launch) (g : GG) (L : List Nat) (f : HP) (sz : Nat) (i : Nat) (k : Int32) (hi : i < nS) (h0 : 0 ≤ k.toInt) (h1 : k.toInt < (lenS.getD i 0 : Int)) : MtI l g yJ1_charAt_3b067 cJ1_charAt_3b067 2 (some .char) rm_J1_charAt [.ref (g.2.2.2 i), .int k] L f sz (fun r u => u.1 = L ∧ u.2 = f ∧ In r 0 65535) := by
  refine MtI.of (by decide +kernel) (Nat.le_of_ble_eq_true rfl) ?_
  intro p e s m below meth c A hEn hP hD hS ls hl
  obtain ⟨hx, hb, hr, hml, hown, hlocks, hts, hG, hA, hE, hnm⟩ := hEn
  have hown : s.vm.findClass "java/lang/StringLatin1" = some m.cls := hown
  have hl : lv_has ls 2 [(0, .ref (g.2.2.2 i)), (1, .int k)] := hl
  refine lv_iload_n hx hb dJ1_charAt_3b067_0 rfl (lv_at hl 1 rfl) ?_
  refine lv_aload_n hx hb dJ1_charAt_3b067_1 rfl (lv_at hl 0 rfl) ?_
  refine va_tlen hx hb (hE.1 i hi).2.2.2 hS rfl dJ1_charAt_3b067_2 ?_
  refine call_v (run_S (rm := rm_J0_checkIndex) hx hb hml hown hts (s_J0_checkIndex l g _ _ _ k (Int32.ofNat (lenS.getD i 0)) h0 (by rw [(len_in i hi).2]; exact h1)) cS_J0_checkIndex_df160 wg_595 ⟨Nat.le_of_ble_eq_true rfl, Nat.le_of_ble_eq_true rfl⟩ hG hE hA hP hD hS rfl hl.1 (As := [.int k, .int (Int32.ofNat (lenS.getD i 0))]) (rest := []) rfl (Nat.le_of_ble_eq_true rfl) dJ1_charAt_3b067_3 ⟨Nat.le_of_ble_eq_true rfl, Nat.le_of_ble_eq_true rfl⟩) hA hD hS (fun L2 f2 H locs hp hP hD hS => ?_)
  obtain ⟨e1, e2⟩ : L2 = _ ∧ f2 = _ := hp
  rw [e1, e2] at hP hD
  refine lv_aload_n hx hb dJ1_charAt_3b067_6 rfl (lv_at hl 0 rfl) ?_
  refine lv_iload_n hx hb dJ1_charAt_3b067_7 rfl (lv_at hl 1 rfl) ?_
  refine va_tb hx hb (hE.1 i hi).2.2.2 hS (by rw [vp_in_iff]; exact ⟨h0, h1⟩) rfl dJ1_charAt_3b067_8 ?_
  refine lv_sipush (v := 255) hx hb dJ1_charAt_3b067_9 (by decide) ?_
  refine lv_iand hx hb dJ1_charAt_3b067_12 ?_
  refine lv_i2c hx hb dJ1_charAt_3b067_13 rfl ?_
  exact ret_i (ty := .char) hx hb hr hlocks (nar_c (In.i2c _)) hP hD hS (Nat.le_of_ble_eq_true rfl) (Nat.le_of_ble_eq_true rfl) ⟨rfl, rfl, In.i2c _⟩ dJ1_charAt_3b067_14
abbrev rm_J0_charAt : Room := { frames := 3, cells := 0, slots := 0, locals := 64 }
set_option maxHeartbeats 4000000 in
theorem s_J0_charAt (l : Launch) (g : GG) (L : List Nat) (f : HP) (sz : Nat) (i : Nat) (k : Int32) (hi : i < nS) (h0 : 0 ≤ k.toInt) (h1 : k.toInt < (lenS.getD i 0 : Int)) : MtI l g yJ0_charAt_5068e cJ0_charAt_5068e 2 (some .char) rm_J0_charAt [.ref (g.2.2.1 i), .int k] L f sz (fun r u => u.1 = L ∧ u.2 = f ∧ In r 0 65535) := by
  refine MtI.of (by decide +kernel) (Nat.le_of_ble_eq_true rfl) ?_
  intro p e s m below meth c A hEn hP hD hS ls hl
  obtain ⟨hx, hb, hr, hml, hown, hlocks, hts, hG, hA, hE, hnm⟩ := hEn
  have hown : s.vm.findClass "java/lang/String" = some m.cls := hown
  have hl : lv_has ls 2 [(0, .ref (g.2.2.1 i)), (1, .int k)] := hl
  refine lv_aload_n hx hb dJ0_charAt_5068e_0 rfl (lv_at hl 0 rfl) ?_
  refine call_i (run_VJ (rm := rm_J0_isLatin1) hx hb hml hown hts (i := i) hi (s_J0_isLatin1 l g _ _ _ i hi) cV_J0_isLatin1_aae02 wg_588 rfl ⟨Nat.le_of_ble_eq_true rfl, Nat.le_of_ble_eq_true rfl⟩ hG hE hA hP hD hS rfl hl.1 (As := []) (rest := []) rfl (Nat.le_of_ble_eq_true rfl) dJ0_charAt_5068e_1 ⟨Nat.le_of_ble_eq_true rfl, Nat.le_of_ble_eq_true rfl⟩) hA hD hS (fun r L2 f2 H locs hp hP hD hS => ?_)
  obtain ⟨e1, e2, e3⟩ : L2 = _ ∧ f2 = _ ∧ r = 1 := hp
  rw [e1, e2] at hP hD
  subst e3
  refine lv_if_eq (tgt := 16) hx hb dJ0_charAt_5068e_4 (by decide) (fun c1 => absurd c1 (by decide)) (fun c1 => ?_)
  refine lv_aload_n hx hb dJ0_charAt_5068e_7 rfl (lv_at hl 0 rfl) ?_
  refine vk_getf hx hb (hE.1 i hi).2.2.1 hS hown (hts _ (mT wg_1967)) (fun _ h => h) dJ0_charAt_5068e_8 ?_
  refine lv_iload_n hx hb dJ0_charAt_5068e_11 rfl (lv_at hl 1 rfl) ?_
  refine call_i (run_S (rm := rm_J1_charAt) hx hb hml hown hts (s_J1_charAt l g _ _ _ i k hi h0 h1) cS_J1_charAt_3b067 wg_592 ⟨Nat.le_of_ble_eq_true rfl, Nat.le_of_ble_eq_true rfl⟩ hG hE hA hP hD hS rfl hl.1 (As := [.ref (g.2.2.2 i), .int k]) (rest := []) rfl (Nat.le_of_ble_eq_true rfl) dJ0_charAt_5068e_12 ⟨Nat.le_of_ble_eq_true rfl, Nat.le_of_ble_eq_true rfl⟩) hA hD hS (fun r L2 f2 H locs hp hP hD hS => ?_)
  obtain ⟨e1, e2, e3⟩ : L2 = _ ∧ f2 = _ ∧ In r 0 65535 := hp
  rw [e1, e2] at hP hD
  exact ret_i (ty := .char) hx hb hr hlocks (nar_c e3) hP hD hS (Nat.le_of_ble_eq_true rfl) (Nat.le_of_ble_eq_true rfl) ⟨rfl, rfl, e3⟩ dJ0_charAt_5068e_15
