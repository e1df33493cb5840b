set_option maxHeartbeats 4000000 in
set_option maxRecDepth 100000 in
theorem law_c20 {p : Program} {e : Env} {s : State} {m : MethodId} {below : List Frame} {meth : Method} {c : Code} (l : Launch) {b LL : Nat} {xs : Nat → Int32} (C0 : lw_At p s m meth c b LL xs) (htr : l.stackTraces = false) {g : GG} (hG : GK g s) (hE : SW g (fun q : Nat => s.heap.size ≤ q) s s.heap) {L : List Nat} {ad : Nat → Nat} (hst : ST ad L) {th : Nat → Int} {f : HP} {H : Heap} {locs : List Loc} {ls : Array Slot} {i : Int32} {k : Nat} (hk : k ≤ 511) (hi0 : 0 ≤ i.toInt) (hi : i.toInt + 6 ≤ (LL : Int)) (hLL : LL ≤ 3072) (hT : TI g ad th f) (hC : CIv th) (hM : MI th) (hP : va_P g.1 vwCl (va_pl L f) H) (hD : va_D (fun q : Nat => s.heap.size ≤ q) (va_pl L f)) (hS : va_S (fun q : Nat => s.heap.size ≤ q) s.heap H locs) (hl : lv_has ls 7 [(4, .int i), (3, .ref (ad 278)), (2, .ref (ad 255)), (1, .ref (ad 0)), (0, .ref b)]) (K : ∀ (th : Nat → Int) (f : HP) (H : Heap) (locs : List Loc) (ls : Array Slot), TI g ad th f → CIv th → MI th → va_P g.1 vwCl (va_pl L f) H → va_D (fun q : Nat => s.heap.size ≤ q) (va_pl L f) → va_S (fun q : Nat => s.heap.size ≤ q) s.heap H locs → lv_has ls 7 [(4, .int i), (3, .ref (ad 278)), (2, .ref (ad 255)), (1, .ref (ad 0)), (0, .ref b)] → W p l e room_1 s m #[Value.ref b] below meth c H locs (1001 + k) (200006 + 6 * k) (lw_Z below #[Value.ref b] s) (F0 m 1333 ls [])) : W p l e room_1 s m #[Value.ref b] below meth c H locs (1000 + k) (200000 + 6 * k) (lw_Z below #[Value.ref b] s) (F0 m 875 ls []) := by
  obtain ⟨hx, hb, hr, hml, hown, hts0, hXs, hbl, hlocks, hgv⟩ := C0
  have hown : s.vm.findClass "RulerWordLaw" = some m.cls := hown
  have hts := hts1 hts0
  have hA : ∀ q, s.heap.size ≤ q → (fun q : Nat => s.heap.size ≤ q) q := fun _ h => h
  have hbA : ¬ (fun q : Nat => s.heap.size ≤ q) b := Nat.not_le.mpr hbl
  refine lv_aload_n hx hb dL_law_875 rfl (lv_at hl 3 rfl) ?_
  obtain ⟨_, _, _, hf_me, _, _, _⟩ := hT.1 0 (by decide)
  refine call_i (run_V (rm := rm_X10_free) hx hb hml hown hts (s_X10_free l g ad th _ _ _  hst hT ) cV_X10_free wg_1014 ⟨Nat.le_of_ble_eq_true rfl, Nat.le_of_ble_eq_true rfl⟩ hG hE hA hP hD hS (hst.1 0 (by decide)) hf_me rfl rfl hl.1 (As := []) (rest := []) rfl (Nat.le_of_ble_eq_true rfl) dL_law_876 ⟨by show 1000 + k + 0 ≤ 601024; omega, by show 200000 + 6 * k + 0 ≤ 7293034; omega⟩) hA hD hS (fun r1 L2 f3 H locs hp4 hP hD hS => ?_)
  obtain ⟨e5L, e5T⟩ := hp4
  have e5L : L2 = L := e5L
  have e5T : f3 = _ := e5T
  rw [e5L, e5T] at hP hD
  refine lv_pop hx hb dL_law_879 rfl ?_
  refine lv_aload_n hx hb dL_law_880 rfl (lv_at hl 2 rfl) ?_
  refine M0e hT (fun _ _ _ _ _ _ _ _ _ _ _ _ _ _ _ _ _ _ _ _ _ _ _ _ _ _ _ _ _ _ _ _ _ _ hf_me _ _ _ _ _ _ _ _ _ _ _ _ _ _ _ _ _ _ _ _ _ _ _ _ _ _ _ _ _ _ _ _ _ _ _ _ _ _ _ _ _ => ?_)
  refine call_i (run_V (rm := rm_X11_free) hx hb hml hown hts (s_X11_free l g ad th _ _ _  hst hT hM) cV_X11_free wg_1819 ⟨Nat.le_of_ble_eq_true rfl, Nat.le_of_ble_eq_true rfl⟩ hG hE hA hP hD hS (hst.1 255 (by decide)) hf_me rfl rfl hl.1 (As := []) (rest := []) rfl (Nat.le_of_ble_eq_true rfl) dL_law_881 ⟨by show 1000 + k + 0 + 0 ≤ 601024; omega, by show 200000 + 6 * k + 0 + 0 ≤ 7293034; omega⟩) hA hD hS (fun r6 L7 f8 H locs hp9 hP hD hS => ?_)
  obtain ⟨e10L, e10T, _⟩ := hp9
  have e10L : L7 = L := e10L
  obtain ⟨th11, e10I, hT⟩ := e10T
  rw [e10L] at hP hD
  have hC := hC.m e10I.2
  have hM := e10I.1
  revert hT hC hM
  generalize th11 = th
  intro hT hC hM
  refine lv_pop hx hb dL_law_884 rfl ?_
  refine lv_goto (tgt := 1333) hx hb dL_law_885 (by decide) ?_
  refine W.widen (k := 1001 + k) (n := 200006 + 6 * k) (by show 1000 + k + 0 + 0 ≤ _; omega) (by show 200000 + 6 * k + 0 + 0 ≤ _; omega) ?_
  exact K _ _ _ _ _ hT hC hM hP hD hS (lv_sub hl [0, 1, 2, 3, 4] rfl)

set_option maxHeartbeats 4000000 in
set_option maxRecDepth 100000 in
theorem law_c21 {p : Program} {e : Env} {s : State} {m : MethodId} {below : List Frame} {meth : Method} {c : Code} (l : Launch) {b LL : Nat} {xs : Nat → Int32} (C0 : lw_At p s m meth c b LL xs) (htr : l.stackTraces = false) {g : GG} (hG : GK g s) (hE : SW g (fun q : Nat => s.heap.size ≤ q) s s.heap) {L : List Nat} {ad : Nat → Nat} (hst : ST ad L) {th : Nat → Int} {f : HP} {H : Heap} {locs : List Loc} {ls : Array Slot} {i : Int32} {k : Nat} (hk : k ≤ 511) (hi0 : 0 ≤ i.toInt) (hi : i.toInt + 6 ≤ (LL : Int)) (hLL : LL ≤ 3072) (hT : TI g ad th f) (hC : CIv th) (hM : MI th) (hP : va_P g.1 vwCl (va_pl L f) H) (hD : va_D (fun q : Nat => s.heap.size ≤ q) (va_pl L f)) (hS : va_S (fun q : Nat => s.heap.size ≤ q) s.heap H locs) (hl : lv_has ls 7 [(4, .int i), (3, .ref (ad 278)), (2, .ref (ad 255)), (1, .ref (ad 0)), (0, .ref b)]) (K : ∀ (th : Nat → Int) (f : HP) (H : Heap) (locs : List Loc) (ls : Array Slot), TI g ad th f → CIv th → MI th → va_P g.1 vwCl (va_pl L f) H → va_D (fun q : Nat => s.heap.size ≤ q) (va_pl L f) → va_S (fun q : Nat => s.heap.size ≤ q) s.heap H locs → lv_has ls 7 [(4, .int i), (3, .ref (ad 278)), (2, .ref (ad 255)), (1, .ref (ad 0)), (0, .ref b)] → W p l e room_1 s m #[Value.ref b] below meth c H locs (1001 + k) (200006 + 6 * k) (lw_Z below #[Value.ref b] s) (F0 m 1333 ls [])) : W p l e room_1 s m #[Value.ref b] below meth c H locs (1000 + k) (200000 + 6 * k) (lw_Z below #[Value.ref b] s) (F0 m 888 ls []) := by
  obtain ⟨hx, hb, hr, hml, hown, hts0, hXs, hbl, hlocks, hgv⟩ := C0
  have hown : s.vm.findClass "RulerWordLaw" = some m.cls := hown
  have hts := hts1 hts0
  have hA : ∀ q, s.heap.size ≤ q → (fun q : Nat => s.heap.size ≤ q) q := fun _ h => h
  have hbA : ¬ (fun q : Nat => s.heap.size ≤ q) b := Nat.not_le.mpr hbl
  refine lv_aload_n hx hb dL_law_888 rfl (lv_at hl 3 rfl) ?_
  obtain ⟨_, _, _, hf_me, _, _, _⟩ := hT.1 0 (by decide)
  refine call_i (run_V (rm := rm_X10_broken) hx hb hml hown hts (s_X10_broken l g ad th _ _ _  hst hT ) cV_X10_broken wg_1028 ⟨Nat.le_of_ble_eq_true rfl, Nat.le_of_ble_eq_true rfl⟩ hG hE hA hP hD hS (hst.1 0 (by decide)) hf_me rfl rfl hl.1 (As := []) (rest := []) rfl (Nat.le_of_ble_eq_true rfl) dL_law_889 ⟨by show 1000 + k + 0 ≤ 601024; omega, by show 200000 + 6 * k + 0 ≤ 7293034; omega⟩) hA hD hS (fun r1 L2 f3 H locs hp4 hP hD hS => ?_)
  obtain ⟨e5L, e5T, _⟩ := hp4
  have e5L : L2 = L := e5L
  have hT : TI g ad _ f3 := e5T
  rw [e5L] at hP hD
  refine lv_pop hx hb dL_law_892 rfl ?_
  refine lv_aload_n hx hb dL_law_893 rfl (lv_at hl 2 rfl) ?_
  refine M0e hT (fun _ _ _ _ _ _ _ _ _ _ _ _ _ _ _ _ _ _ _ _ _ _ _ _ _ _ _ _ _ _ _ _ _ _ hf_me _ _ _ _ _ _ _ _ _ _ _ _ _ _ _ _ _ _ _ _ _ _ _ _ _ _ _ _ _ _ _ _ _ _ _ _ _ _ _ _ _ => ?_)
  refine call_i (run_V (rm := rm_X11_broken) hx hb hml hown hts (s_X11_broken l g ad th _ _ _  hst hT hM) cV_X11_broken wg_1830 ⟨Nat.le_of_ble_eq_true rfl, Nat.le_of_ble_eq_true rfl⟩ hG hE hA hP hD hS (hst.1 255 (by decide)) hf_me rfl rfl hl.1 (As := []) (rest := []) rfl (Nat.le_of_ble_eq_true rfl) dL_law_894 ⟨by show 1000 + k + 0 + 0 ≤ 601024; omega, by show 200000 + 6 * k + 0 + 0 ≤ 7293034; omega⟩) hA hD hS (fun r6 L7 f8 H locs hp9 hP hD hS => ?_)
  obtain ⟨e10L, e10T, _⟩ := hp9
  have e10L : L7 = L := e10L
  obtain ⟨th11, e10I, hT⟩ := e10T
  rw [e10L] at hP hD
  have hC := hC.m e10I.2
  have hM := e10I.1
  revert hT hC hM
  generalize th11 = th
  intro hT hC hM
  refine lv_pop hx hb dL_law_897 rfl ?_
  refine lv_goto (tgt := 1333) hx hb dL_law_898 (by decide) ?_
  refine W.widen (k := 1001 + k) (n := 200006 + 6 * k) (by show 1000 + k + 0 + 0 ≤ _; omega) (by show 200000 + 6 * k + 0 + 0 ≤ _; omega) ?_
  exact K _ _ _ _ _ hT hC hM hP hD hS (lv_sub hl [0, 1, 2, 3, 4] rfl)

set_option maxHeartbeats 4000000 in
set_option maxRecDepth 100000 in
theorem law_c22 {p : Program} {e : Env} {s : State} {m : MethodId} {below : List Frame} {meth : Method} {c : Code} (l : Launch) {b LL : Nat} {xs : Nat → Int32} (C0 : lw_At p s m meth c b LL xs) (htr : l.stackTraces = false) {g : GG} (hG : GK g s) (hE : SW g (fun q : Nat => s.heap.size ≤ q) s s.heap) {L : List Nat} {ad : Nat → Nat} (hst : ST ad L) {th : Nat → Int} {f : HP} {H : Heap} {locs : List Loc} {ls : Array Slot} {i : Int32} {k : Nat} (hk : k ≤ 511) (hi0 : 0 ≤ i.toInt) (hi : i.toInt + 6 ≤ (LL : Int)) (hLL : LL ≤ 3072) (hT : TI g ad th f) (hC : CIv th) (hM : MI th) (hP : va_P g.1 vwCl (va_pl L f) H) (hD : va_D (fun q : Nat => s.heap.size ≤ q) (va_pl L f)) (hS : va_S (fun q : Nat => s.heap.size ≤ q) s.heap H locs) (hl : lv_has ls 7 [(4, .int i), (3, .ref (ad 278)), (2, .ref (ad 255)), (1, .ref (ad 0)), (0, .ref b)]) (K : ∀ (th : Nat → Int) (f : HP) (H : Heap) (locs : List Loc) (ls : Array Slot), TI g ad th f → CIv th → MI th → va_P g.1 vwCl (va_pl L f) H → va_D (fun q : Nat => s.heap.size ≤ q) (va_pl L f) → va_S (fun q : Nat => s.heap.size ≤ q) s.heap H locs → lv_has ls 7 [(4, .int i), (3, .ref (ad 278)), (2, .ref (ad 255)), (1, .ref (ad 0)), (0, .ref b)] → W p l e room_1 s m #[Value.ref b] below meth c H locs (1001 + k) (200006 + 6 * k) (lw_Z below #[Value.ref b] s) (F0 m 1333 ls [])) : W p l e room_1 s m #[Value.ref b] below meth c H locs (1000 + k) (200000 + 6 * k) (lw_Z below #[Value.ref b] s) (F0 m 901 ls []) := by
  obtain ⟨hx, hb, hr, hml, hown, hts0, hXs, hbl, hlocks, hgv⟩ := C0
  have hown : s.vm.findClass "RulerWordLaw" = some m.cls := hown
  have hts := hts1 hts0
  have hA : ∀ q, s.heap.size ≤ q → (fun q : Nat => s.heap.size ≤ q) q := fun _ h => h
  have hbA : ¬ (fun q : Nat => s.heap.size ≤ q) b := Nat.not_le.mpr hbl
  refine lv_aload_n hx hb dL_law_901 rfl (lv_at hl 3 rfl) ?_
  refine lv_aload_n hx hb dL_law_902 rfl (lv_at hl 4 rfl) ?_
  refine lv_iload hx hb dL_law_903 (lv_at hl 0 rfl) ?_
  refine lv_iconst (v := 1) hx hb dL_law_905 (by decide) ?_
  refine lv_iadd hx hb dL_law_906 ?_
  refine lv_topi (fun x1 ex1 => ?_)
  have hx1 : x1.toInt = i.toInt + 1 := In.adde (a := 0) (b := 3072) ex1 ⟨hi0, by omega⟩ (k := 1) (by decide) (by decide) (by decide)
  refine va_sld hx hb hXs hbl hbA hS (i := x1) (vp_of (by omega) (by omega)) dL_law_907 ?_
  refine lv_topi (fun x2 ex2 => ?_)
  obtain ⟨_, _, _, hf_me, _, _, _⟩ := hT.1 0 (by decide)
  refine call_i (run_V (rm := rm_X10_brokenStarts) hx hb hml hown hts (s_X10_brokenStarts l g ad th _ _ _ x2 hst hT ) cV_X10_brokenStarts wg_1102 ⟨Nat.le_of_ble_eq_true rfl, Nat.le_of_ble_eq_true rfl⟩ hG hE hA hP hD hS (hst.1 0 (by decide)) hf_me rfl rfl hl.1 (As := [.int x2]) (rest := []) rfl (Nat.le_of_ble_eq_true rfl) dL_law_908 ⟨by show 1000 + k + 0 ≤ 601024; omega, by show 200000 + 6 * k + 0 ≤ 7293034; omega⟩) hA hD hS (fun r3 L4 f5 H locs hp6 hP hD hS => ?_)
  obtain ⟨e7L, e7T, _⟩ := hp6
  have e7L : L4 = L := e7L
  have hT : TI g ad _ f5 := e7T
  rw [e7L] at hP hD
  refine lv_pop hx hb dL_law_911 rfl ?_
  refine lv_aload_n hx hb dL_law_912 rfl (lv_at hl 2 rfl) ?_
  refine lv_aload_n hx hb dL_law_913 rfl (lv_at hl 4 rfl) ?_
  refine lv_iload hx hb dL_law_914 (lv_at hl 0 rfl) ?_
  refine lv_iconst (v := 1) hx hb dL_law_916 (by decide) ?_
  refine lv_iadd hx hb dL_law_917 ?_
  refine lv_topi (fun x8 ex8 => ?_)
  have hx8 : x8.toInt = i.toInt + 1 := In.adde (a := 0) (b := 3072) ex8 ⟨hi0, by omega⟩ (k := 1) (by decide) (by decide) (by decide)
  refine va_sld hx hb hXs hbl hbA hS (i := x8) (vp_of (by omega) (by omega)) dL_law_918 ?_
  refine lv_topi (fun x9 ex9 => ?_)
  refine M0e hT (fun _ _ _ _ _ _ _ _ _ _ _ _ _ _ _ _ _ _ _ _ _ _ _ _ _ _ _ _ _ _ _ _ _ _ hf_me _ _ _ _ _ _ _ _ _ _ _ _ _ _ _ _ _ _ _ _ _ _ _ _ _ _ _ _ _ _ _ _ _ _ _ _ _ _ _ _ _ => ?_)
  refine call_i (run_V (rm := rm_X11_brokenStarts) hx hb hml hown hts (s_X11_brokenStarts l g ad th _ _ _ x9 hst hT hM) cV_X11_brokenStarts wg_1850 ⟨Nat.le_of_ble_eq_true rfl, Nat.le_of_ble_eq_true rfl⟩ hG hE hA hP hD hS (hst.1 255 (by decide)) hf_me rfl rfl hl.1 (As := [.int x9]) (rest := []) rfl (Nat.le_of_ble_eq_true rfl) dL_law_919 ⟨by show 1000 + k + 0 + 0 ≤ 601024; omega, by show 200000 + 6 * k + 0 + 0 ≤ 7293034; omega⟩) hA hD hS (fun r10 L11 f12 H locs hp13 hP hD hS => ?_)
  obtain ⟨e14L, e14T, _⟩ := hp13
  have e14L : L11 = L := e14L
  obtain ⟨th15, e14I, hT⟩ := e14T
  rw [e14L] at hP hD
  have hC := hC.m e14I.2
  have hM := e14I.1
  revert hT hC hM
  generalize th15 = th
  intro hT hC hM
  refine lv_pop hx hb dL_law_922 rfl ?_
  refine lv_goto (tgt := 1333) hx hb dL_law_923 (by decide) ?_
  refine W.widen (k := 1001 + k) (n := 200006 + 6 * k) (by show 1000 + k + 0 + 0 ≤ _; omega) (by show 200000 + 6 * k + 0 + 0 ≤ _; omega) ?_
  exact K _ _ _ _ _ hT hC hM hP hD hS (lv_sub hl [0, 1, 2, 3, 4] rfl)

set_option maxHeartbeats 4000000 in
set_option maxRecDepth 100000 in
theorem law_c23 {p : Program} {e : Env} {s : State} {m : MethodId} {below : List Frame} {meth : Method} {c : Code} (l : Launch) {b LL : Nat} {xs : Nat → Int32} (C0 : lw_At p s m meth c b LL xs) (htr : l.stackTraces = false) {g : GG} (hG : GK g s) (hE : SW g (fun q : Nat => s.heap.size ≤ q) s s.heap) {L : List Nat} {ad : Nat → Nat} (hst : ST ad L) {th : Nat → Int} {f : HP} {H : Heap} {locs : List Loc} {ls : Array Slot} {i : Int32} {k : Nat} (hk : k ≤ 511) (hi0 : 0 ≤ i.toInt) (hi : i.toInt + 6 ≤ (LL : Int)) (hLL : LL ≤ 3072) (hT : TI g ad th f) (hC : CIv th) (hM : MI th) (hP : va_P g.1 vwCl (va_pl L f) H) (hD : va_D (fun q : Nat => s.heap.size ≤ q) (va_pl L f)) (hS : va_S (fun q : Nat => s.heap.size ≤ q) s.heap H locs) (hl : lv_has ls 7 [(4, .int i), (3, .ref (ad 278)), (2, .ref (ad 255)), (1, .ref (ad 0)), (0, .ref b)]) (K : ∀ (th : Nat → Int) (f : HP) (H : Heap) (locs : List Loc) (ls : Array Slot), TI g ad th f → CIv th → MI th → va_P g.1 vwCl (va_pl L f) H → va_D (fun q : Nat => s.heap.size ≤ q) (va_pl L f) → va_S (fun q : Nat => s.heap.size ≤ q) s.heap H locs → lv_has ls 7 [(4, .int i), (3, .ref (ad 278)), (2, .ref (ad 255)), (1, .ref (ad 0)), (0, .ref b)] → W p l e room_1 s m #[Value.ref b] below meth c H locs (1001 + k) (200006 + 6 * k) (lw_Z below #[Value.ref b] s) (F0 m 1333 ls [])) : W p l e room_1 s m #[Value.ref b] below meth c H locs (1000 + k) (200000 + 6 * k) (lw_Z below #[Value.ref b] s) (F0 m 926 ls []) := by
  obtain ⟨hx, hb, hr, hml, hown, hts0, hXs, hbl, hlocks, hgv⟩ := C0
  have hown : s.vm.findClass "RulerWordLaw" = some m.cls := hown
  have hts := hts1 hts0
  have hA : ∀ q, s.heap.size ≤ q → (fun q : Nat => s.heap.size ≤ q) q := fun _ h => h
  have hbA : ¬ (fun q : Nat => s.heap.size ≤ q) b := Nat.not_le.mpr hbl
  refine lv_aload_n hx hb dL_law_926 rfl (lv_at hl 3 rfl) ?_
  refine lv_aload_n hx hb dL_law_927 rfl (lv_at hl 4 rfl) ?_
  refine lv_iload hx hb dL_law_928 (lv_at hl 0 rfl) ?_
  refine lv_iconst (v := 1) hx hb dL_law_930 (by decide) ?_
  refine lv_iadd hx hb dL_law_931 ?_
  refine lv_topi (fun x1 ex1 => ?_)
  have hx1 : x1.toInt = i.toInt + 1 := In.adde (a := 0) (b := 3072) ex1 ⟨hi0, by omega⟩ (k := 1) (by decide) (by decide) (by decide)
  refine va_sld hx hb hXs hbl hbA hS (i := x1) (vp_of (by omega) (by omega)) dL_law_932 ?_
  refine lv_topi (fun x2 ex2 => ?_)
  obtain ⟨_, _, _, hf_me, _, _, _⟩ := hT.1 0 (by decide)
  refine call_i (run_V (rm := rm_X10_canBreak) hx hb hml hown hts (s_X10_canBreak l g ad th _ _ _ x2 hst hT ) cV_X10_canBreak wg_1118 ⟨Nat.le_of_ble_eq_true rfl, Nat.le_of_ble_eq_true rfl⟩ hG hE hA hP hD hS (hst.1 0 (by decide)) hf_me rfl rfl hl.1 (As := [.int x2]) (rest := []) rfl (Nat.le_of_ble_eq_true rfl) dL_law_933 ⟨by show 1000 + k + 0 ≤ 601024; omega, by show 200000 + 6 * k + 0 ≤ 7293034; omega⟩) hA hD hS (fun r3 L4 f5 H locs hp6 hP hD hS => ?_)
  obtain ⟨e7L, e7T, _⟩ := hp6
  have e7L : L4 = L := e7L
  have hT : TI g ad _ f5 := e7T
  rw [e7L] at hP hD
  refine lv_pop hx hb dL_law_936 rfl ?_
  refine lv_aload_n hx hb dL_law_937 rfl (lv_at hl 2 rfl) ?_
  refine lv_aload_n hx hb dL_law_938 rfl (lv_at hl 4 rfl) ?_
  refine lv_iload hx hb dL_law_939 (lv_at hl 0 rfl) ?_
  refine lv_iconst (v := 1) hx hb dL_law_941 (by decide) ?_
  refine lv_iadd hx hb dL_law_942 ?_
  refine lv_topi (fun x8 ex8 => ?_)
  have hx8 : x8.toInt = i.toInt + 1 := In.adde (a := 0) (b := 3072) ex8 ⟨hi0, by omega⟩ (k := 1) (by decide) (by decide) (by decide)
  refine va_sld hx hb hXs hbl hbA hS (i := x8) (vp_of (by omega) (by omega)) dL_law_943 ?_
  refine lv_topi (fun x9 ex9 => ?_)
  refine M0e hT (fun _ _ _ _ _ _ _ _ _ _ _ _ _ _ _ _ _ _ _ _ _ _ _ _ _ _ _ _ _ _ _ _ _ _ hf_me _ _ _ _ _ _ _ _ _ _ _ _ _ _ _ _ _ _ _ _ _ _ _ _ _ _ _ _ _ _ _ _ _ _ _ _ _ _ _ _ _ => ?_)
  refine call_i (run_V (rm := rm_X11_canBreak) hx hb hml hown hts (s_X11_canBreak l g ad th _ _ _ x9 hst hT hM) cV_X11_canBreak wg_1858 ⟨Nat.le_of_ble_eq_true rfl, Nat.le_of_ble_eq_true rfl⟩ hG hE hA hP hD hS (hst.1 255 (by decide)) hf_me rfl rfl hl.1 (As := [.int x9]) (rest := []) rfl (Nat.le_of_ble_eq_true rfl) dL_law_944 ⟨by show 1000 + k + 0 + 0 ≤ 601024; omega, by show 200000 + 6 * k + 0 + 0 ≤ 7293034; omega⟩) hA hD hS (fun r10 L11 f12 H locs hp13 hP hD hS => ?_)
  obtain ⟨e14L, e14T, _⟩ := hp13
  have e14L : L11 = L := e14L
  obtain ⟨th15, e14I, hT⟩ := e14T
  rw [e14L] at hP hD
  have hC := hC.m e14I.2
  have hM := e14I.1
  revert hT hC hM
  generalize th15 = th
  intro hT hC hM
  refine lv_pop hx hb dL_law_947 rfl ?_
  refine lv_goto (tgt := 1333) hx hb dL_law_948 (by decide) ?_
  refine W.widen (k := 1001 + k) (n := 200006 + 6 * k) (by show 1000 + k + 0 + 0 ≤ _; omega) (by show 200000 + 6 * k + 0 + 0 ≤ _; omega) ?_
  exact K _ _ _ _ _ hT hC hM hP hD hS (lv_sub hl [0, 1, 2, 3, 4] rfl)

set_option maxHeartbeats 4000000 in
set_option maxRecDepth 100000 in
theorem law_c24 {p : Program} {e : Env} {s : State} {m : MethodId} {below : List Frame} {meth : Method} {c : Code} (l : Launch) {b LL : Nat} {xs : Nat → Int32} (C0 : lw_At p s m meth c b LL xs) (htr : l.stackTraces = false) {g : GG} (hG : GK g s) (hE : SW g (fun q : Nat => s.heap.size ≤ q) s s.heap) {L : List Nat} {ad : Nat → Nat} (hst : ST ad L) {th : Nat → Int} {f : HP} {H : Heap} {locs : List Loc} {ls : Array Slot} {i : Int32} {k : Nat} (hk : k ≤ 511) (hi0 : 0 ≤ i.toInt) (hi : i.toInt + 6 ≤ (LL : Int)) (hLL : LL ≤ 3072) (hT : TI g ad th f) (hC : CIv th) (hM : MI th) (hP : va_P g.1 vwCl (va_pl L f) H) (hD : va_D (fun q : Nat => s.heap.size ≤ q) (va_pl L f)) (hS : va_S (fun q : Nat => s.heap.size ≤ q) s.heap H locs) (hl : lv_has ls 7 [(4, .int i), (3, .ref (ad 278)), (2, .ref (ad 255)), (1, .ref (ad 0)), (0, .ref b)]) (K : ∀ (th : Nat → Int) (f : HP) (H : Heap) (locs : List Loc) (ls : Array Slot), TI g ad th f → CIv th → MI th → va_P g.1 vwCl (va_pl L f) H → va_D (fun q : Nat => s.heap.size ≤ q) (va_pl L f) → va_S (fun q : Nat => s.heap.size ≤ q) s.heap H locs → lv_has ls 7 [(4, .int i), (3, .ref (ad 278)), (2, .ref (ad 255)), (1, .ref (ad 0)), (0, .ref b)] → W p l e room_1 s m #[Value.ref b] below meth c H locs (1001 + k) (200006 + 6 * k) (lw_Z below #[Value.ref b] s) (F0 m 1333 ls [])) : W p l e room_1 s m #[Value.ref b] below meth c H locs (1000 + k) (200000 + 6 * k) (lw_Z below #[Value.ref b] s) (F0 m 951 ls []) := by
  obtain ⟨hx, hb, hr, hml, hown, hts0, hXs, hbl, hlocks, hgv⟩ := C0
  have hown : s.vm.findClass "RulerWordLaw" = some m.cls := hown
  have hts := hts1 hts0
  have hA : ∀ q, s.heap.size ≤ q → (fun q : Nat => s.heap.size ≤ q) q := fun _ h => h
  have hbA : ¬ (fun q : Nat => s.heap.size ≤ q) b := Nat.not_le.mpr hbl
  refine lv_aload_n hx hb dL_law_951 rfl (lv_at hl 3 rfl) ?_
  refine lv_aload_n hx hb dL_law_952 rfl (lv_at hl 4 rfl) ?_
  refine lv_iload hx hb dL_law_953 (lv_at hl 0 rfl) ?_
  refine lv_iconst (v := 1) hx hb dL_law_955 (by decide) ?_
  refine lv_iadd hx hb dL_law_956 ?_
  refine lv_topi (fun x1 ex1 => ?_)
  have hx1 : x1.toInt = i.toInt + 1 := In.adde (a := 0) (b := 3072) ex1 ⟨hi0, by omega⟩ (k := 1) (by decide) (by decide) (by decide)
  refine va_sld hx hb hXs hbl hbA hS (i := x1) (vp_of (by omega) (by omega)) dL_law_957 ?_
  refine lv_topi (fun x2 ex2 => ?_)
  obtain ⟨_, _, _, hf_me, _, _, _⟩ := hT.1 0 (by decide)
  refine call_i (run_V (rm := rm_X10_brokenPlan) hx hb hml hown hts (s_X10_brokenPlan l g ad th _ _ _ x2 hst hT ) cV_X10_brokenPlan wg_1122 ⟨Nat.le_of_ble_eq_true rfl, Nat.le_of_ble_eq_true rfl⟩ hG hE hA hP hD hS (hst.1 0 (by decide)) hf_me rfl rfl hl.1 (As := [.int x2]) (rest := []) rfl (Nat.le_of_ble_eq_true rfl) dL_law_958 ⟨by show 1000 + k + 0 ≤ 601024; omega, by show 200000 + 6 * k + 0 ≤ 7293034; omega⟩) hA hD hS (fun r3 L4 f5 H locs hp6 hP hD hS => ?_)
  obtain ⟨e7L, e7T, _⟩ := hp6
  have e7L : L4 = L := e7L
  have hT : TI g ad _ f5 := e7T
  rw [e7L] at hP hD
  refine lv_pop hx hb dL_law_961 rfl ?_
  refine lv_aload_n hx hb dL_law_962 rfl (lv_at hl 2 rfl) ?_
  refine lv_aload_n hx hb dL_law_963 rfl (lv_at hl 4 rfl) ?_
  refine lv_iload hx hb dL_law_964 (lv_at hl 0 rfl) ?_
  refine lv_iconst (v := 1) hx hb dL_law_966 (by decide) ?_
  refine lv_iadd hx hb dL_law_967 ?_
  refine lv_topi (fun x8 ex8 => ?_)
  have hx8 : x8.toInt = i.toInt + 1 := In.adde (a := 0) (b := 3072) ex8 ⟨hi0, by omega⟩ (k := 1) (by decide) (by decide) (by decide)
  refine va_sld hx hb hXs hbl hbA hS (i := x8) (vp_of (by omega) (by omega)) dL_law_968 ?_
  refine lv_topi (fun x9 ex9 => ?_)
  refine M0e hT (fun _ _ _ _ _ _ _ _ _ _ _ _ _ _ _ _ _ _ _ _ _ _ _ _ _ _ _ _ _ _ _ _ _ _ hf_me _ _ _ _ _ _ _ _ _ _ _ _ _ _ _ _ _ _ _ _ _ _ _ _ _ _ _ _ _ _ _ _ _ _ _ _ _ _ _ _ _ => ?_)
  refine call_i (run_V (rm := rm_X11_brokenPlan) hx hb hml hown hts (s_X11_brokenPlan l g ad th _ _ _ x9 hst hT hM) cV_X11_brokenPlan wg_1866 ⟨Nat.le_of_ble_eq_true rfl, Nat.le_of_ble_eq_true rfl⟩ hG hE hA hP hD hS (hst.1 255 (by decide)) hf_me rfl rfl hl.1 (As := [.int x9]) (rest := []) rfl (Nat.le_of_ble_eq_true rfl) dL_law_969 ⟨by show 1000 + k + 0 + 0 ≤ 601024; omega, by show 200000 + 6 * k + 0 + 0 ≤ 7293034; omega⟩) hA hD hS (fun r10 L11 f12 H locs hp13 hP hD hS => ?_)
  obtain ⟨e14L, e14T⟩ := hp13
  have e14L : L11 = L := e14L
  obtain ⟨th15, e14I, hT⟩ := e14T
  rw [e14L] at hP hD
  have hC := hC.m e14I.2
  have hM := e14I.1
  revert hT hC hM
  generalize th15 = th
  intro hT hC hM
  refine lv_pop hx hb dL_law_972 rfl ?_
  refine lv_goto (tgt := 1333) hx hb dL_law_973 (by decide) ?_
  refine W.widen (k := 1001 + k) (n := 200006 + 6 * k) (by show 1000 + k + 0 + 0 ≤ _; omega) (by show 200000 + 6 * k + 0 + 0 ≤ _; omega) ?_
  exact K _ _ _ _ _ hT hC hM hP hD hS (lv_sub hl [0, 1, 2, 3, 4] rfl)

set_option maxHeartbeats 4000000 in
set_option maxRecDepth 100000 in
theorem law_c25 {p : Program} {e : Env} {s : State} {m : MethodId} {below : List Frame} {meth : Method} {c : Code} (l : Launch) {b LL : Nat} {xs : Nat → Int32} (C0 : lw_At p s m meth c b LL xs) (htr : l.stackTraces = false) {g : GG} (hG : GK g s) (hE : SW g (fun q : Nat => s.heap.size ≤ q) s s.heap) {L : List Nat} {ad : Nat → Nat} (hst : ST ad L) {th : Nat → Int} {f : HP} {H : Heap} {locs : List Loc} {ls : Array Slot} {i : Int32} {k : Nat} (hk : k ≤ 511) (hi0 : 0 ≤ i.toInt) (hi : i.toInt + 6 ≤ (LL : Int)) (hLL : LL ≤ 3072) (hT : TI g ad th f) (hC : CIv th) (hM : MI th) (hP : va_P g.1 vwCl (va_pl L f) H) (hD : va_D (fun q : Nat => s.heap.size ≤ q) (va_pl L f)) (hS : va_S (fun q : Nat => s.heap.size ≤ q) s.heap H locs) (hl : lv_has ls 7 [(4, .int i), (3, .ref (ad 278)), (2, .ref (ad 255)), (1, .ref (ad 0)), (0, .ref b)]) (K : ∀ (th : Nat → Int) (f : HP) (H : Heap) (locs : List Loc) (ls : Array Slot), TI g ad th f → CIv th → MI th → va_P g.1 vwCl (va_pl L f) H → va_D (fun q : Nat => s.heap.size ≤ q) (va_pl L f) → va_S (fun q : Nat => s.heap.size ≤ q) s.heap H locs → lv_has ls 7 [(4, .int i), (3, .ref (ad 278)), (2, .ref (ad 255)), (1, .ref (ad 0)), (0, .ref b)] → W p l e room_1 s m #[Value.ref b] below meth c H locs (1001 + k) (200006 + 6 * k) (lw_Z below #[Value.ref b] s) (F0 m 1333 ls [])) : W p l e room_1 s m #[Value.ref b] below meth c H locs (1000 + k) (200000 + 6 * k) (lw_Z below #[Value.ref b] s) (F0 m 976 ls []) := by
  obtain ⟨hx, hb, hr, hml, hown, hts0, hXs, hbl, hlocks, hgv⟩ := C0
  have hown : s.vm.findClass "RulerWordLaw" = some m.cls := hown
  have hts := hts1 hts0
  have hA : ∀ q, s.heap.size ≤ q → (fun q : Nat => s.heap.size ≤ q) q := fun _ h => h
  have hbA : ¬ (fun q : Nat => s.heap.size ≤ q) b := Nat.not_le.mpr hbl
  refine lv_aload_n hx hb dL_law_976 rfl (lv_at hl 3 rfl) ?_
  obtain ⟨_, _, _, hf_me, _, _, _⟩ := hT.1 0 (by decide)
  refine call_i (run_V (rm := rm_X10_weakest) hx hb hml hown hts (s_X10_weakest l g ad th _ _ _  hst hT hC) cV_X10_weakest wg_1153 ⟨Nat.le_of_ble_eq_true rfl, Nat.le_of_ble_eq_true rfl⟩ hG hE hA hP hD hS (hst.1 0 (by decide)) hf_me rfl rfl hl.1 (As := []) (rest := []) rfl (Nat.le_of_ble_eq_true rfl) dL_law_977 ⟨by show 1000 + k + 0 ≤ 601024; omega, by show 200000 + 6 * k + 0 ≤ 7293034; omega⟩) hA hD hS (fun r1 L2 f3 H locs hp4 hP hD hS => ?_)
  obtain ⟨e5L, e5T, _⟩ := hp4
  have e5L : L2 = L := e5L
  have hT : TI g ad _ f3 := e5T
  rw [e5L] at hP hD
  refine lv_pop hx hb dL_law_980 rfl ?_
  refine lv_aload_n hx hb dL_law_981 rfl (lv_at hl 2 rfl) ?_
  refine M0e hT (fun _ _ _ _ _ _ _ _ _ _ _ _ _ _ _ _ _ _ _ _ _ _ _ _ _ _ _ _ _ _ _ _ _ _ hf_me _ _ _ _ _ _ _ _ _ _ _ _ _ _ _ _ _ _ _ _ _ _ _ _ _ _ _ _ _ _ _ _ _ _ _ _ _ _ _ _ _ => ?_)
  refine call_i (run_V (rm := rm_X11_weakest) hx hb hml hown hts (s_X11_weakest l g ad th _ _ _  hst hT hM) cV_X11_weakest wg_1888 ⟨Nat.le_of_ble_eq_true rfl, Nat.le_of_ble_eq_true rfl⟩ hG hE hA hP hD hS (hst.1 255 (by decide)) hf_me rfl rfl hl.1 (As := []) (rest := []) rfl (Nat.le_of_ble_eq_true rfl) dL_law_982 ⟨by show 1000 + k + 0 + 0 ≤ 601024; omega, by show 200000 + 6 * k + 0 + 0 ≤ 7293034; omega⟩) hA hD hS (fun r6 L7 f8 H locs hp9 hP hD hS => ?_)
  obtain ⟨e10L, e10T, _⟩ := hp9
  have e10L : L7 = L := e10L
  obtain ⟨th11, e10I, hT⟩ := e10T
  rw [e10L] at hP hD
  have hC := hC.m e10I.2
  have hM := e10I.1
  revert hT hC hM
  generalize th11 = th
  intro hT hC hM
  refine lv_pop hx hb dL_law_985 rfl ?_
  refine lv_goto (tgt := 1333) hx hb dL_law_986 (by decide) ?_
  refine W.widen (k := 1001 + k) (n := 200006 + 6 * k) (by show 1000 + k + 0 + 0 ≤ _; omega) (by show 200000 + 6 * k + 0 + 0 ≤ _; omega) ?_
  exact K _ _ _ _ _ hT hC hM hP hD hS (lv_sub hl [0, 1, 2, 3, 4] rfl)

set_option maxHeartbeats 4000000 in
set_option maxRecDepth 100000 in
theorem law_c26 {p : Program} {e : Env} {s : State} {m : MethodId} {below : List Frame} {meth : Method} {c : Code} (l : Launch) {b LL : Nat} {xs : Nat → Int32} (C0 : lw_At p s m meth c b LL xs) (htr : l.stackTraces = false) {g : GG} (hG : GK g s) (hE : SW g (fun q : Nat => s.heap.size ≤ q) s s.heap) {L : List Nat} {ad : Nat → Nat} (hst : ST ad L) {th : Nat → Int} {f : HP} {H : Heap} {locs : List Loc} {ls : Array Slot} {i : Int32} {k : Nat} (hk : k ≤ 511) (hi0 : 0 ≤ i.toInt) (hi : i.toInt + 6 ≤ (LL : Int)) (hLL : LL ≤ 3072) (hT : TI g ad th f) (hC : CIv th) (hM : MI th) (hP : va_P g.1 vwCl (va_pl L f) H) (hD : va_D (fun q : Nat => s.heap.size ≤ q) (va_pl L f)) (hS : va_S (fun q : Nat => s.heap.size ≤ q) s.heap H locs) (hl : lv_has ls 7 [(4, .int i), (3, .ref (ad 278)), (2, .ref (ad 255)), (1, .ref (ad 0)), (0, .ref b)]) (K : ∀ (th : Nat → Int) (f : HP) (H : Heap) (locs : List Loc) (ls : Array Slot), TI g ad th f → CIv th → MI th → va_P g.1 vwCl (va_pl L f) H → va_D (fun q : Nat => s.heap.size ≤ q) (va_pl L f) → va_S (fun q : Nat => s.heap.size ≤ q) s.heap H locs → lv_has ls 7 [(4, .int i), (3, .ref (ad 278)), (2, .ref (ad 255)), (1, .ref (ad 0)), (0, .ref b)] → W p l e room_1 s m #[Value.ref b] below meth c H locs (1001 + k) (200006 + 6 * k) (lw_Z below #[Value.ref b] s) (F0 m 1333 ls [])) : W p l e room_1 s m #[Value.ref b] below meth c H locs (1000 + k) (200000 + 6 * k) (lw_Z below #[Value.ref b] s) (F0 m 989 ls []) := by
  obtain ⟨hx, hb, hr, hml, hown, hts0, hXs, hbl, hlocks, hgv⟩ := C0
  have hown : s.vm.findClass "RulerWordLaw" = some m.cls := hown
  have hts := hts1 hts0
  have hA : ∀ q, s.heap.size ≤ q → (fun q : Nat => s.heap.size ≤ q) q := fun _ h => h
  have hbA : ¬ (fun q : Nat => s.heap.size ≤ q) b := Nat.not_le.mpr hbl
  refine lv_aload_n hx hb dL_law_989 rfl (lv_at hl 3 rfl) ?_
  refine lv_aload_n hx hb dL_law_990 rfl (lv_at hl 4 rfl) ?_
  refine lv_iload hx hb dL_law_991 (lv_at hl 0 rfl) ?_
  refine lv_iconst (v := 1) hx hb dL_law_993 (by decide) ?_
  refine lv_iadd hx hb dL_law_994 ?_
  refine lv_topi (fun x1 ex1 => ?_)
  have hx1 : x1.toInt = i.toInt + 1 := In.adde (a := 0) (b := 3072) ex1 ⟨hi0, by omega⟩ (k := 1) (by decide) (by decide) (by decide)
  refine va_sld hx hb hXs hbl hbA hS (i := x1) (vp_of (by omega) (by omega)) dL_law_995 ?_
  refine lv_topi (fun x2 ex2 => ?_)
  refine lv_aload_n hx hb dL_law_996 rfl (lv_at hl 4 rfl) ?_
  refine lv_iload hx hb dL_law_997 (lv_at hl 0 rfl) ?_
  refine lv_iconst (v := 2) hx hb dL_law_999 (by decide) ?_
  refine lv_iadd hx hb dL_law_1000 ?_
  refine lv_topi (fun x3 ex3 => ?_)
  have hx3 : x3.toInt = i.toInt + 2 := In.adde (a := 0) (b := 3072) ex3 ⟨hi0, by omega⟩ (k := 2) (by decide) (by decide) (by decide)
  refine va_sld hx hb hXs hbl hbA hS (i := x3) (vp_of (by omega) (by omega)) dL_law_1001 ?_
  refine lv_topi (fun x4 ex4 => ?_)
  obtain ⟨_, _, _, hf_me, _, _, _⟩ := hT.1 0 (by decide)
  refine call_i (run_V (rm := rm_X10_ruled) hx hb hml hown hts (s_X10_ruled l g ad th _ _ _ x2 x4 hst hT ) cV_X10_ruled wg_1157 ⟨Nat.le_of_ble_eq_true rfl, Nat.le_of_ble_eq_true rfl⟩ hG hE hA hP hD hS (hst.1 0 (by decide)) hf_me rfl rfl hl.1 (As := [.int x2, .int x4]) (rest := []) rfl (Nat.le_of_ble_eq_true rfl) dL_law_1002 ⟨by show 1000 + k + 0 ≤ 601024; omega, by show 200000 + 6 * k + 0 ≤ 7293034; omega⟩) hA hD hS (fun r5 L6 f7 H locs hp8 hP hD hS => ?_)
  obtain ⟨e9L, e9T⟩ := hp8
  have e9L : L6 = L := e9L
  have e9T : f7 = _ := e9T
  rw [e9L, e9T] at hP hD
  refine lv_pop hx hb dL_law_1005 rfl ?_
  refine lv_aload_n hx hb dL_law_1006 rfl (lv_at hl 2 rfl) ?_
  refine lv_aload_n hx hb dL_law_1007 rfl (lv_at hl 4 rfl) ?_
  refine lv_iload hx hb dL_law_1008 (lv_at hl 0 rfl) ?_
  refine lv_iconst (v := 1) hx hb dL_law_1010 (by decide) ?_
  refine lv_iadd hx hb dL_law_1011 ?_
  refine lv_topi (fun x10 ex10 => ?_)
  have hx10 : x10.toInt = i.toInt + 1 := In.adde (a := 0) (b := 3072) ex10 ⟨hi0, by omega⟩ (k := 1) (by decide) (by decide) (by decide)
  refine va_sld hx hb hXs hbl hbA hS (i := x10) (vp_of (by omega) (by omega)) dL_law_1012 ?_
  refine lv_topi (fun x11 ex11 => ?_)
  refine lv_aload_n hx hb dL_law_1013 rfl (lv_at hl 4 rfl) ?_
  refine lv_iload hx hb dL_law_1014 (lv_at hl 0 rfl) ?_
  refine lv_iconst (v := 2) hx hb dL_law_1016 (by decide) ?_
  refine lv_iadd hx hb dL_law_1017 ?_
  refine lv_topi (fun x12 ex12 => ?_)
  have hx12 : x12.toInt = i.toInt + 2 := In.adde (a := 0) (b := 3072) ex12 ⟨hi0, by omega⟩ (k := 2) (by decide) (by decide) (by decide)
  refine va_sld hx hb hXs hbl hbA hS (i := x12) (vp_of (by omega) (by omega)) dL_law_1018 ?_
  refine lv_topi (fun x13 ex13 => ?_)
  refine M0e hT (fun _ _ _ _ _ _ _ _ _ _ _ _ _ _ _ _ _ _ _ _ _ _ _ _ _ _ _ _ _ _ _ _ _ _ hf_me _ _ _ _ _ _ _ _ _ _ _ _ _ _ _ _ _ _ _ _ _ _ _ _ _ _ _ _ _ _ _ _ _ _ _ _ _ _ _ _ _ => ?_)
  refine call_i (run_V (rm := rm_X11_ruled) hx hb hml hown hts (s_X11_ruled l g ad th _ _ _ x11 x13 hst hT hM) cV_X11_ruled wg_1892 ⟨Nat.le_of_ble_eq_true rfl, Nat.le_of_ble_eq_true rfl⟩ hG hE hA hP hD hS (hst.1 255 (by decide)) hf_me rfl rfl hl.1 (As := [.int x11, .int x13]) (rest := []) rfl (Nat.le_of_ble_eq_true rfl) dL_law_1019 ⟨by show 1000 + k + 0 + 0 ≤ 601024; omega, by show 200000 + 6 * k + 0 + 0 ≤ 7293034; omega⟩) hA hD hS (fun r14 L15 f16 H locs hp17 hP hD hS => ?_)
  obtain ⟨e18L, e18T, _⟩ := hp17
  have e18L : L15 = L := e18L
  have hT : TI g ad _ f16 := e18T
  rw [e18L] at hP hD
  refine lv_pop hx hb dL_law_1022 rfl ?_
  refine lv_goto (tgt := 1333) hx hb dL_law_1023 (by decide) ?_
  refine W.widen (k := 1001 + k) (n := 200006 + 6 * k) (by show 1000 + k + 0 + 0 ≤ _; omega) (by show 200000 + 6 * k + 0 + 0 ≤ _; omega) ?_
  exact K _ _ _ _ _ hT hC hM hP hD hS (lv_sub hl [0, 1, 2, 3, 4] rfl)

set_option maxHeartbeats 4000000 in
set_option maxRecDepth 100000 in
theorem law_c27 {p : Program} {e : Env} {s : State} {m : MethodId} {below : List Frame} {meth : Method} {c : Code} (l : Launch) {b LL : Nat} {xs : Nat → Int32} (C0 : lw_At p s m meth c b LL xs) (htr : l.stackTraces = false) {g : GG} (hG : GK g s) (hE : SW g (fun q : Nat => s.heap.size ≤ q) s s.heap) {L : List Nat} {ad : Nat → Nat} (hst : ST ad L) {th : Nat → Int} {f : HP} {H : Heap} {locs : List Loc} {ls : Array Slot} {i : Int32} {k : Nat} (hk : k ≤ 511) (hi0 : 0 ≤ i.toInt) (hi : i.toInt + 6 ≤ (LL : Int)) (hLL : LL ≤ 3072) (hT : TI g ad th f) (hC : CIv th) (hM : MI th) (hP : va_P g.1 vwCl (va_pl L f) H) (hD : va_D (fun q : Nat => s.heap.size ≤ q) (va_pl L f)) (hS : va_S (fun q : Nat => s.heap.size ≤ q) s.heap H locs) (hl : lv_has ls 7 [(4, .int i), (3, .ref (ad 278)), (2, .ref (ad 255)), (1, .ref (ad 0)), (0, .ref b)]) (K : ∀ (th : Nat → Int) (f : HP) (H : Heap) (locs : List Loc) (ls : Array Slot), TI g ad th f → CIv th → MI th → va_P g.1 vwCl (va_pl L f) H → va_D (fun q : Nat => s.heap.size ≤ q) (va_pl L f) → va_S (fun q : Nat => s.heap.size ≤ q) s.heap H locs → lv_has ls 7 [(4, .int i), (3, .ref (ad 278)), (2, .ref (ad 255)), (1, .ref (ad 0)), (0, .ref b)] → W p l e room_1 s m #[Value.ref b] below meth c H locs (1001 + k) (200006 + 6 * k) (lw_Z below #[Value.ref b] s) (F0 m 1333 ls [])) : W p l e room_1 s m #[Value.ref b] below meth c H locs (1000 + k) (200000 + 6 * k) (lw_Z below #[Value.ref b] s) (F0 m 1026 ls []) := by
  obtain ⟨hx, hb, hr, hml, hown, hts0, hXs, hbl, hlocks, hgv⟩ := C0
  have hown : s.vm.findClass "RulerWordLaw" = some m.cls := hown
  have hts := hts1 hts0
  have hA : ∀ q, s.heap.size ≤ q → (fun q : Nat => s.heap.size ≤ q) q := fun _ h => h
  have hbA : ¬ (fun q : Nat => s.heap.size ≤ q) b := Nat.not_le.mpr hbl
  refine lv_aload_n hx hb dL_law_1026 rfl (lv_at hl 3 rfl) ?_
  refine lv_aload_n hx hb dL_law_1027 rfl (lv_at hl 4 rfl) ?_
  refine lv_iload hx hb dL_law_1028 (lv_at hl 0 rfl) ?_
  refine lv_iconst (v := 1) hx hb dL_law_1030 (by decide) ?_
  refine lv_iadd hx hb dL_law_1031 ?_
  refine lv_topi (fun x1 ex1 => ?_)
  have hx1 : x1.toInt = i.toInt + 1 := In.adde (a := 0) (b := 3072) ex1 ⟨hi0, by omega⟩ (k := 1) (by decide) (by decide) (by decide)
  refine va_sld hx hb hXs hbl hbA hS (i := x1) (vp_of (by omega) (by omega)) dL_law_1032 ?_
  refine lv_topi (fun x2 ex2 => ?_)
  refine lv_aload_n hx hb dL_law_1033 rfl (lv_at hl 4 rfl) ?_
  refine lv_iload hx hb dL_law_1034 (lv_at hl 0 rfl) ?_
  refine lv_iconst (v := 2) hx hb dL_law_1036 (by decide) ?_
  refine lv_iadd hx hb dL_law_1037 ?_
  refine lv_topi (fun x3 ex3 => ?_)
  have hx3 : x3.toInt = i.toInt + 2 := In.adde (a := 0) (b := 3072) ex3 ⟨hi0, by omega⟩ (k := 2) (by decide) (by decide) (by decide)
  refine va_sld hx hb hXs hbl hbA hS (i := x3) (vp_of (by omega) (by omega)) dL_law_1038 ?_
  refine lv_topi (fun x4 ex4 => ?_)
  obtain ⟨_, _, _, hf_me, _, _, _⟩ := hT.1 0 (by decide)
  refine call_i (run_V (rm := rm_X10_held) hx hb hml hown hts (s_X10_held l g ad th _ _ _ x2 x4 hst hT hC) cV_X10_held wg_1173 ⟨Nat.le_of_ble_eq_true rfl, Nat.le_of_ble_eq_true rfl⟩ hG hE hA hP hD hS (hst.1 0 (by decide)) hf_me rfl rfl hl.1 (As := [.int x2, .int x4]) (rest := []) rfl (Nat.le_of_ble_eq_true rfl) dL_law_1039 ⟨by show 1000 + k + 0 ≤ 601024; omega, by show 200000 + 6 * k + 0 ≤ 7293034; omega⟩) hA hD hS (fun r5 L6 f7 H locs hp8 hP hD hS => ?_)
  obtain ⟨e9L, e9T, _⟩ := hp8
  have e9L : L6 = L := e9L
  obtain ⟨th10, e9I, hT⟩ := e9T
  rw [e9L] at hP hD
  have hM1 := hM.c e9I.2
  have hC := e9I.1
  have hM := hM1
  revert hT hC hM
  generalize th10 = th
  intro hT hC hM
  refine lv_pop hx hb dL_law_1042 rfl ?_
  refine lv_aload_n hx hb dL_law_1043 rfl (lv_at hl 2 rfl) ?_
  refine lv_aload_n hx hb dL_law_1044 rfl (lv_at hl 4 rfl) ?_
  refine lv_iload hx hb dL_law_1045 (lv_at hl 0 rfl) ?_
  refine lv_iconst (v := 1) hx hb dL_law_1047 (by decide) ?_
  refine lv_iadd hx hb dL_law_1048 ?_
  refine lv_topi (fun x11 ex11 => ?_)
  have hx11 : x11.toInt = i.toInt + 1 := In.adde (a := 0) (b := 3072) ex11 ⟨hi0, by omega⟩ (k := 1) (by decide) (by decide) (by decide)
  refine va_sld hx hb hXs hbl hbA hS (i := x11) (vp_of (by omega) (by omega)) dL_law_1049 ?_
  refine lv_topi (fun x12 ex12 => ?_)
  refine lv_aload_n hx hb dL_law_1050 rfl (lv_at hl 4 rfl) ?_
  refine lv_iload hx hb dL_law_1051 (lv_at hl 0 rfl) ?_
  refine lv_iconst (v := 2) hx hb dL_law_1053 (by decide) ?_
  refine lv_iadd hx hb dL_law_1054 ?_
  refine lv_topi (fun x13 ex13 => ?_)
  have hx13 : x13.toInt = i.toInt + 2 := In.adde (a := 0) (b := 3072) ex13 ⟨hi0, by omega⟩ (k := 2) (by decide) (by decide) (by decide)
  refine va_sld hx hb hXs hbl hbA hS (i := x13) (vp_of (by omega) (by omega)) dL_law_1055 ?_
  refine lv_topi (fun x14 ex14 => ?_)
  refine M0e hT (fun _ _ _ _ _ _ _ _ _ _ _ _ _ _ _ _ _ _ _ _ _ _ _ _ _ _ _ _ _ _ _ _ _ _ hf_me _ _ _ _ _ _ _ _ _ _ _ _ _ _ _ _ _ _ _ _ _ _ _ _ _ _ _ _ _ _ _ _ _ _ _ _ _ _ _ _ _ => ?_)
  refine call_i (run_V (rm := rm_X11_held) hx hb hml hown hts (s_X11_held l g ad th _ _ _ x12 x14 hst hT hM) cV_X11_held wg_1900 ⟨Nat.le_of_ble_eq_true rfl, Nat.le_of_ble_eq_true rfl⟩ hG hE hA hP hD hS (hst.1 255 (by decide)) hf_me rfl rfl hl.1 (As := [.int x12, .int x14]) (rest := []) rfl (Nat.le_of_ble_eq_true rfl) dL_law_1056 ⟨by show 1000 + k + 0 + 0 ≤ 601024; omega, by show 200000 + 6 * k + 0 + 0 ≤ 7293034; omega⟩) hA hD hS (fun r15 L16 f17 H locs hp18 hP hD hS => ?_)
  obtain ⟨e19L, e19T, _⟩ := hp18
  have e19L : L16 = L := e19L
  obtain ⟨th20, e19I, hT⟩ := e19T
  rw [e19L] at hP hD
  have hC := hC.m e19I.2
  have hM := e19I.1
  revert hT hC hM
  generalize th20 = th
  intro hT hC hM
  refine lv_pop hx hb dL_law_1059 rfl ?_
  refine lv_goto (tgt := 1333) hx hb dL_law_1060 (by decide) ?_
  refine W.widen (k := 1001 + k) (n := 200006 + 6 * k) (by show 1000 + k + 0 + 0 ≤ _; omega) (by show 200000 + 6 * k + 0 + 0 ≤ _; omega) ?_
  exact K _ _ _ _ _ hT hC hM hP hD hS (lv_sub hl [0, 1, 2, 3, 4] rfl)

set_option maxHeartbeats 4000000 in
set_option maxRecDepth 100000 in
theorem law_c28 {p : Program} {e : Env} {s : State} {m : MethodId} {below : List Frame} {meth : Method} {c : Code} (l : Launch) {b LL : Nat} {xs : Nat → Int32} (C0 : lw_At p s m meth c b LL xs) (htr : l.stackTraces = false) {g : GG} (hG : GK g s) (hE : SW g (fun q : Nat => s.heap.size ≤ q) s s.heap) {L : List Nat} {ad : Nat → Nat} (hst : ST ad L) {th : Nat → Int} {f : HP} {H : Heap} {locs : List Loc} {ls : Array Slot} {i : Int32} {k : Nat} (hk : k ≤ 511) (hi0 : 0 ≤ i.toInt) (hi : i.toInt + 6 ≤ (LL : Int)) (hLL : LL ≤ 3072) (hT : TI g ad th f) (hC : CIv th) (hM : MI th) (hP : va_P g.1 vwCl (va_pl L f) H) (hD : va_D (fun q : Nat => s.heap.size ≤ q) (va_pl L f)) (hS : va_S (fun q : Nat => s.heap.size ≤ q) s.heap H locs) (hl : lv_has ls 7 [(4, .int i), (3, .ref (ad 278)), (2, .ref (ad 255)), (1, .ref (ad 0)), (0, .ref b)]) (K : ∀ (th : Nat → Int) (f : HP) (H : Heap) (locs : List Loc) (ls : Array Slot), TI g ad th f → CIv th → MI th → va_P g.1 vwCl (va_pl L f) H → va_D (fun q : Nat => s.heap.size ≤ q) (va_pl L f) → va_S (fun q : Nat => s.heap.size ≤ q) s.heap H locs → lv_has ls 7 [(4, .int i), (3, .ref (ad 278)), (2, .ref (ad 255)), (1, .ref (ad 0)), (0, .ref b)] → W p l e room_1 s m #[Value.ref b] below meth c H locs (1001 + k) (200006 + 6 * k) (lw_Z below #[Value.ref b] s) (F0 m 1333 ls [])) : W p l e room_1 s m #[Value.ref b] below meth c H locs (1000 + k) (200000 + 6 * k) (lw_Z below #[Value.ref b] s) (F0 m 1063 ls []) := by
  obtain ⟨hx, hb, hr, hml, hown, hts0, hXs, hbl, hlocks, hgv⟩ := C0
  have hown : s.vm.findClass "RulerWordLaw" = some m.cls := hown
  have hts := hts1 hts0
  have hA : ∀ q, s.heap.size ≤ q → (fun q : Nat => s.heap.size ≤ q) q := fun _ h => h
  have hbA : ¬ (fun q : Nat => s.heap.size ≤ q) b := Nat.not_le.mpr hbl
  refine lv_aload_n hx hb dL_law_1063 rfl (lv_at hl 3 rfl) ?_
  obtain ⟨_, _, _, hf_me, _, _, _⟩ := hT.1 0 (by decide)
  refine call_i (run_V (rm := rm_X10_needed) hx hb hml hown hts (s_X10_needed l g ad th _ _ _  hst hT ) cV_X10_needed wg_1181 ⟨Nat.le_of_ble_eq_true rfl, Nat.le_of_ble_eq_true rfl⟩ hG hE hA hP hD hS (hst.1 0 (by decide)) hf_me rfl rfl hl.1 (As := []) (rest := []) rfl (Nat.le_of_ble_eq_true rfl) dL_law_1064 ⟨by show 1000 + k + 0 ≤ 601024; omega, by show 200000 + 6 * k + 0 ≤ 7293034; omega⟩) hA hD hS (fun r1 L2 f3 H locs hp4 hP hD hS => ?_)
  obtain ⟨e5L, e5T, _⟩ := hp4
  have e5L : L2 = L := e5L
  have hT : TI g ad _ f3 := e5T
  rw [e5L] at hP hD
  refine lv_pop hx hb dL_law_1067 rfl ?_
  refine lv_aload_n hx hb dL_law_1068 rfl (lv_at hl 2 rfl) ?_
  refine M0e hT (fun _ _ _ _ _ _ _ _ _ _ _ _ _ _ _ _ _ _ _ _ _ _ _ _ _ _ _ _ _ _ _ _ _ _ hf_me _ _ _ _ _ _ _ _ _ _ _ _ _ _ _ _ _ _ _ _ _ _ _ _ _ _ _ _ _ _ _ _ _ _ _ _ _ _ _ _ _ => ?_)
  refine call_i (run_V (rm := rm_X11_needed) hx hb hml hown hts (s_X11_needed l g ad th _ _ _  hst hT hM) cV_X11_needed wg_1904 ⟨Nat.le_of_ble_eq_true rfl, Nat.le_of_ble_eq_true rfl⟩ hG hE hA hP hD hS (hst.1 255 (by decide)) hf_me rfl rfl hl.1 (As := []) (rest := []) rfl (Nat.le_of_ble_eq_true rfl) dL_law_1069 ⟨by show 1000 + k + 0 + 0 ≤ 601024; omega, by show 200000 + 6 * k + 0 + 0 ≤ 7293034; omega⟩) hA hD hS (fun r6 L7 f8 H locs hp9 hP hD hS => ?_)
  obtain ⟨e10L, e10T, _⟩ := hp9
  have e10L : L7 = L := e10L
  obtain ⟨th11, e10I, hT⟩ := e10T
  rw [e10L] at hP hD
  have hC := hC.m e10I.2
  have hM := e10I.1
  revert hT hC hM
  generalize th11 = th
  intro hT hC hM
  refine lv_pop hx hb dL_law_1072 rfl ?_
  refine lv_goto (tgt := 1333) hx hb dL_law_1073 (by decide) ?_
  refine W.widen (k := 1001 + k) (n := 200006 + 6 * k) (by show 1000 + k + 0 + 0 ≤ _; omega) (by show 200000 + 6 * k + 0 + 0 ≤ _; omega) ?_
  exact K _ _ _ _ _ hT hC hM hP hD hS (lv_sub hl [0, 1, 2, 3, 4] rfl)

set_option maxHeartbeats 4000000 in
set_option maxRecDepth 100000 in
theorem law_c29 {p : Program} {e : Env} {s : State} {m : MethodId} {below : List Frame} {meth : Method} {c : Code} (l : Launch) {b LL : Nat} {xs : Nat → Int32} (C0 : lw_At p s m meth c b LL xs) (htr : l.stackTraces = false) {g : GG} (hG : GK g s) (hE : SW g (fun q : Nat => s.heap.size ≤ q) s s.heap) {L : List Nat} {ad : Nat → Nat} (hst : ST ad L) {th : Nat → Int} {f : HP} {H : Heap} {locs : List Loc} {ls : Array Slot} {i : Int32} {k : Nat} (hk : k ≤ 511) (hi0 : 0 ≤ i.toInt) (hi : i.toInt + 6 ≤ (LL : Int)) (hLL : LL ≤ 3072) (hT : TI g ad th f) (hC : CIv th) (hM : MI th) (hP : va_P g.1 vwCl (va_pl L f) H) (hD : va_D (fun q : Nat => s.heap.size ≤ q) (va_pl L f)) (hS : va_S (fun q : Nat => s.heap.size ≤ q) s.heap H locs) (hl : lv_has ls 7 [(4, .int i), (3, .ref (ad 278)), (2, .ref (ad 255)), (1, .ref (ad 0)), (0, .ref b)]) (K : ∀ (th : Nat → Int) (f : HP) (H : Heap) (locs : List Loc) (ls : Array Slot), TI g ad th f → CIv th → MI th → va_P g.1 vwCl (va_pl L f) H → va_D (fun q : Nat => s.heap.size ≤ q) (va_pl L f) → va_S (fun q : Nat => s.heap.size ≤ q) s.heap H locs → lv_has ls 7 [(4, .int i), (3, .ref (ad 278)), (2, .ref (ad 255)), (1, .ref (ad 0)), (0, .ref b)] → W p l e room_1 s m #[Value.ref b] below meth c H locs (1001 + k) (200006 + 6 * k) (lw_Z below #[Value.ref b] s) (F0 m 1333 ls [])) : W p l e room_1 s m #[Value.ref b] below meth c H locs (1000 + k) (200000 + 6 * k) (lw_Z below #[Value.ref b] s) (F0 m 1076 ls []) := by
  obtain ⟨hx, hb, hr, hml, hown, hts0, hXs, hbl, hlocks, hgv⟩ := C0
  have hown : s.vm.findClass "RulerWordLaw" = some m.cls := hown
  have hts := hts1 hts0
  have hA : ∀ q, s.heap.size ≤ q → (fun q : Nat => s.heap.size ≤ q) q := fun _ h => h
  have hbA : ¬ (fun q : Nat => s.heap.size ≤ q) b := Nat.not_le.mpr hbl
  refine lv_aload_n hx hb dL_law_1076 rfl (lv_at hl 3 rfl) ?_
  refine lv_aload_n hx hb dL_law_1077 rfl (lv_at hl 4 rfl) ?_
  refine lv_iload hx hb dL_law_1078 (lv_at hl 0 rfl) ?_
  refine lv_iconst (v := 1) hx hb dL_law_1080 (by decide) ?_
  refine lv_iadd hx hb dL_law_1081 ?_
  refine lv_topi (fun x1 ex1 => ?_)
  have hx1 : x1.toInt = i.toInt + 1 := In.adde (a := 0) (b := 3072) ex1 ⟨hi0, by omega⟩ (k := 1) (by decide) (by decide) (by decide)
  refine va_sld hx hb hXs hbl hbA hS (i := x1) (vp_of (by omega) (by omega)) dL_law_1082 ?_
  refine lv_topi (fun x2 ex2 => ?_)
  obtain ⟨_, _, _, hf_me, _, _, _⟩ := hT.1 0 (by decide)
  refine call_i (run_V (rm := rm_X10_asOthers) hx hb hml hown hts (s_X10_asOthers l g ad th _ _ _ x2 hst hT hC) cV_X10_asOthers wg_1185 ⟨Nat.le_of_ble_eq_true rfl, Nat.le_of_ble_eq_true rfl⟩ hG hE hA hP hD hS (hst.1 0 (by decide)) hf_me rfl rfl hl.1 (As := [.int x2]) (rest := []) rfl (Nat.le_of_ble_eq_true rfl) dL_law_1083 ⟨by show 1000 + k + 0 ≤ 601024; omega, by show 200000 + 6 * k + 0 ≤ 7293034; omega⟩) hA hD hS (fun r3 L4 f5 H locs hp6 hP hD hS => ?_)
  obtain ⟨e7L, e7T, _⟩ := hp6
  have e7L : L4 = L := e7L
  obtain ⟨th8, e7I, hT⟩ := e7T
  rw [e7L] at hP hD
  have hM1 := hM.c e7I.2
  have hC := e7I.1
  have hM := hM1
  revert hT hC hM
  generalize th8 = th
  intro hT hC hM
  refine lv_pop hx hb dL_law_1086 rfl ?_
  refine lv_aload_n hx hb dL_law_1087 rfl (lv_at hl 2 rfl) ?_
  refine lv_aload_n hx hb dL_law_1088 rfl (lv_at hl 4 rfl) ?_
  refine lv_iload hx hb dL_law_1089 (lv_at hl 0 rfl) ?_
  refine lv_iconst (v := 1) hx hb dL_law_1091 (by decide) ?_
  refine lv_iadd hx hb dL_law_1092 ?_
  refine lv_topi (fun x9 ex9 => ?_)
  have hx9 : x9.toInt = i.toInt + 1 := In.adde (a := 0) (b := 3072) ex9 ⟨hi0, by omega⟩ (k := 1) (by decide) (by decide) (by decide)
  refine va_sld hx hb hXs hbl hbA hS (i := x9) (vp_of (by omega) (by omega)) dL_law_1093 ?_
  refine lv_topi (fun x10 ex10 => ?_)
  refine M0e hT (fun _ _ _ _ _ _ _ _ _ _ _ _ _ _ _ _ _ _ _ _ _ _ _ _ _ _ _ _ _ _ _ _ _ _ hf_me _ _ _ _ _ _ _ _ _ _ _ _ _ _ _ _ _ _ _ _ _ _ _ _ _ _ _ _ _ _ _ _ _ _ _ _ _ _ _ _ _ => ?_)
  refine call_i (run_V (rm := rm_X11_asOthers) hx hb hml hown hts (s_X11_asOthers l g ad th _ _ _ x10 hst hT hM) cV_X11_asOthers wg_1908 ⟨Nat.le_of_ble_eq_true rfl, Nat.le_of_ble_eq_true rfl⟩ hG hE hA hP hD hS (hst.1 255 (by decide)) hf_me rfl rfl hl.1 (As := [.int x10]) (rest := []) rfl (Nat.le_of_ble_eq_true rfl) dL_law_1094 ⟨by show 1000 + k + 0 + 0 ≤ 601024; omega, by show 200000 + 6 * k + 0 + 0 ≤ 7293034; omega⟩) hA hD hS (fun r11 L12 f13 H locs hp14 hP hD hS => ?_)
  obtain ⟨e15L, e15T, _⟩ := hp14
  have e15L : L12 = L := e15L
  obtain ⟨th16, e15I, hT⟩ := e15T
  rw [e15L] at hP hD
  have hC := hC.m e15I.2
  have hM := e15I.1
  revert hT hC hM
  generalize th16 = th
  intro hT hC hM
  refine lv_pop hx hb dL_law_1097 rfl ?_
  refine lv_goto (tgt := 1333) hx hb dL_law_1098 (by decide) ?_
  refine W.widen (k := 1001 + k) (n := 200006 + 6 * k) (by show 1000 + k + 0 + 0 ≤ _; omega) (by show 200000 + 6 * k + 0 + 0 ≤ _; omega) ?_
  exact K _ _ _ _ _ hT hC hM hP hD hS (lv_sub hl [0, 1, 2, 3, 4] rfl)

set_option maxHeartbeats 4000000 in
set_option maxRecDepth 100000 in
theorem law_c30 {p : Program} {e : Env} {s : State} {m : MethodId} {below : List Frame} {meth : Method} {c : Code} (l : Launch) {b LL : Nat} {xs : Nat → Int32} (C0 : lw_At p s m meth c b LL xs) (htr : l.stackTraces = false) {g : GG} (hG : GK g s) (hE : SW g (fun q : Nat => s.heap.size ≤ q) s s.heap) {L : List Nat} {ad : Nat → Nat} (hst : ST ad L) {th : Nat → Int} {f : HP} {H : Heap} {locs : List Loc} {ls : Array Slot} {i : Int32} {k : Nat} (hk : k ≤ 511) (hi0 : 0 ≤ i.toInt) (hi : i.toInt + 6 ≤ (LL : Int)) (hLL : LL ≤ 3072) (hT : TI g ad th f) (hC : CIv th) (hM : MI th) (hP : va_P g.1 vwCl (va_pl L f) H) (hD : va_D (fun q : Nat => s.heap.size ≤ q) (va_pl L f)) (hS : va_S (fun q : Nat => s.heap.size ≤ q) s.heap H locs) (hl : lv_has ls 7 [(4, .int i), (3, .ref (ad 278)), (2, .ref (ad 255)), (1, .ref (ad 0)), (0, .ref b)]) (K : ∀ (th : Nat → Int) (f : HP) (H : Heap) (locs : List Loc) (ls : Array Slot), TI g ad th f → CIv th → MI th → va_P g.1 vwCl (va_pl L f) H → va_D (fun q : Nat => s.heap.size ≤ q) (va_pl L f) → va_S (fun q : Nat => s.heap.size ≤ q) s.heap H locs → lv_has ls 7 [(4, .int i), (3, .ref (ad 278)), (2, .ref (ad 255)), (1, .ref (ad 0)), (0, .ref b)] → W p l e room_1 s m #[Value.ref b] below meth c H locs (1001 + k) (200006 + 6 * k) (lw_Z below #[Value.ref b] s) (F0 m 1333 ls [])) : W p l e room_1 s m #[Value.ref b] below meth c H locs (1000 + k) (200000 + 6 * k) (lw_Z below #[Value.ref b] s) (F0 m 1101 ls []) := by
  obtain ⟨hx, hb, hr, hml, hown, hts0, hXs, hbl, hlocks, hgv⟩ := C0
  have hown : s.vm.findClass "RulerWordLaw" = some m.cls := hown
  have hts := hts1 hts0
  have hA : ∀ q, s.heap.size ≤ q → (fun q : Nat => s.heap.size ≤ q) q := fun _ h => h
  have hbA : ¬ (fun q : Nat => s.heap.size ≤ q) b := Nat.not_le.mpr hbl
  refine lv_aload_n hx hb dL_law_1101 rfl (lv_at hl 3 rfl) ?_
  refine lv_aload_n hx hb dL_law_1102 rfl (lv_at hl 4 rfl) ?_
  refine lv_iload hx hb dL_law_1103 (lv_at hl 0 rfl) ?_
  refine lv_iconst (v := 1) hx hb dL_law_1105 (by decide) ?_
  refine lv_iadd hx hb dL_law_1106 ?_
  refine lv_topi (fun x1 ex1 => ?_)
  have hx1 : x1.toInt = i.toInt + 1 := In.adde (a := 0) (b := 3072) ex1 ⟨hi0, by omega⟩ (k := 1) (by decide) (by decide) (by decide)
  refine va_sld hx hb hXs hbl hbA hS (i := x1) (vp_of (by omega) (by omega)) dL_law_1107 ?_
  refine lv_topi (fun x2 ex2 => ?_)
  refine lv_aload_n hx hb dL_law_1108 rfl (lv_at hl 4 rfl) ?_
  refine lv_iload hx hb dL_law_1109 (lv_at hl 0 rfl) ?_
  refine lv_iconst (v := 2) hx hb dL_law_1111 (by decide) ?_
  refine lv_iadd hx hb dL_law_1112 ?_
  refine lv_topi (fun x3 ex3 => ?_)
  have hx3 : x3.toInt = i.toInt + 2 := In.adde (a := 0) (b := 3072) ex3 ⟨hi0, by omega⟩ (k := 2) (by decide) (by decide) (by decide)
  refine va_sld hx hb hXs hbl hbA hS (i := x3) (vp_of (by omega) (by omega)) dL_law_1113 ?_
  refine lv_topi (fun x4 ex4 => ?_)
  refine lv_i2l hx hb dL_law_1114 rfl ?_
  refine lv_topl (fun y5 ey5 => ?_)
  refine lv_bipush (v := 32) hx hb dL_law_1115 (by decide) ?_
  refine lv_lshl hx hb dL_law_1117 rfl ?_
  refine lv_topl (fun y6 ey6 => ?_)
  refine lv_aload_n hx hb dL_law_1118 rfl (lv_at hl 4 rfl) ?_
  refine lv_iload hx hb dL_law_1119 (lv_at hl 0 rfl) ?_
  refine lv_iconst (v := 3) hx hb dL_law_1121 (by decide) ?_
  refine lv_iadd hx hb dL_law_1122 ?_
  refine lv_topi (fun x7 ex7 => ?_)
  have hx7 : x7.toInt = i.toInt + 3 := In.adde (a := 0) (b := 3072) ex7 ⟨hi0, by omega⟩ (k := 3) (by decide) (by decide) (by decide)
  refine va_sld hx hb hXs hbl hbA hS (i := x7) (vp_of (by omega) (by omega)) dL_law_1123 ?_
  refine lv_topi (fun x8 ex8 => ?_)
  refine lv_i2l hx hb dL_law_1124 rfl ?_
  refine lv_topl (fun y9 ey9 => ?_)
  refine lv_ldc2 hx hb hown (hts _ (mT wg_1951)) dL_law_1125 ?_
  refine lv_topl (fun y10 ey10 => ?_)
  refine lv_land hx hb dL_law_1128 ?_
  refine lv_topl (fun y11 ey11 => ?_)
  refine lv_lor hx hb dL_law_1129 ?_
  refine lv_topl (fun y12 ey12 => ?_)
  refine lv_aload_n hx hb dL_law_1130 rfl (lv_at hl 4 rfl) ?_
  refine lv_iload hx hb dL_law_1131 (lv_at hl 0 rfl) ?_
  refine lv_iconst (v := 4) hx hb dL_law_1133 (by decide) ?_
  refine lv_iadd hx hb dL_law_1134 ?_
  refine lv_topi (fun x13 ex13 => ?_)
  have hx13 : x13.toInt = i.toInt + 4 := In.adde (a := 0) (b := 3072) ex13 ⟨hi0, by omega⟩ (k := 4) (by decide) (by decide) (by decide)
  refine va_sld hx hb hXs hbl hbA hS (i := x13) (vp_of (by omega) (by omega)) dL_law_1135 ?_
  refine lv_topi (fun x14 ex14 => ?_)
  obtain ⟨_, _, _, hf_me, _, _, _⟩ := hT.1 0 (by decide)
  refine call_i (run_V (rm := rm_X10_byChance) hx hb hml hown hts (s_X10_byChance l g ad th _ _ _ x2 y12 x14 hst hT hC) cV_X10_byChance wg_1189 ⟨Nat.le_of_ble_eq_true rfl, Nat.le_of_ble_eq_true rfl⟩ hG hE hA hP hD hS (hst.1 0 (by decide)) hf_me rfl rfl hl.1 (As := [.int x2, .long y12, .int x14]) (rest := []) rfl (Nat.le_of_ble_eq_true rfl) dL_law_1136 ⟨by show 1000 + k + 0 ≤ 601024; omega, by show 200000 + 6 * k + 0 ≤ 7293034; omega⟩) hA hD hS (fun r15 L16 f17 H locs hp18 hP hD hS => ?_)
  obtain ⟨e19L, e19T, _⟩ := hp18
  have e19L : L16 = L := e19L
  obtain ⟨th20, e19I, hT⟩ := e19T
  rw [e19L] at hP hD
  have hM1 := hM.c e19I.2
  have hC := e19I.1
  have hM := hM1
  revert hT hC hM
  generalize th20 = th
  intro hT hC hM
  refine lv_pop hx hb dL_law_1139 rfl ?_
  refine lv_aload_n hx hb dL_law_1140 rfl (lv_at hl 2 rfl) ?_
  refine lv_aload_n hx hb dL_law_1141 rfl (lv_at hl 4 rfl) ?_
  refine lv_iload hx hb dL_law_1142 (lv_at hl 0 rfl) ?_
  refine lv_iconst (v := 1) hx hb dL_law_1144 (by decide) ?_
  refine lv_iadd hx hb dL_law_1145 ?_
  refine lv_topi (fun x21 ex21 => ?_)
  have hx21 : x21.toInt = i.toInt + 1 := In.adde (a := 0) (b := 3072) ex21 ⟨hi0, by omega⟩ (k := 1) (by decide) (by decide) (by decide)
  refine va_sld hx hb hXs hbl hbA hS (i := x21) (vp_of (by omega) (by omega)) dL_law_1146 ?_
  refine lv_topi (fun x22 ex22 => ?_)
  refine lv_aload_n hx hb dL_law_1147 rfl (lv_at hl 4 rfl) ?_
  refine lv_iload hx hb dL_law_1148 (lv_at hl 0 rfl) ?_
  refine lv_iconst (v := 2) hx hb dL_law_1150 (by decide) ?_
  refine lv_iadd hx hb dL_law_1151 ?_
  refine lv_topi (fun x23 ex23 => ?_)
  have hx23 : x23.toInt = i.toInt + 2 := In.adde (a := 0) (b := 3072) ex23 ⟨hi0, by omega⟩ (k := 2) (by decide) (by decide) (by decide)
  refine va_sld hx hb hXs hbl hbA hS (i := x23) (vp_of (by omega) (by omega)) dL_law_1152 ?_
  refine lv_topi (fun x24 ex24 => ?_)
  refine lv_i2l hx hb dL_law_1153 rfl ?_
  refine lv_topl (fun y25 ey25 => ?_)
  refine lv_bipush (v := 32) hx hb dL_law_1154 (by decide) ?_
  refine lv_lshl hx hb dL_law_1156 rfl ?_
  refine lv_topl (fun y26 ey26 => ?_)
  refine lv_aload_n hx hb dL_law_1157 rfl (lv_at hl 4 rfl) ?_
  refine lv_iload hx hb dL_law_1158 (lv_at hl 0 rfl) ?_
  refine lv_iconst (v := 3) hx hb dL_law_1160 (by decide) ?_
  refine lv_iadd hx hb dL_law_1161 ?_
  refine lv_topi (fun x27 ex27 => ?_)
  have hx27 : x27.toInt = i.toInt + 3 := In.adde (a := 0) (b := 3072) ex27 ⟨hi0, by omega⟩ (k := 3) (by decide) (by decide) (by decide)
  refine va_sld hx hb hXs hbl hbA hS (i := x27) (vp_of (by omega) (by omega)) dL_law_1162 ?_
  refine lv_topi (fun x28 ex28 => ?_)
  refine lv_i2l hx hb dL_law_1163 rfl ?_
  refine lv_topl (fun y29 ey29 => ?_)
  refine lv_ldc2 hx hb hown (hts _ (mT wg_1951)) dL_law_1164 ?_
  refine lv_topl (fun y30 ey30 => ?_)
  refine lv_land hx hb dL_law_1167 ?_
  refine lv_topl (fun y31 ey31 => ?_)
  refine lv_lor hx hb dL_law_1168 ?_
  refine lv_topl (fun y32 ey32 => ?_)
  refine lv_aload_n hx hb dL_law_1169 rfl (lv_at hl 4 rfl) ?_
  refine lv_iload hx hb dL_law_1170 (lv_at hl 0 rfl) ?_
  refine lv_iconst (v := 4) hx hb dL_law_1172 (by decide) ?_
  refine lv_iadd hx hb dL_law_1173 ?_
  refine lv_topi (fun x33 ex33 => ?_)
  have hx33 : x33.toInt = i.toInt + 4 := In.adde (a := 0) (b := 3072) ex33 ⟨hi0, by omega⟩ (k := 4) (by decide) (by decide) (by decide)
  refine va_sld hx hb hXs hbl hbA hS (i := x33) (vp_of (by omega) (by omega)) dL_law_1174 ?_
  refine lv_topi (fun x34 ex34 => ?_)
  refine M0e hT (fun _ _ _ _ _ _ _ _ _ _ _ _ _ _ _ _ _ _ _ _ _ _ _ _ _ _ _ _ _ _ _ _ _ _ hf_me _ _ _ _ _ _ _ _ _ _ _ _ _ _ _ _ _ _ _ _ _ _ _ _ _ _ _ _ _ _ _ _ _ _ _ _ _ _ _ _ _ => ?_)
  refine call_i (run_V (rm := rm_X11_byChance) hx hb hml hown hts (s_X11_byChance l g ad th _ _ _ x22 y32 x34 hst hT hM) cV_X11_byChance wg_1916 ⟨Nat.le_of_ble_eq_true rfl, Nat.le_of_ble_eq_true rfl⟩ hG hE hA hP hD hS (hst.1 255 (by decide)) hf_me rfl rfl hl.1 (As := [.int x22, .long y32, .int x34]) (rest := []) rfl (Nat.le_of_ble_eq_true rfl) dL_law_1175 ⟨by show 1000 + k + 0 + 0 ≤ 601024; omega, by show 200000 + 6 * k + 0 + 0 ≤ 7293034; omega⟩) hA hD hS (fun r35 L36 f37 H locs hp38 hP hD hS => ?_)
  obtain ⟨e39L, e39T, _⟩ := hp38
  have e39L : L36 = L := e39L
  obtain ⟨th40, e39I, hT⟩ := e39T
  rw [e39L] at hP hD
  have hC := hC.m e39I.2
  have hM := e39I.1
  revert hT hC hM
  generalize th40 = th
  intro hT hC hM
  refine lv_pop hx hb dL_law_1178 rfl ?_
  refine lv_goto (tgt := 1333) hx hb dL_law_1179 (by decide) ?_
  refine W.widen (k := 1001 + k) (n := 200006 + 6 * k) (by show 1000 + k + 0 + 0 ≤ _; omega) (by show 200000 + 6 * k + 0 + 0 ≤ _; omega) ?_
  exact K _ _ _ _ _ hT hC hM hP hD hS (lv_sub hl [0, 1, 2, 3, 4] rfl)

set_option maxHeartbeats 4000000 in
set_option maxRecDepth 100000 in
theorem law_c31 {p : Program} {e : Env} {s : State} {m : MethodId} {below : List Frame} {meth : Method} {c : Code} (l : Launch) {b LL : Nat} {xs : Nat → Int32} (C0 : lw_At p s m meth c b LL xs) (htr : l.stackTraces = false) {g : GG} (hG : GK g s) (hE : SW g (fun q : Nat => s.heap.size ≤ q) s s.heap) {L : List Nat} {ad : Nat → Nat} (hst : ST ad L) {th : Nat → Int} {f : HP} {H : Heap} {locs : List Loc} {ls : Array Slot} {i : Int32} {k : Nat} (hk : k ≤ 511) (hi0 : 0 ≤ i.toInt) (hi : i.toInt + 6 ≤ (LL : Int)) (hLL : LL ≤ 3072) (hT : TI g ad th f) (hC : CIv th) (hM : MI th) (hP : va_P g.1 vwCl (va_pl L f) H) (hD : va_D (fun q : Nat => s.heap.size ≤ q) (va_pl L f)) (hS : va_S (fun q : Nat => s.heap.size ≤ q) s.heap H locs) (hl : lv_has ls 7 [(4, .int i), (3, .ref (ad 278)), (2, .ref (ad 255)), (1, .ref (ad 0)), (0, .ref b)]) (K : ∀ (th : Nat → Int) (f : HP) (H : Heap) (locs : List Loc) (ls : Array Slot), TI g ad th f → CIv th → MI th → va_P g.1 vwCl (va_pl L f) H → va_D (fun q : Nat => s.heap.size ≤ q) (va_pl L f) → va_S (fun q : Nat => s.heap.size ≤ q) s.heap H locs → lv_has ls 7 [(4, .int i), (3, .ref (ad 278)), (2, .ref (ad 255)), (1, .ref (ad 0)), (0, .ref b)] → W p l e room_1 s m #[Value.ref b] below meth c H locs (1001 + k) (200006 + 6 * k) (lw_Z below #[Value.ref b] s) (F0 m 1333 ls [])) : W p l e room_1 s m #[Value.ref b] below meth c H locs (1000 + k) (200000 + 6 * k) (lw_Z below #[Value.ref b] s) (F0 m 1182 ls []) := by
  obtain ⟨hx, hb, hr, hml, hown, hts0, hXs, hbl, hlocks, hgv⟩ := C0
  have hown : s.vm.findClass "RulerWordLaw" = some m.cls := hown
  have hts := hts1 hts0
  have hA : ∀ q, s.heap.size ≤ q → (fun q : Nat => s.heap.size ≤ q) q := fun _ h => h
  have hbA : ¬ (fun q : Nat => s.heap.size ≤ q) b := Nat.not_le.mpr hbl
  refine lv_aload_n hx hb dL_law_1182 rfl (lv_at hl 3 rfl) ?_
  refine lv_aload_n hx hb dL_law_1183 rfl (lv_at hl 4 rfl) ?_
  refine lv_iload hx hb dL_law_1184 (lv_at hl 0 rfl) ?_
  refine lv_iconst (v := 1) hx hb dL_law_1186 (by decide) ?_
  refine lv_iadd hx hb dL_law_1187 ?_
  refine lv_topi (fun x1 ex1 => ?_)
  have hx1 : x1.toInt = i.toInt + 1 := In.adde (a := 0) (b := 3072) ex1 ⟨hi0, by omega⟩ (k := 1) (by decide) (by decide) (by decide)
  refine va_sld hx hb hXs hbl hbA hS (i := x1) (vp_of (by omega) (by omega)) dL_law_1188 ?_
  refine lv_topi (fun x2 ex2 => ?_)
  refine lv_aload_n hx hb dL_law_1189 rfl (lv_at hl 4 rfl) ?_
  refine lv_iload hx hb dL_law_1190 (lv_at hl 0 rfl) ?_
  refine lv_iconst (v := 2) hx hb dL_law_1192 (by decide) ?_
  refine lv_iadd hx hb dL_law_1193 ?_
  refine lv_topi (fun x3 ex3 => ?_)
  have hx3 : x3.toInt = i.toInt + 2 := In.adde (a := 0) (b := 3072) ex3 ⟨hi0, by omega⟩ (k := 2) (by decide) (by decide) (by decide)
  refine va_sld hx hb hXs hbl hbA hS (i := x3) (vp_of (by omega) (by omega)) dL_law_1194 ?_
  refine lv_topi (fun x4 ex4 => ?_)
  obtain ⟨_, _, _, hf_me, _, _, _⟩ := hT.1 0 (by decide)
  refine call_i (run_V (rm := rm_X10_shown) hx hb hml hown hts (s_X10_shown l g ad th _ _ _ x2 x4 hst hT ) cV_X10_shown wg_1193 ⟨Nat.le_of_ble_eq_true rfl, Nat.le_of_ble_eq_true rfl⟩ hG hE hA hP hD hS (hst.1 0 (by decide)) hf_me rfl rfl hl.1 (As := [.int x2, .int x4]) (rest := []) rfl (Nat.le_of_ble_eq_true rfl) dL_law_1195 ⟨by show 1000 + k + 0 ≤ 601024; omega, by show 200000 + 6 * k + 0 ≤ 7293034; omega⟩) hA hD hS (fun r5 L6 f7 H locs hp8 hP hD hS => ?_)
  obtain ⟨e9L, e9T, _⟩ := hp8
  have e9L : L6 = L := e9L
  have hT : TI g ad _ f7 := e9T
  rw [e9L] at hP hD
  refine lv_pop hx hb dL_law_1198 rfl ?_
  refine lv_aload_n hx hb dL_law_1199 rfl (lv_at hl 2 rfl) ?_
  refine lv_aload_n hx hb dL_law_1200 rfl (lv_at hl 4 rfl) ?_
  refine lv_iload hx hb dL_law_1201 (lv_at hl 0 rfl) ?_
  refine lv_iconst (v := 1) hx hb dL_law_1203 (by decide) ?_
  refine lv_iadd hx hb dL_law_1204 ?_
  refine lv_topi (fun x10 ex10 => ?_)
  have hx10 : x10.toInt = i.toInt + 1 := In.adde (a := 0) (b := 3072) ex10 ⟨hi0, by omega⟩ (k := 1) (by decide) (by decide) (by decide)
  refine va_sld hx hb hXs hbl hbA hS (i := x10) (vp_of (by omega) (by omega)) dL_law_1205 ?_
  refine lv_topi (fun x11 ex11 => ?_)
  refine lv_aload_n hx hb dL_law_1206 rfl (lv_at hl 4 rfl) ?_
  refine lv_iload hx hb dL_law_1207 (lv_at hl 0 rfl) ?_
  refine lv_iconst (v := 2) hx hb dL_law_1209 (by decide) ?_
  refine lv_iadd hx hb dL_law_1210 ?_
  refine lv_topi (fun x12 ex12 => ?_)
  have hx12 : x12.toInt = i.toInt + 2 := In.adde (a := 0) (b := 3072) ex12 ⟨hi0, by omega⟩ (k := 2) (by decide) (by decide) (by decide)
  refine va_sld hx hb hXs hbl hbA hS (i := x12) (vp_of (by omega) (by omega)) dL_law_1211 ?_
  refine lv_topi (fun x13 ex13 => ?_)
  refine M0e hT (fun _ _ _ _ _ _ _ _ _ _ _ _ _ _ _ _ _ _ _ _ _ _ _ _ _ _ _ _ _ _ _ _ _ _ hf_me _ _ _ _ _ _ _ _ _ _ _ _ _ _ _ _ _ _ _ _ _ _ _ _ _ _ _ _ _ _ _ _ _ _ _ _ _ _ _ _ _ => ?_)
  refine call_i (run_V (rm := rm_X11_shown) hx hb hml hown hts (s_X11_shown l g ad th _ _ _ x11 x13 hst hT hM) cV_X11_shown wg_1921 ⟨Nat.le_of_ble_eq_true rfl, Nat.le_of_ble_eq_true rfl⟩ hG hE hA hP hD hS (hst.1 255 (by decide)) hf_me rfl rfl hl.1 (As := [.int x11, .int x13]) (rest := []) rfl (Nat.le_of_ble_eq_true rfl) dL_law_1212 ⟨by show 1000 + k + 0 + 0 ≤ 601024; omega, by show 200000 + 6 * k + 0 + 0 ≤ 7293034; omega⟩) hA hD hS (fun r14 L15 f16 H locs hp17 hP hD hS => ?_)
  obtain ⟨e18L, e18T, _⟩ := hp17
  have e18L : L15 = L := e18L
  obtain ⟨th19, e18I, hT⟩ := e18T
  rw [e18L] at hP hD
  have hC := hC.m e18I.2
  have hM := e18I.1
  revert hT hC hM
  generalize th19 = th
  intro hT hC hM
  refine lv_pop hx hb dL_law_1215 rfl ?_
  refine lv_goto (tgt := 1333) hx hb dL_law_1216 (by decide) ?_
  refine W.widen (k := 1001 + k) (n := 200006 + 6 * k) (by show 1000 + k + 0 + 0 ≤ _; omega) (by show 200000 + 6 * k + 0 + 0 ≤ _; omega) ?_
  exact K _ _ _ _ _ hT hC hM hP hD hS (lv_sub hl [0, 1, 2, 3, 4] rfl)

set_option maxHeartbeats 4000000 in
set_option maxRecDepth 100000 in
theorem law_c32 {p : Program} {e : Env} {s : State} {m : MethodId} {below : List Frame} {meth : Method} {c : Code} (l : Launch) {b LL : Nat} {xs : Nat → Int32} (C0 : lw_At p s m meth c b LL xs) (htr : l.stackTraces = false) {g : GG} (hG : GK g s) (hE : SW g (fun q : Nat => s.heap.size ≤ q) s s.heap) {L : List Nat} {ad : Nat → Nat} (hst : ST ad L) {th : Nat → Int} {f : HP} {H : Heap} {locs : List Loc} {ls : Array Slot} {i : Int32} {k : Nat} (hk : k ≤ 511) (hi0 : 0 ≤ i.toInt) (hi : i.toInt + 6 ≤ (LL : Int)) (hLL : LL ≤ 3072) (hT : TI g ad th f) (hC : CIv th) (hM : MI th) (hP : va_P g.1 vwCl (va_pl L f) H) (hD : va_D (fun q : Nat => s.heap.size ≤ q) (va_pl L f)) (hS : va_S (fun q : Nat => s.heap.size ≤ q) s.heap H locs) (hl : lv_has ls 7 [(4, .int i), (3, .ref (ad 278)), (2, .ref (ad 255)), (1, .ref (ad 0)), (0, .ref b)]) (K : ∀ (th : Nat → Int) (f : HP) (H : Heap) (locs : List Loc) (ls : Array Slot), TI g ad th f → CIv th → MI th → va_P g.1 vwCl (va_pl L f) H → va_D (fun q : Nat => s.heap.size ≤ q) (va_pl L f) → va_S (fun q : Nat => s.heap.size ≤ q) s.heap H locs → lv_has ls 7 [(4, .int i), (3, .ref (ad 278)), (2, .ref (ad 255)), (1, .ref (ad 0)), (0, .ref b)] → W p l e room_1 s m #[Value.ref b] below meth c H locs (1001 + k) (200006 + 6 * k) (lw_Z below #[Value.ref b] s) (F0 m 1333 ls [])) : W p l e room_1 s m #[Value.ref b] below meth c H locs (1000 + k) (200000 + 6 * k) (lw_Z below #[Value.ref b] s) (F0 m 1219 ls []) := by
  obtain ⟨hx, hb, hr, hml, hown, hts0, hXs, hbl, hlocks, hgv⟩ := C0
  have hown : s.vm.findClass "RulerWordLaw" = some m.cls := hown
  have hts := hts1 hts0
  have hA : ∀ q, s.heap.size ≤ q → (fun q : Nat => s.heap.size ≤ q) q := fun _ h => h
  have hbA : ¬ (fun q : Nat => s.heap.size ≤ q) b := Nat.not_le.mpr hbl
  refine lv_aload_n hx hb dL_law_1219 rfl (lv_at hl 3 rfl) ?_
  obtain ⟨_, _, _, hf_me, _, _, _⟩ := hT.1 0 (by decide)
  refine call_i (run_V (rm := rm_X10_undo) hx hb hml hown hts (s_X10_undo l g ad th _ _ _  hst hT hC) cV_X10_undo wg_1206 ⟨Nat.le_of_ble_eq_true rfl, Nat.le_of_ble_eq_true rfl⟩ hG hE hA hP hD hS (hst.1 0 (by decide)) hf_me rfl rfl hl.1 (As := []) (rest := []) rfl (Nat.le_of_ble_eq_true rfl) dL_law_1220 ⟨by show 1000 + k + 0 ≤ 601024; omega, by show 200000 + 6 * k + 0 ≤ 7293034; omega⟩) hA hD hS (fun r1 L2 f3 H locs hp4 hP hD hS => ?_)
  obtain ⟨e5L, e5T, _⟩ := hp4
  have e5L : L2 = L := e5L
  obtain ⟨th6, e5I, hT⟩ := e5T
  rw [e5L] at hP hD
  have hM1 := hM.c e5I.2
  have hC := e5I.1
  have hM := hM1
  revert hT hC hM
  generalize th6 = th
  intro hT hC hM
  refine lv_pop hx hb dL_law_1223 rfl ?_
  refine lv_aload_n hx hb dL_law_1224 rfl (lv_at hl 2 rfl) ?_
  refine M0e hT (fun _ _ _ _ _ _ _ _ _ _ _ _ _ _ _ _ _ _ _ _ _ _ _ _ _ _ _ _ _ _ _ _ _ _ hf_me _ _ _ _ _ _ _ _ _ _ _ _ _ _ _ _ _ _ _ _ _ _ _ _ _ _ _ _ _ _ _ _ _ _ _ _ _ _ _ _ _ => ?_)
  refine call_i (run_V (rm := rm_X11_undo) hx hb hml hown hts (s_X11_undo l g ad th _ _ _  hst hT hM) cV_X11_undo wg_1731 ⟨Nat.le_of_ble_eq_true rfl, Nat.le_of_ble_eq_true rfl⟩ hG hE hA hP hD hS (hst.1 255 (by decide)) hf_me rfl rfl hl.1 (As := []) (rest := []) rfl (Nat.le_of_ble_eq_true rfl) dL_law_1225 ⟨by show 1000 + k + 0 + 0 ≤ 601024; omega, by show 200000 + 6 * k + 0 + 0 ≤ 7293034; omega⟩) hA hD hS (fun r7 L8 f9 H locs hp10 hP hD hS => ?_)
  obtain ⟨e11L, e11T, _⟩ := hp10
  have e11L : L8 = L := e11L
  obtain ⟨th12, e11I, hT⟩ := e11T
  rw [e11L] at hP hD
  have hC := hC.m e11I.2
  have hM := e11I.1
  revert hT hC hM
  generalize th12 = th
  intro hT hC hM
  refine lv_pop hx hb dL_law_1228 rfl ?_
  refine lv_goto (tgt := 1333) hx hb dL_law_1229 (by decide) ?_
  refine W.widen (k := 1001 + k) (n := 200006 + 6 * k) (by show 1000 + k + 0 + 0 ≤ _; omega) (by show 200000 + 6 * k + 0 + 0 ≤ _; omega) ?_
  exact K _ _ _ _ _ hT hC hM hP hD hS (lv_sub hl [0, 1, 2, 3, 4] rfl)

set_option maxHeartbeats 4000000 in
set_option maxRecDepth 100000 in
theorem law_c33 {p : Program} {e : Env} {s : State} {m : MethodId} {below : List Frame} {meth : Method} {c : Code} (l : Launch) {b LL : Nat} {xs : Nat → Int32} (C0 : lw_At p s m meth c b LL xs) (htr : l.stackTraces = false) {g : GG} (hG : GK g s) (hE : SW g (fun q : Nat => s.heap.size ≤ q) s s.heap) {L : List Nat} {ad : Nat → Nat} (hst : ST ad L) {th : Nat → Int} {f : HP} {H : Heap} {locs : List Loc} {ls : Array Slot} {i : Int32} {k : Nat} (hk : k ≤ 511) (hi0 : 0 ≤ i.toInt) (hi : i.toInt + 6 ≤ (LL : Int)) (hLL : LL ≤ 3072) (hT : TI g ad th f) (hC : CIv th) (hM : MI th) (hP : va_P g.1 vwCl (va_pl L f) H) (hD : va_D (fun q : Nat => s.heap.size ≤ q) (va_pl L f)) (hS : va_S (fun q : Nat => s.heap.size ≤ q) s.heap H locs) (hl : lv_has ls 7 [(4, .int i), (3, .ref (ad 278)), (2, .ref (ad 255)), (1, .ref (ad 0)), (0, .ref b)]) (K : ∀ (th : Nat → Int) (f : HP) (H : Heap) (locs : List Loc) (ls : Array Slot), TI g ad th f → CIv th → MI th → va_P g.1 vwCl (va_pl L f) H → va_D (fun q : Nat => s.heap.size ≤ q) (va_pl L f) → va_S (fun q : Nat => s.heap.size ≤ q) s.heap H locs → lv_has ls 7 [(4, .int i), (3, .ref (ad 278)), (2, .ref (ad 255)), (1, .ref (ad 0)), (0, .ref b)] → W p l e room_1 s m #[Value.ref b] below meth c H locs (1001 + k) (200006 + 6 * k) (lw_Z below #[Value.ref b] s) (F0 m 1333 ls [])) : W p l e room_1 s m #[Value.ref b] below meth c H locs (1000 + k) (200000 + 6 * k) (lw_Z below #[Value.ref b] s) (F0 m 1232 ls []) := by
  obtain ⟨hx, hb, hr, hml, hown, hts0, hXs, hbl, hlocks, hgv⟩ := C0
  have hown : s.vm.findClass "RulerWordLaw" = some m.cls := hown
  have hts := hts1 hts0
  have hA : ∀ q, s.heap.size ≤ q → (fun q : Nat => s.heap.size ≤ q) q := fun _ h => h
  have hbA : ¬ (fun q : Nat => s.heap.size ≤ q) b := Nat.not_le.mpr hbl
  refine lv_aload_n hx hb dL_law_1232 rfl (lv_at hl 3 rfl) ?_
  obtain ⟨_, _, _, hf_me, _, _, _⟩ := hT.1 0 (by decide)
  refine call_i (run_V (rm := rm_X10_image) hx hb hml hown hts (s_X10_image l g ad th _ _ _  hst hT hC) cV_X10_image wg_1214 ⟨Nat.le_of_ble_eq_true rfl, Nat.le_of_ble_eq_true rfl⟩ hG hE hA hP hD hS (hst.1 0 (by decide)) hf_me rfl rfl hl.1 (As := []) (rest := []) rfl (Nat.le_of_ble_eq_true rfl) dL_law_1233 ⟨by show 1000 + k + 0 ≤ 601024; omega, by show 200000 + 6 * k + 0 ≤ 7293034; omega⟩) hA hD hS (fun r1 L2 f3 H locs hp4 hP hD hS => ?_)
  obtain ⟨e5L, e5T, _⟩ := hp4
  have e5L : L2 = L := e5L
  obtain ⟨th6, e5I, hT⟩ := e5T
  rw [e5L] at hP hD
  have hM1 := hM.c e5I.2
  have hC := e5I.1
  have hM := hM1
  revert hT hC hM
  generalize th6 = th
  intro hT hC hM
  refine lv_pop hx hb dL_law_1236 rfl ?_
  refine lv_aload_n hx hb dL_law_1237 rfl (lv_at hl 2 rfl) ?_
  refine M0e hT (fun _ _ _ _ _ _ _ _ _ _ _ _ _ _ _ _ _ _ _ _ _ _ _ _ _ _ _ _ _ _ _ _ _ _ hf_me _ _ _ _ _ _ _ _ _ _ _ _ _ _ _ _ _ _ _ _ _ _ _ _ _ _ _ _ _ _ _ _ _ _ _ _ _ _ _ _ _ => ?_)
  refine call_i (run_V (rm := rm_X11_image) hx hb hml hown hts (s_X11_image l g ad th _ _ _  hst hT hM) cV_X11_image wg_1735 ⟨Nat.le_of_ble_eq_true rfl, Nat.le_of_ble_eq_true rfl⟩ hG hE hA hP hD hS (hst.1 255 (by decide)) hf_me rfl rfl hl.1 (As := []) (rest := []) rfl (Nat.le_of_ble_eq_true rfl) dL_law_1238 ⟨by show 1000 + k + 0 + 0 ≤ 601024; omega, by show 200000 + 6 * k + 0 + 0 ≤ 7293034; omega⟩) hA hD hS (fun r7 L8 f9 H locs hp10 hP hD hS => ?_)
  obtain ⟨e11L, e11T, _⟩ := hp10
  have e11L : L8 = L := e11L
  obtain ⟨th12, e11I, hT⟩ := e11T
  rw [e11L] at hP hD
  have hC := hC.m e11I.2
  have hM := e11I.1
  revert hT hC hM
  generalize th12 = th
  intro hT hC hM
  refine lv_pop hx hb dL_law_1241 rfl ?_
  refine lv_goto (tgt := 1333) hx hb dL_law_1242 (by decide) ?_
  refine W.widen (k := 1001 + k) (n := 200006 + 6 * k) (by show 1000 + k + 0 + 0 ≤ _; omega) (by show 200000 + 6 * k + 0 + 0 ≤ _; omega) ?_
  exact K _ _ _ _ _ hT hC hM hP hD hS (lv_sub hl [0, 1, 2, 3, 4] rfl)

set_option maxHeartbeats 4000000 in
set_option maxRecDepth 100000 in
theorem law_c34 {p : Program} {e : Env} {s : State} {m : MethodId} {below : List Frame} {meth : Method} {c : Code} (l : Launch) {b LL : Nat} {xs : Nat → Int32} (C0 : lw_At p s m meth c b LL xs) (htr : l.stackTraces = false) {g : GG} (hG : GK g s) (hE : SW g (fun q : Nat => s.heap.size ≤ q) s s.heap) {L : List Nat} {ad : Nat → Nat} (hst : ST ad L) {th : Nat → Int} {f : HP} {H : Heap} {locs : List Loc} {ls : Array Slot} {i : Int32} {k : Nat} (hk : k ≤ 511) (hi0 : 0 ≤ i.toInt) (hi : i.toInt + 6 ≤ (LL : Int)) (hLL : LL ≤ 3072) (hT : TI g ad th f) (hC : CIv th) (hM : MI th) (hP : va_P g.1 vwCl (va_pl L f) H) (hD : va_D (fun q : Nat => s.heap.size ≤ q) (va_pl L f)) (hS : va_S (fun q : Nat => s.heap.size ≤ q) s.heap H locs) (hl : lv_has ls 7 [(4, .int i), (3, .ref (ad 278)), (2, .ref (ad 255)), (1, .ref (ad 0)), (0, .ref b)]) (K : ∀ (th : Nat → Int) (f : HP) (H : Heap) (locs : List Loc) (ls : Array Slot), TI g ad th f → CIv th → MI th → va_P g.1 vwCl (va_pl L f) H → va_D (fun q : Nat => s.heap.size ≤ q) (va_pl L f) → va_S (fun q : Nat => s.heap.size ≤ q) s.heap H locs → lv_has ls 7 [(4, .int i), (3, .ref (ad 278)), (2, .ref (ad 255)), (1, .ref (ad 0)), (0, .ref b)] → W p l e room_1 s m #[Value.ref b] below meth c H locs (1001 + k) (200006 + 6 * k) (lw_Z below #[Value.ref b] s) (F0 m 1333 ls [])) : W p l e room_1 s m #[Value.ref b] below meth c H locs (1000 + k) (200000 + 6 * k) (lw_Z below #[Value.ref b] s) (F0 m 1245 ls []) := by
  obtain ⟨hx, hb, hr, hml, hown, hts0, hXs, hbl, hlocks, hgv⟩ := C0
  have hown : s.vm.findClass "RulerWordLaw" = some m.cls := hown
  have hts := hts1 hts0
  have hA : ∀ q, s.heap.size ≤ q → (fun q : Nat => s.heap.size ≤ q) q := fun _ h => h
  have hbA : ¬ (fun q : Nat => s.heap.size ≤ q) b := Nat.not_le.mpr hbl
  refine lv_aload_n hx hb dL_law_1245 rfl (lv_at hl 3 rfl) ?_
  obtain ⟨_, _, _, hf_me, _, _, _⟩ := hT.1 0 (by decide)
  refine call_i (run_V (rm := rm_X10_back) hx hb hml hown hts (s_X10_back l g ad th _ _ _  hst hT hC) cV_X10_back wg_1219 ⟨Nat.le_of_ble_eq_true rfl, Nat.le_of_ble_eq_true rfl⟩ hG hE hA hP hD hS (hst.1 0 (by decide)) hf_me rfl rfl hl.1 (As := []) (rest := []) rfl (Nat.le_of_ble_eq_true rfl) dL_law_1246 ⟨by show 1000 + k + 0 ≤ 601024; omega, by show 200000 + 6 * k + 0 ≤ 7293034; omega⟩) hA hD hS (fun r1 L2 f3 H locs hp4 hP hD hS => ?_)
  obtain ⟨e5L, e5T, _⟩ := hp4
  have e5L : L2 = L := e5L
  obtain ⟨th6, e5I, hT⟩ := e5T
  rw [e5L] at hP hD
  have hM1 := hM.c e5I.2
  have hC := e5I.1
  have hM := hM1
  revert hT hC hM
  generalize th6 = th
  intro hT hC hM
  refine lv_pop hx hb dL_law_1249 rfl ?_
  refine lv_aload_n hx hb dL_law_1250 rfl (lv_at hl 2 rfl) ?_
  refine M0e hT (fun _ _ _ _ _ _ _ _ _ _ _ _ _ _ _ _ _ _ _ _ _ _ _ _ _ _ _ _ _ _ _ _ _ _ hf_me _ _ _ _ _ _ _ _ _ _ _ _ _ _ _ _ _ _ _ _ _ _ _ _ _ _ _ _ _ _ _ _ _ _ _ _ _ _ _ _ _ => ?_)
  refine call_i (run_V (rm := rm_X11_back) hx hb hml hown hts (s_X11_back l g ad th _ _ _  hst hT hM) cV_X11_back wg_1739 ⟨Nat.le_of_ble_eq_true rfl, Nat.le_of_ble_eq_true rfl⟩ hG hE hA hP hD hS (hst.1 255 (by decide)) hf_me rfl rfl hl.1 (As := []) (rest := []) rfl (Nat.le_of_ble_eq_true rfl) dL_law_1251 ⟨by show 1000 + k + 0 + 0 ≤ 601024; omega, by show 200000 + 6 * k + 0 + 0 ≤ 7293034; omega⟩) hA hD hS (fun r7 L8 f9 H locs hp10 hP hD hS => ?_)
  obtain ⟨e11L, e11T, _⟩ := hp10
  have e11L : L8 = L := e11L
  obtain ⟨th12, e11I, hT⟩ := e11T
  rw [e11L] at hP hD
  have hC := hC.m e11I.2
  have hM := e11I.1
  revert hT hC hM
  generalize th12 = th
  intro hT hC hM
  refine lv_pop hx hb dL_law_1254 rfl ?_
  refine lv_goto (tgt := 1333) hx hb dL_law_1255 (by decide) ?_
  refine W.widen (k := 1001 + k) (n := 200006 + 6 * k) (by show 1000 + k + 0 + 0 ≤ _; omega) (by show 200000 + 6 * k + 0 + 0 ≤ _; omega) ?_
  exact K _ _ _ _ _ hT hC hM hP hD hS (lv_sub hl [0, 1, 2, 3, 4] rfl)

set_option maxHeartbeats 4000000 in
set_option maxRecDepth 100000 in
theorem law_c35 {p : Program} {e : Env} {s : State} {m : MethodId} {below : List Frame} {meth : Method} {c : Code} (l : Launch) {b LL : Nat} {xs : Nat → Int32} (C0 : lw_At p s m meth c b LL xs) (htr : l.stackTraces = false) {g : GG} (hG : GK g s) (hE : SW g (fun q : Nat => s.heap.size ≤ q) s s.heap) {L : List Nat} {ad : Nat → Nat} (hst : ST ad L) {th : Nat → Int} {f : HP} {H : Heap} {locs : List Loc} {ls : Array Slot} {i : Int32} {k : Nat} (hk : k ≤ 511) (hi0 : 0 ≤ i.toInt) (hi : i.toInt + 6 ≤ (LL : Int)) (hLL : LL ≤ 3072) (hT : TI g ad th f) (hC : CIv th) (hM : MI th) (hP : va_P g.1 vwCl (va_pl L f) H) (hD : va_D (fun q : Nat => s.heap.size ≤ q) (va_pl L f)) (hS : va_S (fun q : Nat => s.heap.size ≤ q) s.heap H locs) (hl : lv_has ls 7 [(4, .int i), (3, .ref (ad 278)), (2, .ref (ad 255)), (1, .ref (ad 0)), (0, .ref b)]) (K : ∀ (th : Nat → Int) (f : HP) (H : Heap) (locs : List Loc) (ls : Array Slot), TI g ad th f → CIv th → MI th → va_P g.1 vwCl (va_pl L f) H → va_D (fun q : Nat => s.heap.size ≤ q) (va_pl L f) → va_S (fun q : Nat => s.heap.size ≤ q) s.heap H locs → lv_has ls 7 [(4, .int i), (3, .ref (ad 278)), (2, .ref (ad 255)), (1, .ref (ad 0)), (0, .ref b)] → W p l e room_1 s m #[Value.ref b] below meth c H locs (1001 + k) (200006 + 6 * k) (lw_Z below #[Value.ref b] s) (F0 m 1333 ls [])) : W p l e room_1 s m #[Value.ref b] below meth c H locs (1000 + k) (200000 + 6 * k) (lw_Z below #[Value.ref b] s) (F0 m 1258 ls []) := by
  obtain ⟨hx, hb, hr, hml, hown, hts0, hXs, hbl, hlocks, hgv⟩ := C0
  have hown : s.vm.findClass "RulerWordLaw" = some m.cls := hown
  have hts := hts1 hts0
  have hA : ∀ q, s.heap.size ≤ q → (fun q : Nat => s.heap.size ≤ q) q := fun _ h => h
  have hbA : ¬ (fun q : Nat => s.heap.size ≤ q) b := Nat.not_le.mpr hbl
  refine lv_aload_n hx hb dL_law_1258 rfl (lv_at hl 3 rfl) ?_
  refine lv_aload_n hx hb dL_law_1259 rfl (lv_at hl 4 rfl) ?_
  refine lv_iload hx hb dL_law_1260 (lv_at hl 0 rfl) ?_
  refine lv_iconst (v := 1) hx hb dL_law_1262 (by decide) ?_
  refine lv_iadd hx hb dL_law_1263 ?_
  refine lv_topi (fun x1 ex1 => ?_)
  have hx1 : x1.toInt = i.toInt + 1 := In.adde (a := 0) (b := 3072) ex1 ⟨hi0, by omega⟩ (k := 1) (by decide) (by decide) (by decide)
  refine va_sld hx hb hXs hbl hbA hS (i := x1) (vp_of (by omega) (by omega)) dL_law_1264 ?_
  refine lv_topi (fun x2 ex2 => ?_)
  obtain ⟨_, _, _, hf_me, _, _, _⟩ := hT.1 0 (by decide)
  refine call_i (run_V (rm := rm_X10_status) hx hb hml hown hts (s_X10_status l g ad th _ _ _ x2 hst hT ) cV_X10_status wg_1223 ⟨Nat.le_of_ble_eq_true rfl, Nat.le_of_ble_eq_true rfl⟩ hG hE hA hP hD hS (hst.1 0 (by decide)) hf_me rfl rfl hl.1 (As := [.int x2]) (rest := []) rfl (Nat.le_of_ble_eq_true rfl) dL_law_1265 ⟨by show 1000 + k + 0 ≤ 601024; omega, by show 200000 + 6 * k + 0 ≤ 7293034; omega⟩) hA hD hS (fun r3 L4 f5 H locs hp6 hP hD hS => ?_)
  obtain ⟨e7L, e7T⟩ := hp6
  have e7L : L4 = L := e7L
  have e7T : f5 = _ := e7T
  rw [e7L, e7T] at hP hD
  refine lv_pop hx hb dL_law_1268 rfl ?_
  refine lv_aload_n hx hb dL_law_1269 rfl (lv_at hl 2 rfl) ?_
  refine lv_aload_n hx hb dL_law_1270 rfl (lv_at hl 4 rfl) ?_
  refine lv_iload hx hb dL_law_1271 (lv_at hl 0 rfl) ?_
  refine lv_iconst (v := 1) hx hb dL_law_1273 (by decide) ?_
  refine lv_iadd hx hb dL_law_1274 ?_
  refine lv_topi (fun x8 ex8 => ?_)
  have hx8 : x8.toInt = i.toInt + 1 := In.adde (a := 0) (b := 3072) ex8 ⟨hi0, by omega⟩ (k := 1) (by decide) (by decide) (by decide)
  refine va_sld hx hb hXs hbl hbA hS (i := x8) (vp_of (by omega) (by omega)) dL_law_1275 ?_
  refine lv_topi (fun x9 ex9 => ?_)
  refine M0e hT (fun _ _ _ _ _ _ _ _ _ _ _ _ _ _ _ _ _ _ _ _ _ _ _ _ _ _ _ _ _ _ _ _ _ _ hf_me _ _ _ _ _ _ _ _ _ _ _ _ _ _ _ _ _ _ _ _ _ _ _ _ _ _ _ _ _ _ _ _ _ _ _ _ _ _ _ _ _ => ?_)
  refine call_i (run_V (rm := rm_X11_status) hx hb hml hown hts (s_X11_status l g ad th _ _ _ x9 hst hT ) cV_X11_status wg_1743 ⟨Nat.le_of_ble_eq_true rfl, Nat.le_of_ble_eq_true rfl⟩ hG hE hA hP hD hS (hst.1 255 (by decide)) hf_me rfl rfl hl.1 (As := [.int x9]) (rest := []) rfl (Nat.le_of_ble_eq_true rfl) dL_law_1276 ⟨by show 1000 + k + 0 + 0 ≤ 601024; omega, by show 200000 + 6 * k + 0 + 0 ≤ 7293034; omega⟩) hA hD hS (fun r10 L11 f12 H locs hp13 hP hD hS => ?_)
  obtain ⟨e14L, e14T, _⟩ := hp13
  have e14L : L11 = L := e14L
  have hT : TI g ad _ f12 := e14T
  rw [e14L] at hP hD
  refine lv_pop hx hb dL_law_1279 rfl ?_
  refine lv_goto (tgt := 1333) hx hb dL_law_1280 (by decide) ?_
  refine W.widen (k := 1001 + k) (n := 200006 + 6 * k) (by show 1000 + k + 0 + 0 ≤ _; omega) (by show 200000 + 6 * k + 0 + 0 ≤ _; omega) ?_
  exact K _ _ _ _ _ hT hC hM hP hD hS (lv_sub hl [0, 1, 2, 3, 4] rfl)

set_option maxHeartbeats 4000000 in
set_option maxRecDepth 100000 in
theorem law_c36 {p : Program} {e : Env} {s : State} {m : MethodId} {below : List Frame} {meth : Method} {c : Code} (l : Launch) {b LL : Nat} {xs : Nat → Int32} (C0 : lw_At p s m meth c b LL xs) (htr : l.stackTraces = false) {g : GG} (hG : GK g s) (hE : SW g (fun q : Nat => s.heap.size ≤ q) s s.heap) {L : List Nat} {ad : Nat → Nat} (hst : ST ad L) {th : Nat → Int} {f : HP} {H : Heap} {locs : List Loc} {ls : Array Slot} {i : Int32} {k : Nat} (hk : k ≤ 511) (hi0 : 0 ≤ i.toInt) (hi : i.toInt + 6 ≤ (LL : Int)) (hLL : LL ≤ 3072) (hT : TI g ad th f) (hC : CIv th) (hM : MI th) (hP : va_P g.1 vwCl (va_pl L f) H) (hD : va_D (fun q : Nat => s.heap.size ≤ q) (va_pl L f)) (hS : va_S (fun q : Nat => s.heap.size ≤ q) s.heap H locs) (hl : lv_has ls 7 [(4, .int i), (3, .ref (ad 278)), (2, .ref (ad 255)), (1, .ref (ad 0)), (0, .ref b)]) (K : ∀ (th : Nat → Int) (f : HP) (H : Heap) (locs : List Loc) (ls : Array Slot), TI g ad th f → CIv th → MI th → va_P g.1 vwCl (va_pl L f) H → va_D (fun q : Nat => s.heap.size ≤ q) (va_pl L f) → va_S (fun q : Nat => s.heap.size ≤ q) s.heap H locs → lv_has ls 7 [(4, .int i), (3, .ref (ad 278)), (2, .ref (ad 255)), (1, .ref (ad 0)), (0, .ref b)] → W p l e room_1 s m #[Value.ref b] below meth c H locs (1001 + k) (200006 + 6 * k) (lw_Z below #[Value.ref b] s) (F0 m 1333 ls [])) : W p l e room_1 s m #[Value.ref b] below meth c H locs (1000 + k) (200000 + 6 * k) (lw_Z below #[Value.ref b] s) (F0 m 1283 ls []) := by
  obtain ⟨hx, hb, hr, hml, hown, hts0, hXs, hbl, hlocks, hgv⟩ := C0
  have hown : s.vm.findClass "RulerWordLaw" = some m.cls := hown
  have hts := hts1 hts0
  have hA : ∀ q, s.heap.size ≤ q → (fun q : Nat => s.heap.size ≤ q) q := fun _ h => h
  have hbA : ¬ (fun q : Nat => s.heap.size ≤ q) b := Nat.not_le.mpr hbl
  refine lv_aload_n hx hb dL_law_1283 rfl (lv_at hl 3 rfl) ?_
  refine lv_aload_n hx hb dL_law_1284 rfl (lv_at hl 4 rfl) ?_
  refine lv_iload hx hb dL_law_1285 (lv_at hl 0 rfl) ?_
  refine lv_iconst (v := 1) hx hb dL_law_1287 (by decide) ?_
  refine lv_iadd hx hb dL_law_1288 ?_
  refine lv_topi (fun x1 ex1 => ?_)
  have hx1 : x1.toInt = i.toInt + 1 := In.adde (a := 0) (b := 3072) ex1 ⟨hi0, by omega⟩ (k := 1) (by decide) (by decide) (by decide)
  refine va_sld hx hb hXs hbl hbA hS (i := x1) (vp_of (by omega) (by omega)) dL_law_1289 ?_
  refine lv_topi (fun x2 ex2 => ?_)
  obtain ⟨_, _, _, hf_me, _, _, _⟩ := hT.1 0 (by decide)
  refine call_i (run_V (rm := rm_X10_most) hx hb hml hown hts (s_X10_most l g ad th _ _ _ x2 hst hT ) cV_X10_most wg_1227 ⟨Nat.le_of_ble_eq_true rfl, Nat.le_of_ble_eq_true rfl⟩ hG hE hA hP hD hS (hst.1 0 (by decide)) hf_me rfl rfl hl.1 (As := [.int x2]) (rest := []) rfl (Nat.le_of_ble_eq_true rfl) dL_law_1290 ⟨by show 1000 + k + 0 ≤ 601024; omega, by show 200000 + 6 * k + 0 ≤ 7293034; omega⟩) hA hD hS (fun r3 L4 f5 H locs hp6 hP hD hS => ?_)
  obtain ⟨e7L, e7T⟩ := hp6
  have e7L : L4 = L := e7L
  have e7T : f5 = _ := e7T
  rw [e7L, e7T] at hP hD
  refine lv_pop hx hb dL_law_1293 rfl ?_
  refine lv_aload_n hx hb dL_law_1294 rfl (lv_at hl 2 rfl) ?_
  refine lv_aload_n hx hb dL_law_1295 rfl (lv_at hl 4 rfl) ?_
  refine lv_iload hx hb dL_law_1296 (lv_at hl 0 rfl) ?_
  refine lv_iconst (v := 1) hx hb dL_law_1298 (by decide) ?_
  refine lv_iadd hx hb dL_law_1299 ?_
  refine lv_topi (fun x8 ex8 => ?_)
  have hx8 : x8.toInt = i.toInt + 1 := In.adde (a := 0) (b := 3072) ex8 ⟨hi0, by omega⟩ (k := 1) (by decide) (by decide) (by decide)
  refine va_sld hx hb hXs hbl hbA hS (i := x8) (vp_of (by omega) (by omega)) dL_law_1300 ?_
  refine lv_topi (fun x9 ex9 => ?_)
  refine M0e hT (fun _ _ _ _ _ _ _ _ _ _ _ _ _ _ _ _ _ _ _ _ _ _ _ _ _ _ _ _ _ _ _ _ _ _ hf_me _ _ _ _ _ _ _ _ _ _ _ _ _ _ _ _ _ _ _ _ _ _ _ _ _ _ _ _ _ _ _ _ _ _ _ _ _ _ _ _ _ => ?_)
  refine call_i (run_V (rm := rm_X11_most) hx hb hml hown hts (s_X11_most l g ad th _ _ _ x9 hst hT hM) cV_X11_most wg_1935 ⟨Nat.le_of_ble_eq_true rfl, Nat.le_of_ble_eq_true rfl⟩ hG hE hA hP hD hS (hst.1 255 (by decide)) hf_me rfl rfl hl.1 (As := [.int x9]) (rest := []) rfl (Nat.le_of_ble_eq_true rfl) dL_law_1301 ⟨by show 1000 + k + 0 + 0 ≤ 601024; omega, by show 200000 + 6 * k + 0 + 0 ≤ 7293034; omega⟩) hA hD hS (fun r10 L11 f12 H locs hp13 hP hD hS => ?_)
  obtain ⟨e14L, e14T, _⟩ := hp13
  have e14L : L11 = L := e14L
  have hT : TI g ad _ f12 := e14T
  rw [e14L] at hP hD
  refine lv_pop hx hb dL_law_1304 rfl ?_
  refine lv_goto (tgt := 1333) hx hb dL_law_1305 (by decide) ?_
  refine W.widen (k := 1001 + k) (n := 200006 + 6 * k) (by show 1000 + k + 0 + 0 ≤ _; omega) (by show 200000 + 6 * k + 0 + 0 ≤ _; omega) ?_
  exact K _ _ _ _ _ hT hC hM hP hD hS (lv_sub hl [0, 1, 2, 3, 4] rfl)

set_option maxHeartbeats 4000000 in
set_option maxRecDepth 100000 in
theorem law_c37 {p : Program} {e : Env} {s : State} {m : MethodId} {below : List Frame} {meth : Method} {c : Code} (l : Launch) {b LL : Nat} {xs : Nat → Int32} (C0 : lw_At p s m meth c b LL xs) (htr : l.stackTraces = false) {g : GG} (hG : GK g s) (hE : SW g (fun q : Nat => s.heap.size ≤ q) s s.heap) {L : List Nat} {ad : Nat → Nat} (hst : ST ad L) {th : Nat → Int} {f : HP} {H : Heap} {locs : List Loc} {ls : Array Slot} {i : Int32} {k : Nat} (hk : k ≤ 511) (hi0 : 0 ≤ i.toInt) (hi : i.toInt + 6 ≤ (LL : Int)) (hLL : LL ≤ 3072) (hT : TI g ad th f) (hC : CIv th) (hM : MI th) (hP : va_P g.1 vwCl (va_pl L f) H) (hD : va_D (fun q : Nat => s.heap.size ≤ q) (va_pl L f)) (hS : va_S (fun q : Nat => s.heap.size ≤ q) s.heap H locs) (hl : lv_has ls 7 [(4, .int i), (3, .ref (ad 278)), (2, .ref (ad 255)), (1, .ref (ad 0)), (0, .ref b)]) (K : ∀ (th : Nat → Int) (f : HP) (H : Heap) (locs : List Loc) (ls : Array Slot), TI g ad th f → CIv th → MI th → va_P g.1 vwCl (va_pl L f) H → va_D (fun q : Nat => s.heap.size ≤ q) (va_pl L f) → va_S (fun q : Nat => s.heap.size ≤ q) s.heap H locs → lv_has ls 7 [(4, .int i), (3, .ref (ad 278)), (2, .ref (ad 255)), (1, .ref (ad 0)), (0, .ref b)] → W p l e room_1 s m #[Value.ref b] below meth c H locs (1001 + k) (200006 + 6 * k) (lw_Z below #[Value.ref b] s) (F0 m 1333 ls [])) : W p l e room_1 s m #[Value.ref b] below meth c H locs (1000 + k) (200000 + 6 * k) (lw_Z below #[Value.ref b] s) (F0 m 1308 ls []) := by
  obtain ⟨hx, hb, hr, hml, hown, hts0, hXs, hbl, hlocks, hgv⟩ := C0
  have hown : s.vm.findClass "RulerWordLaw" = some m.cls := hown
  have hts := hts1 hts0
  have hA : ∀ q, s.heap.size ≤ q → (fun q : Nat => s.heap.size ≤ q) q := fun _ h => h
  have hbA : ¬ (fun q : Nat => s.heap.size ≤ q) b := Nat.not_le.mpr hbl
  refine lv_aload_n hx hb dL_law_1308 rfl (lv_at hl 3 rfl) ?_
  refine lv_aload_n hx hb dL_law_1309 rfl (lv_at hl 4 rfl) ?_
  refine lv_iload hx hb dL_law_1310 (lv_at hl 0 rfl) ?_
  refine lv_iconst (v := 1) hx hb dL_law_1312 (by decide) ?_
  refine lv_iadd hx hb dL_law_1313 ?_
  refine lv_topi (fun x1 ex1 => ?_)
  have hx1 : x1.toInt = i.toInt + 1 := In.adde (a := 0) (b := 3072) ex1 ⟨hi0, by omega⟩ (k := 1) (by decide) (by decide) (by decide)
  refine va_sld hx hb hXs hbl hbA hS (i := x1) (vp_of (by omega) (by omega)) dL_law_1314 ?_
  refine lv_topi (fun x2 ex2 => ?_)
  obtain ⟨_, _, _, hf_me, _, _, _⟩ := hT.1 0 (by decide)
  refine call_i (run_V (rm := rm_X10_count) hx hb hml hown hts (s_X10_count l g ad th _ _ _ x2 hst hT ) cV_X10_count wg_1252 ⟨Nat.le_of_ble_eq_true rfl, Nat.le_of_ble_eq_true rfl⟩ hG hE hA hP hD hS (hst.1 0 (by decide)) hf_me rfl rfl hl.1 (As := [.int x2]) (rest := []) rfl (Nat.le_of_ble_eq_true rfl) dL_law_1315 ⟨by show 1000 + k + 0 ≤ 601024; omega, by show 200000 + 6 * k + 0 ≤ 7293034; omega⟩) hA hD hS (fun r3 L4 f5 H locs hp6 hP hD hS => ?_)
  obtain ⟨e7L, e7T⟩ := hp6
  have e7L : L4 = L := e7L
  have e7T : f5 = _ := e7T
  rw [e7L, e7T] at hP hD
  refine lv_pop hx hb dL_law_1318 rfl ?_
  refine lv_aload_n hx hb dL_law_1319 rfl (lv_at hl 2 rfl) ?_
  refine lv_aload_n hx hb dL_law_1320 rfl (lv_at hl 4 rfl) ?_
  refine lv_iload hx hb dL_law_1321 (lv_at hl 0 rfl) ?_
  refine lv_iconst (v := 1) hx hb dL_law_1323 (by decide) ?_
  refine lv_iadd hx hb dL_law_1324 ?_
  refine lv_topi (fun x8 ex8 => ?_)
  have hx8 : x8.toInt = i.toInt + 1 := In.adde (a := 0) (b := 3072) ex8 ⟨hi0, by omega⟩ (k := 1) (by decide) (by decide) (by decide)
  refine va_sld hx hb hXs hbl hbA hS (i := x8) (vp_of (by omega) (by omega)) dL_law_1325 ?_
  refine lv_topi (fun x9 ex9 => ?_)
  refine M0e hT (fun _ _ _ _ _ _ _ _ _ _ _ _ _ _ _ _ _ _ _ _ _ _ _ _ _ _ _ _ _ _ _ _ _ _ hf_me _ _ _ _ _ _ _ _ _ _ _ _ _ _ _ _ _ _ _ _ _ _ _ _ _ _ _ _ _ _ _ _ _ _ _ _ _ _ _ _ _ => ?_)
  refine call_i (run_V (rm := rm_X11_count) hx hb hml hown hts (s_X11_count l g ad th _ _ _ x9 hst hT hM) cV_X11_count wg_1947 ⟨Nat.le_of_ble_eq_true rfl, Nat.le_of_ble_eq_true rfl⟩ hG hE hA hP hD hS (hst.1 255 (by decide)) hf_me rfl rfl hl.1 (As := [.int x9]) (rest := []) rfl (Nat.le_of_ble_eq_true rfl) dL_law_1326 ⟨by show 1000 + k + 0 + 0 ≤ 601024; omega, by show 200000 + 6 * k + 0 + 0 ≤ 7293034; omega⟩) hA hD hS (fun r10 L11 f12 H locs hp13 hP hD hS => ?_)
  obtain ⟨e14L, e14T, _⟩ := hp13
  have e14L : L11 = L := e14L
  have hT : TI g ad _ f12 := e14T
  rw [e14L] at hP hD
  refine lv_pop hx hb dL_law_1329 rfl ?_
  refine lv_goto (tgt := 1333) hx hb dL_law_1330 (by decide) ?_
  refine W.widen (k := 1001 + k) (n := 200006 + 6 * k) (by show 1000 + k + 0 + 0 ≤ _; omega) (by show 200000 + 6 * k + 0 + 0 ≤ _; omega) ?_
  exact K _ _ _ _ _ hT hC hM hP hD hS (lv_sub hl [0, 1, 2, 3, 4] rfl)
