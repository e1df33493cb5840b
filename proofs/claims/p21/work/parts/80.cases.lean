theorem hts1 {args : Array Value} {s : State} (h : ∀ w ∈ lw_tbl, w.before args s = true) : ∀ w ∈ Cond.initialized "RulerWord" :: GW, w.before args s = true := fun w q => (List.mem_cons.mp q).elim (fun e => by rw [e]; exact h _ (lw_of wg_157)) (fun q2 => h w (lw_of q2))
set_option maxHeartbeats 4000000 in
set_option maxRecDepth 100000 in
theorem law_c0 {p : Program} {e : Env} {s : State} {m : MethodId} {below : List Frame} {meth : Method} {c : Code} (l : Launch) {b LL : Nat} {xs : Nat → Int32} (C0 : lw_At p s m meth c b LL xs) (htr : l.stackTraces = false) {g : GG} (hG : GK g s) (hE : SW g (fun q : Nat => s.heap.size ≤ q) s s.heap) {L : List Nat} {ad : Nat → Nat} (hst : ST ad L) {th : Nat → Int} {f : HP} {H : Heap} {locs : List Loc} {ls : Array Slot} {i : Int32} {k : Nat} (hk : k ≤ 511) (hi0 : 0 ≤ i.toInt) (hi : i.toInt + 6 ≤ (LL : Int)) (hLL : LL ≤ 3072) (hT : TI g ad th f) (hC : CIv th) (hM : MI th) (hP : va_P g.1 vwCl (va_pl L f) H) (hD : va_D (fun q : Nat => s.heap.size ≤ q) (va_pl L f)) (hS : va_S (fun q : Nat => s.heap.size ≤ q) s.heap H locs) (hl : lv_has ls 7 [(4, .int i), (3, .ref (ad 278)), (2, .ref (ad 255)), (1, .ref (ad 0)), (0, .ref b)]) (K : ∀ (th : Nat → Int) (f : HP) (H : Heap) (locs : List Loc) (ls : Array Slot), TI g ad th f → CIv th → MI th → va_P g.1 vwCl (va_pl L f) H → va_D (fun q : Nat => s.heap.size ≤ q) (va_pl L f) → va_S (fun q : Nat => s.heap.size ≤ q) s.heap H locs → lv_has ls 7 [(4, .int i), (3, .ref (ad 278)), (2, .ref (ad 255)), (1, .ref (ad 0)), (0, .ref b)] → W p l e room_1 s m #[Value.ref b] below meth c H locs (1001 + k) (200006 + 6 * k) (lw_Z below #[Value.ref b] s) (F0 m 1333 ls [])) : W p l e room_1 s m #[Value.ref b] below meth c H locs (1000 + k) (200000 + 6 * k) (lw_Z below #[Value.ref b] s) (F0 m 208 ls []) := by
  obtain ⟨hx, hb, hr, hml, hown, hts0, hXs, hbl, hlocks, hgv⟩ := C0
  have hown : s.vm.findClass "RulerWordLaw" = some m.cls := hown
  have hts := hts1 hts0
  have hA : ∀ q, s.heap.size ≤ q → (fun q : Nat => s.heap.size ≤ q) q := fun _ h => h
  have hbA : ¬ (fun q : Nat => s.heap.size ≤ q) b := Nat.not_le.mpr hbl
  refine lv_aload_n hx hb dL_law_208 rfl (lv_at hl 3 rfl) ?_
  refine lv_aload_n hx hb dL_law_209 rfl (lv_at hl 4 rfl) ?_
  refine lv_iload hx hb dL_law_210 (lv_at hl 0 rfl) ?_
  refine lv_iconst (v := 1) hx hb dL_law_212 (by decide) ?_
  refine lv_iadd hx hb dL_law_213 ?_
  refine lv_topi (fun x1 ex1 => ?_)
  have hx1 : x1.toInt = i.toInt + 1 := In.adde (a := 0) (b := 3072) ex1 ⟨hi0, by omega⟩ (k := 1) (by decide) (by decide) (by decide)
  refine va_sld hx hb hXs hbl hbA hS (i := x1) (vp_of (by omega) (by omega)) dL_law_214 ?_
  refine lv_topi (fun x2 ex2 => ?_)
  refine lv_aload_n hx hb dL_law_215 rfl (lv_at hl 4 rfl) ?_
  refine lv_iload hx hb dL_law_216 (lv_at hl 0 rfl) ?_
  refine lv_iconst (v := 2) hx hb dL_law_218 (by decide) ?_
  refine lv_iadd hx hb dL_law_219 ?_
  refine lv_topi (fun x3 ex3 => ?_)
  have hx3 : x3.toInt = i.toInt + 2 := In.adde (a := 0) (b := 3072) ex3 ⟨hi0, by omega⟩ (k := 2) (by decide) (by decide) (by decide)
  refine va_sld hx hb hXs hbl hbA hS (i := x3) (vp_of (by omega) (by omega)) dL_law_220 ?_
  refine lv_topi (fun x4 ex4 => ?_)
  refine lv_aload_n hx hb dL_law_221 rfl (lv_at hl 4 rfl) ?_
  refine lv_iload hx hb dL_law_222 (lv_at hl 0 rfl) ?_
  refine lv_iconst (v := 3) hx hb dL_law_224 (by decide) ?_
  refine lv_iadd hx hb dL_law_225 ?_
  refine lv_topi (fun x5 ex5 => ?_)
  have hx5 : x5.toInt = i.toInt + 3 := In.adde (a := 0) (b := 3072) ex5 ⟨hi0, by omega⟩ (k := 3) (by decide) (by decide) (by decide)
  refine va_sld hx hb hXs hbl hbA hS (i := x5) (vp_of (by omega) (by omega)) dL_law_226 ?_
  refine lv_topi (fun x6 ex6 => ?_)
  refine lv_aload_n hx hb dL_law_227 rfl (lv_at hl 4 rfl) ?_
  refine lv_iload hx hb dL_law_228 (lv_at hl 0 rfl) ?_
  refine lv_iconst (v := 4) hx hb dL_law_230 (by decide) ?_
  refine lv_iadd hx hb dL_law_231 ?_
  refine lv_topi (fun x7 ex7 => ?_)
  have hx7 : x7.toInt = i.toInt + 4 := In.adde (a := 0) (b := 3072) ex7 ⟨hi0, by omega⟩ (k := 4) (by decide) (by decide) (by decide)
  refine va_sld hx hb hXs hbl hbA hS (i := x7) (vp_of (by omega) (by omega)) dL_law_232 ?_
  refine lv_topi (fun x8 ex8 => ?_)
  refine lv_aload_n hx hb dL_law_233 rfl (lv_at hl 4 rfl) ?_
  refine lv_iload hx hb dL_law_234 (lv_at hl 0 rfl) ?_
  refine lv_iconst (v := 5) hx hb dL_law_236 (by decide) ?_
  refine lv_iadd hx hb dL_law_237 ?_
  refine lv_topi (fun x9 ex9 => ?_)
  have hx9 : x9.toInt = i.toInt + 5 := In.adde (a := 0) (b := 3072) ex9 ⟨hi0, by omega⟩ (k := 5) (by decide) (by decide) (by decide)
  refine va_sld hx hb hXs hbl hbA hS (i := x9) (vp_of (by omega) (by omega)) dL_law_238 ?_
  refine lv_topi (fun x10 ex10 => ?_)
  obtain ⟨_, _, _, hf_me, _, _, _⟩ := hT.1 0 (by decide)
  refine call_i (run_V (rm := rm_X10_feed) hx hb hml hown hts (s_X10_feed l g ad th _ _ _ x2 x4 x6 x8 x10 hst hT ) cV_X10_feed wg_530 ⟨Nat.le_of_ble_eq_true rfl, Nat.le_of_ble_eq_true rfl⟩ hG hE hA hP hD hS (hst.1 0 (by decide)) hf_me rfl rfl hl.1 (As := [.int x2, .int x4, .int x6, .int x8, .int x10]) (rest := []) rfl (Nat.le_of_ble_eq_true rfl) dL_law_239 ⟨by show 1000 + k + 0 ≤ 601024; omega, by show 200000 + 6 * k + 0 ≤ 7293034; omega⟩) hA hD hS (fun r11 L12 f13 H locs hp14 hP hD hS => ?_)
  obtain ⟨e15L, e15T, _⟩ := hp14
  have e15L : L12 = L := e15L
  have hT : TI g ad _ f13 := e15T
  rw [e15L] at hP hD
  refine lv_pop hx hb dL_law_242 rfl ?_
  refine lv_aload_n hx hb dL_law_243 rfl (lv_at hl 2 rfl) ?_
  refine lv_aload_n hx hb dL_law_244 rfl (lv_at hl 4 rfl) ?_
  refine lv_iload hx hb dL_law_245 (lv_at hl 0 rfl) ?_
  refine lv_iconst (v := 1) hx hb dL_law_247 (by decide) ?_
  refine lv_iadd hx hb dL_law_248 ?_
  refine lv_topi (fun x16 ex16 => ?_)
  have hx16 : x16.toInt = i.toInt + 1 := In.adde (a := 0) (b := 3072) ex16 ⟨hi0, by omega⟩ (k := 1) (by decide) (by decide) (by decide)
  refine va_sld hx hb hXs hbl hbA hS (i := x16) (vp_of (by omega) (by omega)) dL_law_249 ?_
  refine lv_topi (fun x17 ex17 => ?_)
  refine lv_aload_n hx hb dL_law_250 rfl (lv_at hl 4 rfl) ?_
  refine lv_iload hx hb dL_law_251 (lv_at hl 0 rfl) ?_
  refine lv_iconst (v := 2) hx hb dL_law_253 (by decide) ?_
  refine lv_iadd hx hb dL_law_254 ?_
  refine lv_topi (fun x18 ex18 => ?_)
  have hx18 : x18.toInt = i.toInt + 2 := In.adde (a := 0) (b := 3072) ex18 ⟨hi0, by omega⟩ (k := 2) (by decide) (by decide) (by decide)
  refine va_sld hx hb hXs hbl hbA hS (i := x18) (vp_of (by omega) (by omega)) dL_law_255 ?_
  refine lv_topi (fun x19 ex19 => ?_)
  refine lv_aload_n hx hb dL_law_256 rfl (lv_at hl 4 rfl) ?_
  refine lv_iload hx hb dL_law_257 (lv_at hl 0 rfl) ?_
  refine lv_iconst (v := 3) hx hb dL_law_259 (by decide) ?_
  refine lv_iadd hx hb dL_law_260 ?_
  refine lv_topi (fun x20 ex20 => ?_)
  have hx20 : x20.toInt = i.toInt + 3 := In.adde (a := 0) (b := 3072) ex20 ⟨hi0, by omega⟩ (k := 3) (by decide) (by decide) (by decide)
  refine va_sld hx hb hXs hbl hbA hS (i := x20) (vp_of (by omega) (by omega)) dL_law_261 ?_
  refine lv_topi (fun x21 ex21 => ?_)
  refine lv_aload_n hx hb dL_law_262 rfl (lv_at hl 4 rfl) ?_
  refine lv_iload hx hb dL_law_263 (lv_at hl 0 rfl) ?_
  refine lv_iconst (v := 4) hx hb dL_law_265 (by decide) ?_
  refine lv_iadd hx hb dL_law_266 ?_
  refine lv_topi (fun x22 ex22 => ?_)
  have hx22 : x22.toInt = i.toInt + 4 := In.adde (a := 0) (b := 3072) ex22 ⟨hi0, by omega⟩ (k := 4) (by decide) (by decide) (by decide)
  refine va_sld hx hb hXs hbl hbA hS (i := x22) (vp_of (by omega) (by omega)) dL_law_267 ?_
  refine lv_topi (fun x23 ex23 => ?_)
  refine lv_aload_n hx hb dL_law_268 rfl (lv_at hl 4 rfl) ?_
  refine lv_iload hx hb dL_law_269 (lv_at hl 0 rfl) ?_
  refine lv_iconst (v := 5) hx hb dL_law_271 (by decide) ?_
  refine lv_iadd hx hb dL_law_272 ?_
  refine lv_topi (fun x24 ex24 => ?_)
  have hx24 : x24.toInt = i.toInt + 5 := In.adde (a := 0) (b := 3072) ex24 ⟨hi0, by omega⟩ (k := 5) (by decide) (by decide) (by decide)
  refine va_sld hx hb hXs hbl hbA hS (i := x24) (vp_of (by omega) (by omega)) dL_law_273 ?_
  refine lv_topi (fun x25 ex25 => ?_)
  refine M0e hT (fun _ _ _ _ _ _ _ _ _ _ _ _ _ _ _ _ _ _ _ _ _ _ _ _ _ _ _ _ _ _ _ _ _ _ hf_me _ _ _ _ _ _ _ _ _ _ _ _ _ _ _ _ _ _ _ _ _ _ _ _ _ _ _ _ _ _ _ _ _ _ _ _ _ _ _ _ _ => ?_)
  refine call_i (run_V (rm := rm_X11_feed) hx hb hml hown hts (s_X11_feed l g ad th _ _ _ x17 x19 x21 x23 x25 hst hT hM) cV_X11_feed wg_1506 ⟨Nat.le_of_ble_eq_true rfl, Nat.le_of_ble_eq_true rfl⟩ hG hE hA hP hD hS (hst.1 255 (by decide)) hf_me rfl rfl hl.1 (As := [.int x17, .int x19, .int x21, .int x23, .int x25]) (rest := []) rfl (Nat.le_of_ble_eq_true rfl) dL_law_274 ⟨by show 1000 + k + 0 + 0 ≤ 601024; omega, by show 200000 + 6 * k + 0 + 0 ≤ 7293034; omega⟩) hA hD hS (fun r26 L27 f28 H locs hp29 hP hD hS => ?_)
  obtain ⟨e30L, e30T, _⟩ := hp29
  have e30L : L27 = L := e30L
  obtain ⟨th31, e30I, hT⟩ := e30T
  rw [e30L] at hP hD
  have hC := hC.m e30I.2
  have hM := e30I.1
  revert hT hC hM
  generalize th31 = th
  intro hT hC hM
  refine lv_pop hx hb dL_law_277 rfl ?_
  refine lv_goto (tgt := 1333) hx hb dL_law_278 (by decide) ?_
  refine W.widen (k := 1001 + k) (n := 200006 + 6 * k) (by show 1000 + k + 0 + 0 ≤ _; omega) (by show 200000 + 6 * k + 0 + 0 ≤ _; omega) ?_
  exact K _ _ _ _ _ hT hC hM hP hD hS (lv_sub hl [0, 1, 2, 3, 4] rfl)

set_option maxHeartbeats 4000000 in
set_option maxRecDepth 100000 in
theorem law_c1 {p : Program} {e : Env} {s : State} {m : MethodId} {below : List Frame} {meth : Method} {c : Code} (l : Launch) {b LL : Nat} {xs : Nat → Int32} (C0 : lw_At p s m meth c b LL xs) (htr : l.stackTraces = false) {g : GG} (hG : GK g s) (hE : SW g (fun q : Nat => s.heap.size ≤ q) s s.heap) {L : List Nat} {ad : Nat → Nat} (hst : ST ad L) {th : Nat → Int} {f : HP} {H : Heap} {locs : List Loc} {ls : Array Slot} {i : Int32} {k : Nat} (hk : k ≤ 511) (hi0 : 0 ≤ i.toInt) (hi : i.toInt + 6 ≤ (LL : Int)) (hLL : LL ≤ 3072) (hT : TI g ad th f) (hC : CIv th) (hM : MI th) (hP : va_P g.1 vwCl (va_pl L f) H) (hD : va_D (fun q : Nat => s.heap.size ≤ q) (va_pl L f)) (hS : va_S (fun q : Nat => s.heap.size ≤ q) s.heap H locs) (hl : lv_has ls 7 [(4, .int i), (3, .ref (ad 278)), (2, .ref (ad 255)), (1, .ref (ad 0)), (0, .ref b)]) (K : ∀ (th : Nat → Int) (f : HP) (H : Heap) (locs : List Loc) (ls : Array Slot), TI g ad th f → CIv th → MI th → va_P g.1 vwCl (va_pl L f) H → va_D (fun q : Nat => s.heap.size ≤ q) (va_pl L f) → va_S (fun q : Nat => s.heap.size ≤ q) s.heap H locs → lv_has ls 7 [(4, .int i), (3, .ref (ad 278)), (2, .ref (ad 255)), (1, .ref (ad 0)), (0, .ref b)] → W p l e room_1 s m #[Value.ref b] below meth c H locs (1001 + k) (200006 + 6 * k) (lw_Z below #[Value.ref b] s) (F0 m 1333 ls [])) : W p l e room_1 s m #[Value.ref b] below meth c H locs (1000 + k) (200000 + 6 * k) (lw_Z below #[Value.ref b] s) (F0 m 281 ls []) := by
  obtain ⟨hx, hb, hr, hml, hown, hts0, hXs, hbl, hlocks, hgv⟩ := C0
  have hown : s.vm.findClass "RulerWordLaw" = some m.cls := hown
  have hts := hts1 hts0
  have hA : ∀ q, s.heap.size ≤ q → (fun q : Nat => s.heap.size ≤ q) q := fun _ h => h
  have hbA : ¬ (fun q : Nat => s.heap.size ≤ q) b := Nat.not_le.mpr hbl
  refine lv_aload_n hx hb dL_law_281 rfl (lv_at hl 3 rfl) ?_
  refine lv_aload_n hx hb dL_law_282 rfl (lv_at hl 4 rfl) ?_
  refine lv_iload hx hb dL_law_283 (lv_at hl 0 rfl) ?_
  refine lv_iconst (v := 1) hx hb dL_law_285 (by decide) ?_
  refine lv_iadd hx hb dL_law_286 ?_
  refine lv_topi (fun x1 ex1 => ?_)
  have hx1 : x1.toInt = i.toInt + 1 := In.adde (a := 0) (b := 3072) ex1 ⟨hi0, by omega⟩ (k := 1) (by decide) (by decide) (by decide)
  refine va_sld hx hb hXs hbl hbA hS (i := x1) (vp_of (by omega) (by omega)) dL_law_287 ?_
  refine lv_topi (fun x2 ex2 => ?_)
  obtain ⟨_, _, _, hf_me, _, _, _⟩ := hT.1 0 (by decide)
  refine call_i (run_V (rm := rm_X10_end) hx hb hml hown hts (s_X10_end l g ad th _ _ _ x2 hst hT ) cV_X10_end wg_542 ⟨Nat.le_of_ble_eq_true rfl, Nat.le_of_ble_eq_true rfl⟩ hG hE hA hP hD hS (hst.1 0 (by decide)) hf_me rfl rfl hl.1 (As := [.int x2]) (rest := []) rfl (Nat.le_of_ble_eq_true rfl) dL_law_288 ⟨by show 1000 + k + 0 ≤ 601024; omega, by show 200000 + 6 * k + 0 ≤ 7293034; omega⟩) hA hD hS (fun r3 L4 f5 H locs hp6 hP hD hS => ?_)
  obtain ⟨e7L, e7T, _, _⟩ := hp6
  have e7L : L4 = L := e7L
  have hT : TI g ad _ f5 := e7T
  rw [e7L] at hP hD
  refine lv_pop hx hb dL_law_291 rfl ?_
  refine lv_aload_n hx hb dL_law_292 rfl (lv_at hl 2 rfl) ?_
  refine lv_aload_n hx hb dL_law_293 rfl (lv_at hl 4 rfl) ?_
  refine lv_iload hx hb dL_law_294 (lv_at hl 0 rfl) ?_
  refine lv_iconst (v := 1) hx hb dL_law_296 (by decide) ?_
  refine lv_iadd hx hb dL_law_297 ?_
  refine lv_topi (fun x8 ex8 => ?_)
  have hx8 : x8.toInt = i.toInt + 1 := In.adde (a := 0) (b := 3072) ex8 ⟨hi0, by omega⟩ (k := 1) (by decide) (by decide) (by decide)
  refine va_sld hx hb hXs hbl hbA hS (i := x8) (vp_of (by omega) (by omega)) dL_law_298 ?_
  refine lv_topi (fun x9 ex9 => ?_)
  refine M0e hT (fun _ _ _ _ _ _ _ _ _ _ _ _ _ _ _ _ _ _ _ _ _ _ _ _ _ _ _ _ _ _ _ _ _ _ hf_me _ _ _ _ _ _ _ _ _ _ _ _ _ _ _ _ _ _ _ _ _ _ _ _ _ _ _ _ _ _ _ _ _ _ _ _ _ _ _ _ _ => ?_)
  refine call_i (run_V (rm := rm_X11_end) hx hb hml hown hts (s_X11_end l g ad th _ _ _ x9 hst hT hM) cV_X11_end wg_1517 ⟨Nat.le_of_ble_eq_true rfl, Nat.le_of_ble_eq_true rfl⟩ hG hE hA hP hD hS (hst.1 255 (by decide)) hf_me rfl rfl hl.1 (As := [.int x9]) (rest := []) rfl (Nat.le_of_ble_eq_true rfl) dL_law_299 ⟨by show 1000 + k + 0 + 0 ≤ 601024; omega, by show 200000 + 6 * k + 0 + 0 ≤ 7293034; omega⟩) hA hD hS (fun r10 L11 f12 H locs hp13 hP hD hS => ?_)
  obtain ⟨e14L, e14T, _, _⟩ := hp13
  have e14L : L11 = L := e14L
  obtain ⟨th15, e14I, hT⟩ := e14T
  rw [e14L] at hP hD
  have hC := hC.m e14I.2
  have hM := e14I.1
  revert hT hC hM
  generalize th15 = th
  intro hT hC hM
  refine lv_pop hx hb dL_law_302 rfl ?_
  refine lv_goto (tgt := 1333) hx hb dL_law_303 (by decide) ?_
  refine W.widen (k := 1001 + k) (n := 200006 + 6 * k) (by show 1000 + k + 0 + 0 ≤ _; omega) (by show 200000 + 6 * k + 0 + 0 ≤ _; omega) ?_
  exact K _ _ _ _ _ hT hC hM hP hD hS (lv_sub hl [0, 1, 2, 3, 4] rfl)

set_option maxHeartbeats 4000000 in
set_option maxRecDepth 100000 in
theorem law_c2 {p : Program} {e : Env} {s : State} {m : MethodId} {below : List Frame} {meth : Method} {c : Code} (l : Launch) {b LL : Nat} {xs : Nat → Int32} (C0 : lw_At p s m meth c b LL xs) (htr : l.stackTraces = false) {g : GG} (hG : GK g s) (hE : SW g (fun q : Nat => s.heap.size ≤ q) s s.heap) {L : List Nat} {ad : Nat → Nat} (hst : ST ad L) {th : Nat → Int} {f : HP} {H : Heap} {locs : List Loc} {ls : Array Slot} {i : Int32} {k : Nat} (hk : k ≤ 511) (hi0 : 0 ≤ i.toInt) (hi : i.toInt + 6 ≤ (LL : Int)) (hLL : LL ≤ 3072) (hT : TI g ad th f) (hC : CIv th) (hM : MI th) (hP : va_P g.1 vwCl (va_pl L f) H) (hD : va_D (fun q : Nat => s.heap.size ≤ q) (va_pl L f)) (hS : va_S (fun q : Nat => s.heap.size ≤ q) s.heap H locs) (hl : lv_has ls 7 [(4, .int i), (3, .ref (ad 278)), (2, .ref (ad 255)), (1, .ref (ad 0)), (0, .ref b)]) (K : ∀ (th : Nat → Int) (f : HP) (H : Heap) (locs : List Loc) (ls : Array Slot), TI g ad th f → CIv th → MI th → va_P g.1 vwCl (va_pl L f) H → va_D (fun q : Nat => s.heap.size ≤ q) (va_pl L f) → va_S (fun q : Nat => s.heap.size ≤ q) s.heap H locs → lv_has ls 7 [(4, .int i), (3, .ref (ad 278)), (2, .ref (ad 255)), (1, .ref (ad 0)), (0, .ref b)] → W p l e room_1 s m #[Value.ref b] below meth c H locs (1001 + k) (200006 + 6 * k) (lw_Z below #[Value.ref b] s) (F0 m 1333 ls [])) : W p l e room_1 s m #[Value.ref b] below meth c H locs (1000 + k) (200000 + 6 * k) (lw_Z below #[Value.ref b] s) (F0 m 306 ls []) := by
  obtain ⟨hx, hb, hr, hml, hown, hts0, hXs, hbl, hlocks, hgv⟩ := C0
  have hown : s.vm.findClass "RulerWordLaw" = some m.cls := hown
  have hts := hts1 hts0
  have hA : ∀ q, s.heap.size ≤ q → (fun q : Nat => s.heap.size ≤ q) q := fun _ h => h
  have hbA : ¬ (fun q : Nat => s.heap.size ≤ q) b := Nat.not_le.mpr hbl
  refine lv_aload_n hx hb dL_law_306 rfl (lv_at hl 3 rfl) ?_
  refine lv_aload_n hx hb dL_law_307 rfl (lv_at hl 4 rfl) ?_
  refine lv_iload hx hb dL_law_308 (lv_at hl 0 rfl) ?_
  refine lv_iconst (v := 1) hx hb dL_law_310 (by decide) ?_
  refine lv_iadd hx hb dL_law_311 ?_
  refine lv_topi (fun x1 ex1 => ?_)
  have hx1 : x1.toInt = i.toInt + 1 := In.adde (a := 0) (b := 3072) ex1 ⟨hi0, by omega⟩ (k := 1) (by decide) (by decide) (by decide)
  refine va_sld hx hb hXs hbl hbA hS (i := x1) (vp_of (by omega) (by omega)) dL_law_312 ?_
  refine lv_topi (fun x2 ex2 => ?_)
  obtain ⟨_, _, _, hf_me, _, _, _⟩ := hT.1 0 (by decide)
  refine call_i (run_V (rm := rm_X10_fault) hx hb hml hown hts (s_X10_fault l g ad th _ _ _ x2 hst hT hC) cV_X10_fault wg_546 ⟨Nat.le_of_ble_eq_true rfl, Nat.le_of_ble_eq_true rfl⟩ hG hE hA hP hD hS (hst.1 0 (by decide)) hf_me rfl rfl hl.1 (As := [.int x2]) (rest := []) rfl (Nat.le_of_ble_eq_true rfl) dL_law_313 ⟨by show 1000 + k + 0 ≤ 601024; omega, by show 200000 + 6 * k + 0 ≤ 7293034; omega⟩) hA hD hS (fun r3 L4 f5 H locs hp6 hP hD hS => ?_)
  obtain ⟨e7L, e7T, _⟩ := hp6
  have e7L : L4 = L := e7L
  obtain ⟨th8, e7I, hT⟩ := e7T
  rw [e7L] at hP hD
  have hM1 := hM.c e7I.2
  have hC := e7I.1
  have hM := hM1
  revert hT hC hM
  generalize th8 = th
  intro hT hC hM
  refine lv_pop hx hb dL_law_316 rfl ?_
  refine lv_aload_n hx hb dL_law_317 rfl (lv_at hl 2 rfl) ?_
  refine lv_aload_n hx hb dL_law_318 rfl (lv_at hl 4 rfl) ?_
  refine lv_iload hx hb dL_law_319 (lv_at hl 0 rfl) ?_
  refine lv_iconst (v := 1) hx hb dL_law_321 (by decide) ?_
  refine lv_iadd hx hb dL_law_322 ?_
  refine lv_topi (fun x9 ex9 => ?_)
  have hx9 : x9.toInt = i.toInt + 1 := In.adde (a := 0) (b := 3072) ex9 ⟨hi0, by omega⟩ (k := 1) (by decide) (by decide) (by decide)
  refine va_sld hx hb hXs hbl hbA hS (i := x9) (vp_of (by omega) (by omega)) dL_law_323 ?_
  refine lv_topi (fun x10 ex10 => ?_)
  refine M0e hT (fun _ _ _ _ _ _ _ _ _ _ _ _ _ _ _ _ _ _ _ _ _ _ _ _ _ _ _ _ _ _ _ _ _ _ hf_me _ _ _ _ _ _ _ _ _ _ _ _ _ _ _ _ _ _ _ _ _ _ _ _ _ _ _ _ _ _ _ _ _ _ _ _ _ _ _ _ _ => ?_)
  refine call_i (run_V (rm := rm_X11_fault) hx hb hml hown hts (s_X11_fault l g ad th _ _ _ x10 hst hT hM) cV_X11_fault wg_1521 ⟨Nat.le_of_ble_eq_true rfl, Nat.le_of_ble_eq_true rfl⟩ hG hE hA hP hD hS (hst.1 255 (by decide)) hf_me rfl rfl hl.1 (As := [.int x10]) (rest := []) rfl (Nat.le_of_ble_eq_true rfl) dL_law_324 ⟨by show 1000 + k + 0 + 0 ≤ 601024; omega, by show 200000 + 6 * k + 0 + 0 ≤ 7293034; omega⟩) hA hD hS (fun r11 L12 f13 H locs hp14 hP hD hS => ?_)
  obtain ⟨e15L, e15T, _⟩ := hp14
  have e15L : L12 = L := e15L
  obtain ⟨th16, e15I, hT⟩ := e15T
  rw [e15L] at hP hD
  have hC := hC.m e15I.2
  have hM := e15I.1
  revert hT hC hM
  generalize th16 = th
  intro hT hC hM
  refine lv_pop hx hb dL_law_327 rfl ?_
  refine lv_goto (tgt := 1333) hx hb dL_law_328 (by decide) ?_
  refine W.widen (k := 1001 + k) (n := 200006 + 6 * k) (by show 1000 + k + 0 + 0 ≤ _; omega) (by show 200000 + 6 * k + 0 + 0 ≤ _; omega) ?_
  exact K _ _ _ _ _ hT hC hM hP hD hS (lv_sub hl [0, 1, 2, 3, 4] rfl)

set_option maxHeartbeats 4000000 in
set_option maxRecDepth 100000 in
theorem law_c3 {p : Program} {e : Env} {s : State} {m : MethodId} {below : List Frame} {meth : Method} {c : Code} (l : Launch) {b LL : Nat} {xs : Nat → Int32} (C0 : lw_At p s m meth c b LL xs) (htr : l.stackTraces = false) {g : GG} (hG : GK g s) (hE : SW g (fun q : Nat => s.heap.size ≤ q) s s.heap) {L : List Nat} {ad : Nat → Nat} (hst : ST ad L) {th : Nat → Int} {f : HP} {H : Heap} {locs : List Loc} {ls : Array Slot} {i : Int32} {k : Nat} (hk : k ≤ 511) (hi0 : 0 ≤ i.toInt) (hi : i.toInt + 6 ≤ (LL : Int)) (hLL : LL ≤ 3072) (hT : TI g ad th f) (hC : CIv th) (hM : MI th) (hP : va_P g.1 vwCl (va_pl L f) H) (hD : va_D (fun q : Nat => s.heap.size ≤ q) (va_pl L f)) (hS : va_S (fun q : Nat => s.heap.size ≤ q) s.heap H locs) (hl : lv_has ls 7 [(4, .int i), (3, .ref (ad 278)), (2, .ref (ad 255)), (1, .ref (ad 0)), (0, .ref b)]) (K : ∀ (th : Nat → Int) (f : HP) (H : Heap) (locs : List Loc) (ls : Array Slot), TI g ad th f → CIv th → MI th → va_P g.1 vwCl (va_pl L f) H → va_D (fun q : Nat => s.heap.size ≤ q) (va_pl L f) → va_S (fun q : Nat => s.heap.size ≤ q) s.heap H locs → lv_has ls 7 [(4, .int i), (3, .ref (ad 278)), (2, .ref (ad 255)), (1, .ref (ad 0)), (0, .ref b)] → W p l e room_1 s m #[Value.ref b] below meth c H locs (1001 + k) (200006 + 6 * k) (lw_Z below #[Value.ref b] s) (F0 m 1333 ls [])) : W p l e room_1 s m #[Value.ref b] below meth c H locs (1000 + k) (200000 + 6 * k) (lw_Z below #[Value.ref b] s) (F0 m 331 ls []) := by
  obtain ⟨hx, hb, hr, hml, hown, hts0, hXs, hbl, hlocks, hgv⟩ := C0
  have hown : s.vm.findClass "RulerWordLaw" = some m.cls := hown
  have hts := hts1 hts0
  have hA : ∀ q, s.heap.size ≤ q → (fun q : Nat => s.heap.size ≤ q) q := fun _ h => h
  have hbA : ¬ (fun q : Nat => s.heap.size ≤ q) b := Nat.not_le.mpr hbl
  refine lv_aload_n hx hb dL_law_331 rfl (lv_at hl 3 rfl) ?_
  refine lv_aload_n hx hb dL_law_332 rfl (lv_at hl 4 rfl) ?_
  refine lv_iload hx hb dL_law_333 (lv_at hl 0 rfl) ?_
  refine lv_iconst (v := 1) hx hb dL_law_335 (by decide) ?_
  refine lv_iadd hx hb dL_law_336 ?_
  refine lv_topi (fun x1 ex1 => ?_)
  have hx1 : x1.toInt = i.toInt + 1 := In.adde (a := 0) (b := 3072) ex1 ⟨hi0, by omega⟩ (k := 1) (by decide) (by decide) (by decide)
  refine va_sld hx hb hXs hbl hbA hS (i := x1) (vp_of (by omega) (by omega)) dL_law_337 ?_
  refine lv_topi (fun x2 ex2 => ?_)
  refine lv_i2l hx hb dL_law_338 rfl ?_
  refine lv_topl (fun y3 ey3 => ?_)
  refine lv_bipush (v := 32) hx hb dL_law_339 (by decide) ?_
  refine lv_lshl hx hb dL_law_341 rfl ?_
  refine lv_topl (fun y4 ey4 => ?_)
  refine lv_aload_n hx hb dL_law_342 rfl (lv_at hl 4 rfl) ?_
  refine lv_iload hx hb dL_law_343 (lv_at hl 0 rfl) ?_
  refine lv_iconst (v := 2) hx hb dL_law_345 (by decide) ?_
  refine lv_iadd hx hb dL_law_346 ?_
  refine lv_topi (fun x5 ex5 => ?_)
  have hx5 : x5.toInt = i.toInt + 2 := In.adde (a := 0) (b := 3072) ex5 ⟨hi0, by omega⟩ (k := 2) (by decide) (by decide) (by decide)
  refine va_sld hx hb hXs hbl hbA hS (i := x5) (vp_of (by omega) (by omega)) dL_law_347 ?_
  refine lv_topi (fun x6 ex6 => ?_)
  refine lv_i2l hx hb dL_law_348 rfl ?_
  refine lv_topl (fun y7 ey7 => ?_)
  refine lv_ldc2 hx hb hown (hts _ (mT wg_1951)) dL_law_349 ?_
  refine lv_topl (fun y8 ey8 => ?_)
  refine lv_land hx hb dL_law_352 ?_
  refine lv_topl (fun y9 ey9 => ?_)
  refine lv_lor hx hb dL_law_353 ?_
  refine lv_topl (fun y10 ey10 => ?_)
  obtain ⟨_, _, _, hf_me, _, _, _⟩ := hT.1 0 (by decide)
  refine call_i (run_V (rm := rm_X10_council) hx hb hml hown hts (s_X10_council l g ad th _ _ _ y10 hst hT hC) cV_X10_council wg_706 ⟨Nat.le_of_ble_eq_true rfl, Nat.le_of_ble_eq_true rfl⟩ hG hE hA hP hD hS (hst.1 0 (by decide)) hf_me rfl rfl hl.1 (As := [.long y10]) (rest := []) rfl (Nat.le_of_ble_eq_true rfl) dL_law_354 ⟨by show 1000 + k + 0 ≤ 601024; omega, by show 200000 + 6 * k + 0 ≤ 7293034; omega⟩) hA hD hS (fun r11 L12 f13 H locs hp14 hP hD hS => ?_)
  obtain ⟨e15L, e15T, _⟩ := hp14
  have e15L : L12 = L := e15L
  obtain ⟨th16, e15I, hT⟩ := e15T
  rw [e15L] at hP hD
  have hM1 := hM.c e15I.2
  have hC := e15I.1
  have hM := hM1
  revert hT hC hM
  generalize th16 = th
  intro hT hC hM
  refine lv_pop hx hb dL_law_357 rfl ?_
  refine lv_aload_n hx hb dL_law_358 rfl (lv_at hl 2 rfl) ?_
  refine lv_aload_n hx hb dL_law_359 rfl (lv_at hl 4 rfl) ?_
  refine lv_iload hx hb dL_law_360 (lv_at hl 0 rfl) ?_
  refine lv_iconst (v := 1) hx hb dL_law_362 (by decide) ?_
  refine lv_iadd hx hb dL_law_363 ?_
  refine lv_topi (fun x17 ex17 => ?_)
  have hx17 : x17.toInt = i.toInt + 1 := In.adde (a := 0) (b := 3072) ex17 ⟨hi0, by omega⟩ (k := 1) (by decide) (by decide) (by decide)
  refine va_sld hx hb hXs hbl hbA hS (i := x17) (vp_of (by omega) (by omega)) dL_law_364 ?_
  refine lv_topi (fun x18 ex18 => ?_)
  refine lv_i2l hx hb dL_law_365 rfl ?_
  refine lv_topl (fun y19 ey19 => ?_)
  refine lv_bipush (v := 32) hx hb dL_law_366 (by decide) ?_
  refine lv_lshl hx hb dL_law_368 rfl ?_
  refine lv_topl (fun y20 ey20 => ?_)
  refine lv_aload_n hx hb dL_law_369 rfl (lv_at hl 4 rfl) ?_
  refine lv_iload hx hb dL_law_370 (lv_at hl 0 rfl) ?_
  refine lv_iconst (v := 2) hx hb dL_law_372 (by decide) ?_
  refine lv_iadd hx hb dL_law_373 ?_
  refine lv_topi (fun x21 ex21 => ?_)
  have hx21 : x21.toInt = i.toInt + 2 := In.adde (a := 0) (b := 3072) ex21 ⟨hi0, by omega⟩ (k := 2) (by decide) (by decide) (by decide)
  refine va_sld hx hb hXs hbl hbA hS (i := x21) (vp_of (by omega) (by omega)) dL_law_374 ?_
  refine lv_topi (fun x22 ex22 => ?_)
  refine lv_i2l hx hb dL_law_375 rfl ?_
  refine lv_topl (fun y23 ey23 => ?_)
  refine lv_ldc2 hx hb hown (hts _ (mT wg_1951)) dL_law_376 ?_
  refine lv_topl (fun y24 ey24 => ?_)
  refine lv_land hx hb dL_law_379 ?_
  refine lv_topl (fun y25 ey25 => ?_)
  refine lv_lor hx hb dL_law_380 ?_
  refine lv_topl (fun y26 ey26 => ?_)
  refine M0e hT (fun _ _ _ _ _ _ _ _ _ _ _ _ _ _ _ _ _ _ _ _ _ _ _ _ _ _ _ _ _ _ _ _ _ _ hf_me _ _ _ _ _ _ _ _ _ _ _ _ _ _ _ _ _ _ _ _ _ _ _ _ _ _ _ _ _ _ _ _ _ _ _ _ _ _ _ _ _ => ?_)
  refine call_i (run_V (rm := rm_X11_council) hx hb hml hown hts (s_X11_council l g ad th _ _ _ y26 hst hT hM) cV_X11_council wg_1608 ⟨Nat.le_of_ble_eq_true rfl, Nat.le_of_ble_eq_true rfl⟩ hG hE hA hP hD hS (hst.1 255 (by decide)) hf_me rfl rfl hl.1 (As := [.long y26]) (rest := []) rfl (Nat.le_of_ble_eq_true rfl) dL_law_381 ⟨by show 1000 + k + 0 + 0 ≤ 601024; omega, by show 200000 + 6 * k + 0 + 0 ≤ 7293034; omega⟩) hA hD hS (fun r27 L28 f29 H locs hp30 hP hD hS => ?_)
  obtain ⟨e31L, e31T, _⟩ := hp30
  have e31L : L28 = L := e31L
  obtain ⟨th32, e31I, hT⟩ := e31T
  rw [e31L] at hP hD
  have hC := hC.m e31I.2
  have hM := e31I.1
  revert hT hC hM
  generalize th32 = th
  intro hT hC hM
  refine lv_pop hx hb dL_law_384 rfl ?_
  refine lv_goto (tgt := 1333) hx hb dL_law_385 (by decide) ?_
  refine W.widen (k := 1001 + k) (n := 200006 + 6 * k) (by show 1000 + k + 0 + 0 ≤ _; omega) (by show 200000 + 6 * k + 0 + 0 ≤ _; omega) ?_
  exact K _ _ _ _ _ hT hC hM hP hD hS (lv_sub hl [0, 1, 2, 3, 4] rfl)

set_option maxHeartbeats 4000000 in
set_option maxRecDepth 100000 in
theorem law_c4 {p : Program} {e : Env} {s : State} {m : MethodId} {below : List Frame} {meth : Method} {c : Code} (l : Launch) {b LL : Nat} {xs : Nat → Int32} (C0 : lw_At p s m meth c b LL xs) (htr : l.stackTraces = false) {g : GG} (hG : GK g s) (hE : SW g (fun q : Nat => s.heap.size ≤ q) s s.heap) {L : List Nat} {ad : Nat → Nat} (hst : ST ad L) {th : Nat → Int} {f : HP} {H : Heap} {locs : List Loc} {ls : Array Slot} {i : Int32} {k : Nat} (hk : k ≤ 511) (hi0 : 0 ≤ i.toInt) (hi : i.toInt + 6 ≤ (LL : Int)) (hLL : LL ≤ 3072) (hT : TI g ad th f) (hC : CIv th) (hM : MI th) (hP : va_P g.1 vwCl (va_pl L f) H) (hD : va_D (fun q : Nat => s.heap.size ≤ q) (va_pl L f)) (hS : va_S (fun q : Nat => s.heap.size ≤ q) s.heap H locs) (hl : lv_has ls 7 [(4, .int i), (3, .ref (ad 278)), (2, .ref (ad 255)), (1, .ref (ad 0)), (0, .ref b)]) (K : ∀ (th : Nat → Int) (f : HP) (H : Heap) (locs : List Loc) (ls : Array Slot), TI g ad th f → CIv th → MI th → va_P g.1 vwCl (va_pl L f) H → va_D (fun q : Nat => s.heap.size ≤ q) (va_pl L f) → va_S (fun q : Nat => s.heap.size ≤ q) s.heap H locs → lv_has ls 7 [(4, .int i), (3, .ref (ad 278)), (2, .ref (ad 255)), (1, .ref (ad 0)), (0, .ref b)] → W p l e room_1 s m #[Value.ref b] below meth c H locs (1001 + k) (200006 + 6 * k) (lw_Z below #[Value.ref b] s) (F0 m 1333 ls [])) : W p l e room_1 s m #[Value.ref b] below meth c H locs (1000 + k) (200000 + 6 * k) (lw_Z below #[Value.ref b] s) (F0 m 388 ls []) := by
  obtain ⟨hx, hb, hr, hml, hown, hts0, hXs, hbl, hlocks, hgv⟩ := C0
  have hown : s.vm.findClass "RulerWordLaw" = some m.cls := hown
  have hts := hts1 hts0
  have hA : ∀ q, s.heap.size ≤ q → (fun q : Nat => s.heap.size ≤ q) q := fun _ h => h
  have hbA : ¬ (fun q : Nat => s.heap.size ≤ q) b := Nat.not_le.mpr hbl
  refine lv_aload_n hx hb dL_law_388 rfl (lv_at hl 3 rfl) ?_
  obtain ⟨_, _, _, hf_me, _, _, _⟩ := hT.1 0 (by decide)
  refine call_i (run_V (rm := rm_X10_plan) hx hb hml hown hts (s_X10_plan l g ad th _ _ _  hst hT ) cV_X10_plan wg_718 ⟨Nat.le_of_ble_eq_true rfl, Nat.le_of_ble_eq_true rfl⟩ hG hE hA hP hD hS (hst.1 0 (by decide)) hf_me rfl rfl hl.1 (As := []) (rest := []) rfl (Nat.le_of_ble_eq_true rfl) dL_law_389 ⟨by show 1000 + k + 0 ≤ 601024; omega, by show 200000 + 6 * k + 0 ≤ 7293034; omega⟩) hA hD hS (fun r1 L2 f3 H locs hp4 hP hD hS => ?_)
  obtain ⟨e5L, e5T, _⟩ := hp4
  have e5L : L2 = L := e5L
  have hT : TI g ad _ f3 := e5T
  rw [e5L] at hP hD
  refine lv_pop hx hb dL_law_392 rfl ?_
  refine lv_aload_n hx hb dL_law_393 rfl (lv_at hl 2 rfl) ?_
  refine M0e hT (fun _ _ _ _ _ _ _ _ _ _ _ _ _ _ _ _ _ _ _ _ _ _ _ _ _ _ _ _ _ _ _ _ _ _ hf_me _ _ _ _ _ _ _ _ _ _ _ _ _ _ _ _ _ _ _ _ _ _ _ _ _ _ _ _ _ _ _ _ _ _ _ _ _ _ _ _ _ => ?_)
  refine call_i (run_V (rm := rm_X11_plan) hx hb hml hown hts (s_X11_plan l g ad th _ _ _  hst hT hM) cV_X11_plan wg_1624 ⟨Nat.le_of_ble_eq_true rfl, Nat.le_of_ble_eq_true rfl⟩ hG hE hA hP hD hS (hst.1 255 (by decide)) hf_me rfl rfl hl.1 (As := []) (rest := []) rfl (Nat.le_of_ble_eq_true rfl) dL_law_394 ⟨by show 1000 + k + 0 + 0 ≤ 601024; omega, by show 200000 + 6 * k + 0 + 0 ≤ 7293034; omega⟩) hA hD hS (fun r6 L7 f8 H locs hp9 hP hD hS => ?_)
  obtain ⟨e10L, e10T, _⟩ := hp9
  have e10L : L7 = L := e10L
  obtain ⟨th11, e10I, hT⟩ := e10T
  rw [e10L] at hP hD
  have hC := hC.m e10I.2
  have hM := e10I.1
  revert hT hC hM
  generalize th11 = th
  intro hT hC hM
  refine lv_pop hx hb dL_law_397 rfl ?_
  refine lv_goto (tgt := 1333) hx hb dL_law_398 (by decide) ?_
  refine W.widen (k := 1001 + k) (n := 200006 + 6 * k) (by show 1000 + k + 0 + 0 ≤ _; omega) (by show 200000 + 6 * k + 0 + 0 ≤ _; omega) ?_
  exact K _ _ _ _ _ hT hC hM hP hD hS (lv_sub hl [0, 1, 2, 3, 4] rfl)

set_option maxHeartbeats 4000000 in
set_option maxRecDepth 100000 in
theorem law_c5 {p : Program} {e : Env} {s : State} {m : MethodId} {below : List Frame} {meth : Method} {c : Code} (l : Launch) {b LL : Nat} {xs : Nat → Int32} (C0 : lw_At p s m meth c b LL xs) (htr : l.stackTraces = false) {g : GG} (hG : GK g s) (hE : SW g (fun q : Nat => s.heap.size ≤ q) s s.heap) {L : List Nat} {ad : Nat → Nat} (hst : ST ad L) {th : Nat → Int} {f : HP} {H : Heap} {locs : List Loc} {ls : Array Slot} {i : Int32} {k : Nat} (hk : k ≤ 511) (hi0 : 0 ≤ i.toInt) (hi : i.toInt + 6 ≤ (LL : Int)) (hLL : LL ≤ 3072) (hT : TI g ad th f) (hC : CIv th) (hM : MI th) (hP : va_P g.1 vwCl (va_pl L f) H) (hD : va_D (fun q : Nat => s.heap.size ≤ q) (va_pl L f)) (hS : va_S (fun q : Nat => s.heap.size ≤ q) s.heap H locs) (hl : lv_has ls 7 [(4, .int i), (3, .ref (ad 278)), (2, .ref (ad 255)), (1, .ref (ad 0)), (0, .ref b)]) (K : ∀ (th : Nat → Int) (f : HP) (H : Heap) (locs : List Loc) (ls : Array Slot), TI g ad th f → CIv th → MI th → va_P g.1 vwCl (va_pl L f) H → va_D (fun q : Nat => s.heap.size ≤ q) (va_pl L f) → va_S (fun q : Nat => s.heap.size ≤ q) s.heap H locs → lv_has ls 7 [(4, .int i), (3, .ref (ad 278)), (2, .ref (ad 255)), (1, .ref (ad 0)), (0, .ref b)] → W p l e room_1 s m #[Value.ref b] below meth c H locs (1001 + k) (200006 + 6 * k) (lw_Z below #[Value.ref b] s) (F0 m 1333 ls [])) : W p l e room_1 s m #[Value.ref b] below meth c H locs (1000 + k) (200000 + 6 * k) (lw_Z below #[Value.ref b] s) (F0 m 401 ls []) := by
  obtain ⟨hx, hb, hr, hml, hown, hts0, hXs, hbl, hlocks, hgv⟩ := C0
  have hown : s.vm.findClass "RulerWordLaw" = some m.cls := hown
  have hts := hts1 hts0
  have hA : ∀ q, s.heap.size ≤ q → (fun q : Nat => s.heap.size ≤ q) q := fun _ h => h
  have hbA : ¬ (fun q : Nat => s.heap.size ≤ q) b := Nat.not_le.mpr hbl
  refine lv_aload_n hx hb dL_law_401 rfl (lv_at hl 3 rfl) ?_
  refine lv_aload_n hx hb dL_law_402 rfl (lv_at hl 4 rfl) ?_
  refine lv_iload hx hb dL_law_403 (lv_at hl 0 rfl) ?_
  refine lv_iconst (v := 1) hx hb dL_law_405 (by decide) ?_
  refine lv_iadd hx hb dL_law_406 ?_
  refine lv_topi (fun x1 ex1 => ?_)
  have hx1 : x1.toInt = i.toInt + 1 := In.adde (a := 0) (b := 3072) ex1 ⟨hi0, by omega⟩ (k := 1) (by decide) (by decide) (by decide)
  refine va_sld hx hb hXs hbl hbA hS (i := x1) (vp_of (by omega) (by omega)) dL_law_407 ?_
  refine lv_topi (fun x2 ex2 => ?_)
  obtain ⟨_, _, _, hf_me, _, _, _⟩ := hT.1 0 (by decide)
  refine call_i (run_V (rm := rm_X10_rule) hx hb hml hown hts (s_X10_rule l g ad th _ _ _ x2 hst hT ) cV_X10_rule wg_729 ⟨Nat.le_of_ble_eq_true rfl, Nat.le_of_ble_eq_true rfl⟩ hG hE hA hP hD hS (hst.1 0 (by decide)) hf_me rfl rfl hl.1 (As := [.int x2]) (rest := []) rfl (Nat.le_of_ble_eq_true rfl) dL_law_408 ⟨by show 1000 + k + 0 ≤ 601024; omega, by show 200000 + 6 * k + 0 ≤ 7293034; omega⟩) hA hD hS (fun r3 L4 f5 H locs hp6 hP hD hS => ?_)
  obtain ⟨e7L, e7T⟩ := hp6
  have e7L : L4 = L := e7L
  have e7T : f5 = _ := e7T
  rw [e7L, e7T] at hP hD
  refine lv_pop hx hb dL_law_411 rfl ?_
  refine lv_aload_n hx hb dL_law_412 rfl (lv_at hl 2 rfl) ?_
  refine lv_aload_n hx hb dL_law_413 rfl (lv_at hl 4 rfl) ?_
  refine lv_iload hx hb dL_law_414 (lv_at hl 0 rfl) ?_
  refine lv_iconst (v := 1) hx hb dL_law_416 (by decide) ?_
  refine lv_iadd hx hb dL_law_417 ?_
  refine lv_topi (fun x8 ex8 => ?_)
  have hx8 : x8.toInt = i.toInt + 1 := In.adde (a := 0) (b := 3072) ex8 ⟨hi0, by omega⟩ (k := 1) (by decide) (by decide) (by decide)
  refine va_sld hx hb hXs hbl hbA hS (i := x8) (vp_of (by omega) (by omega)) dL_law_418 ?_
  refine lv_topi (fun x9 ex9 => ?_)
  refine M0e hT (fun _ _ _ _ _ _ _ _ _ _ _ _ _ _ _ _ _ _ _ _ _ _ _ _ _ _ _ _ _ _ _ _ _ _ hf_me _ _ _ _ _ _ _ _ _ _ _ _ _ _ _ _ _ _ _ _ _ _ _ _ _ _ _ _ _ _ _ _ _ _ _ _ _ _ _ _ _ => ?_)
  refine call_i (run_V (rm := rm_X11_rule) hx hb hml hown hts (s_X11_rule l g ad th _ _ _ x9 hst hT hM) cV_X11_rule wg_1748 ⟨Nat.le_of_ble_eq_true rfl, Nat.le_of_ble_eq_true rfl⟩ hG hE hA hP hD hS (hst.1 255 (by decide)) hf_me rfl rfl hl.1 (As := [.int x9]) (rest := []) rfl (Nat.le_of_ble_eq_true rfl) dL_law_419 ⟨by show 1000 + k + 0 + 0 ≤ 601024; omega, by show 200000 + 6 * k + 0 + 0 ≤ 7293034; omega⟩) hA hD hS (fun r10 L11 f12 H locs hp13 hP hD hS => ?_)
  obtain ⟨e14L, e14T, _⟩ := hp13
  have e14L : L11 = L := e14L
  obtain ⟨th15, e14I, hT⟩ := e14T
  rw [e14L] at hP hD
  have hC := hC.m e14I.2
  have hM := e14I.1
  revert hT hC hM
  generalize th15 = th
  intro hT hC hM
  refine lv_pop hx hb dL_law_422 rfl ?_
  refine lv_goto (tgt := 1333) hx hb dL_law_423 (by decide) ?_
  refine W.widen (k := 1001 + k) (n := 200006 + 6 * k) (by show 1000 + k + 0 + 0 ≤ _; omega) (by show 200000 + 6 * k + 0 + 0 ≤ _; omega) ?_
  exact K _ _ _ _ _ hT hC hM hP hD hS (lv_sub hl [0, 1, 2, 3, 4] rfl)

set_option maxHeartbeats 4000000 in
set_option maxRecDepth 100000 in
theorem law_c6 {p : Program} {e : Env} {s : State} {m : MethodId} {below : List Frame} {meth : Method} {c : Code} (l : Launch) {b LL : Nat} {xs : Nat → Int32} (C0 : lw_At p s m meth c b LL xs) (htr : l.stackTraces = false) {g : GG} (hG : GK g s) (hE : SW g (fun q : Nat => s.heap.size ≤ q) s s.heap) {L : List Nat} {ad : Nat → Nat} (hst : ST ad L) {th : Nat → Int} {f : HP} {H : Heap} {locs : List Loc} {ls : Array Slot} {i : Int32} {k : Nat} (hk : k ≤ 511) (hi0 : 0 ≤ i.toInt) (hi : i.toInt + 6 ≤ (LL : Int)) (hLL : LL ≤ 3072) (hT : TI g ad th f) (hC : CIv th) (hM : MI th) (hP : va_P g.1 vwCl (va_pl L f) H) (hD : va_D (fun q : Nat => s.heap.size ≤ q) (va_pl L f)) (hS : va_S (fun q : Nat => s.heap.size ≤ q) s.heap H locs) (hl : lv_has ls 7 [(4, .int i), (3, .ref (ad 278)), (2, .ref (ad 255)), (1, .ref (ad 0)), (0, .ref b)]) (K : ∀ (th : Nat → Int) (f : HP) (H : Heap) (locs : List Loc) (ls : Array Slot), TI g ad th f → CIv th → MI th → va_P g.1 vwCl (va_pl L f) H → va_D (fun q : Nat => s.heap.size ≤ q) (va_pl L f) → va_S (fun q : Nat => s.heap.size ≤ q) s.heap H locs → lv_has ls 7 [(4, .int i), (3, .ref (ad 278)), (2, .ref (ad 255)), (1, .ref (ad 0)), (0, .ref b)] → W p l e room_1 s m #[Value.ref b] below meth c H locs (1001 + k) (200006 + 6 * k) (lw_Z below #[Value.ref b] s) (F0 m 1333 ls [])) : W p l e room_1 s m #[Value.ref b] below meth c H locs (1000 + k) (200000 + 6 * k) (lw_Z below #[Value.ref b] s) (F0 m 426 ls []) := by
  obtain ⟨hx, hb, hr, hml, hown, hts0, hXs, hbl, hlocks, hgv⟩ := C0
  have hown : s.vm.findClass "RulerWordLaw" = some m.cls := hown
  have hts := hts1 hts0
  have hA : ∀ q, s.heap.size ≤ q → (fun q : Nat => s.heap.size ≤ q) q := fun _ h => h
  have hbA : ¬ (fun q : Nat => s.heap.size ≤ q) b := Nat.not_le.mpr hbl
  refine lv_aload_n hx hb dL_law_426 rfl (lv_at hl 3 rfl) ?_
  refine lv_aload_n hx hb dL_law_427 rfl (lv_at hl 4 rfl) ?_
  refine lv_iload hx hb dL_law_428 (lv_at hl 0 rfl) ?_
  refine lv_iconst (v := 1) hx hb dL_law_430 (by decide) ?_
  refine lv_iadd hx hb dL_law_431 ?_
  refine lv_topi (fun x1 ex1 => ?_)
  have hx1 : x1.toInt = i.toInt + 1 := In.adde (a := 0) (b := 3072) ex1 ⟨hi0, by omega⟩ (k := 1) (by decide) (by decide) (by decide)
  refine va_sld hx hb hXs hbl hbA hS (i := x1) (vp_of (by omega) (by omega)) dL_law_432 ?_
  refine lv_topi (fun x2 ex2 => ?_)
  refine lv_aload_n hx hb dL_law_433 rfl (lv_at hl 4 rfl) ?_
  refine lv_iload hx hb dL_law_434 (lv_at hl 0 rfl) ?_
  refine lv_iconst (v := 2) hx hb dL_law_436 (by decide) ?_
  refine lv_iadd hx hb dL_law_437 ?_
  refine lv_topi (fun x3 ex3 => ?_)
  have hx3 : x3.toInt = i.toInt + 2 := In.adde (a := 0) (b := 3072) ex3 ⟨hi0, by omega⟩ (k := 2) (by decide) (by decide) (by decide)
  refine va_sld hx hb hXs hbl hbA hS (i := x3) (vp_of (by omega) (by omega)) dL_law_438 ?_
  refine lv_topi (fun x4 ex4 => ?_)
  refine lv_aload_n hx hb dL_law_439 rfl (lv_at hl 1 rfl) ?_
  refine call_i (run_SW (n := 4) (rm := { frames := 7, cells := 1, slots := 6, locals := 103 }) (hh := hhL) hx hb hml hown hts (k_L_line l htr g ad th _ _ _ x2 x4 hst hT) (mG 1258 (by decide +kernel) rfl) wg_156 wg_1257 ⟨by decide +kernel, by decide +kernel, by decide +kernel⟩ wg_1256 ⟨Nat.le_of_ble_eq_true rfl, Nat.le_of_ble_eq_true rfl⟩ hG hE hA hP hD hS rfl hl.1 (As := [.ref (ad 0), .int x2, .int x4, .ref (ad 278)]) (rest := []) rfl (Nat.le_of_ble_eq_true rfl) dL_law_440 ⟨by show 1000 + k + 1 ≤ 601024; omega, by show 200000 + 6 * k + 6 ≤ 7293034; omega⟩) hA hD hS (fun rS LS fS H locs hpS hP hD hS => ?_)
  obtain ⟨eSL, eST⟩ := hpS
  have eSL : LS = L := eSL
  have hT : TI g ad th fS := eST
  rw [eSL] at hP hD
  refine lv_istore (lv' := [(5, .int rS), (4, .int i), (3, .ref (ad 278)), (2, .ref (ad 255)), (1, .ref (ad 0)), (0, .ref b)]) hx hb dL_law_443 hl (by decide) rfl (fun ls hl => ?_)
  refine lv_aload_n hx hb dL_law_445 rfl (lv_at hl 3 rfl) ?_
  refine lv_aload_n hx hb dL_law_446 rfl (lv_at hl 5 rfl) ?_
  refine lv_iload hx hb dL_law_447 (lv_at hl 1 rfl) ?_
  refine lv_iconst (v := 1) hx hb dL_law_449 (by decide) ?_
  refine lv_iadd hx hb dL_law_450 ?_
  refine lv_topi (fun x5 ex5 => ?_)
  have hx5 : x5.toInt = i.toInt + 1 := In.adde (a := 0) (b := 3072) ex5 ⟨hi0, by omega⟩ (k := 1) (by decide) (by decide) (by decide)
  refine va_sld hx hb hXs hbl hbA hS (i := x5) (vp_of (by omega) (by omega)) dL_law_451 ?_
  refine lv_topi (fun x6 ex6 => ?_)
  refine lv_aload_n hx hb dL_law_452 rfl (lv_at hl 5 rfl) ?_
  refine lv_iload hx hb dL_law_453 (lv_at hl 1 rfl) ?_
  refine lv_iconst (v := 2) hx hb dL_law_455 (by decide) ?_
  refine lv_iadd hx hb dL_law_456 ?_
  refine lv_topi (fun x7 ex7 => ?_)
  have hx7 : x7.toInt = i.toInt + 2 := In.adde (a := 0) (b := 3072) ex7 ⟨hi0, by omega⟩ (k := 2) (by decide) (by decide) (by decide)
  refine va_sld hx hb hXs hbl hbA hS (i := x7) (vp_of (by omega) (by omega)) dL_law_457 ?_
  refine lv_topi (fun x8 ex8 => ?_)
  refine M0e hT (fun _ _ _ _ _ _ _ _ _ _ _ _ _ _ _ _ _ _ _ _ _ _ _ _ _ _ _ _ _ _ _ _ _ _ hf_me _ _ _ _ _ _ _ _ _ _ _ _ _ _ _ _ _ _ _ _ _ _ _ _ _ _ _ _ _ _ _ _ _ _ _ _ _ _ _ _ _ => ?_)
  refine call_i (run_V (rm := rm_X11_line) hx hb hml hown hts (s_X11_line l g ad th _ _ _ x6 x8 hst hT ) cV_X11_line wg_1753 ⟨Nat.le_of_ble_eq_true rfl, Nat.le_of_ble_eq_true rfl⟩ hG hE hA hP hD hS (hst.1 255 (by decide)) hf_me rfl rfl hl.1 (As := [.int x6, .int x8]) (rest := []) rfl (Nat.le_of_ble_eq_true rfl) dL_law_458 ⟨by show 1000 + k + 1 + 0 ≤ 601024; omega, by show 200000 + 6 * k + 6 + 0 ≤ 7293034; omega⟩) hA hD hS (fun r9 L10 f11 H locs hp12 hP hD hS => ?_)
  obtain ⟨e13L, e13T, _⟩ := hp12
  have e13L : L10 = L := e13L
  have hT : TI g ad _ f11 := e13T
  rw [e13L] at hP hD
  refine lv_istore (lv' := [(6, .int r9), (5, .int rS), (4, .int i), (3, .ref (ad 278)), (2, .ref (ad 255)), (1, .ref (ad 0)), (0, .ref b)]) hx hb dL_law_461 hl (by decide) rfl (fun ls hl => ?_)
  refine lv_goto (tgt := 1333) hx hb dL_law_463 (by decide) ?_
  refine W.widen (k := 1001 + k) (n := 200006 + 6 * k) (by show 1000 + k + 1 + 0 ≤ _; omega) (by show 200000 + 6 * k + 6 + 0 ≤ _; omega) ?_
  exact K _ _ _ _ _ hT hC hM hP hD hS (lv_sub hl [2, 3, 4, 5, 6] rfl)

set_option maxHeartbeats 4000000 in
set_option maxRecDepth 100000 in
theorem law_c7 {p : Program} {e : Env} {s : State} {m : MethodId} {below : List Frame} {meth : Method} {c : Code} (l : Launch) {b LL : Nat} {xs : Nat → Int32} (C0 : lw_At p s m meth c b LL xs) (htr : l.stackTraces = false) {g : GG} (hG : GK g s) (hE : SW g (fun q : Nat => s.heap.size ≤ q) s s.heap) {L : List Nat} {ad : Nat → Nat} (hst : ST ad L) {th : Nat → Int} {f : HP} {H : Heap} {locs : List Loc} {ls : Array Slot} {i : Int32} {k : Nat} (hk : k ≤ 511) (hi0 : 0 ≤ i.toInt) (hi : i.toInt + 6 ≤ (LL : Int)) (hLL : LL ≤ 3072) (hT : TI g ad th f) (hC : CIv th) (hM : MI th) (hP : va_P g.1 vwCl (va_pl L f) H) (hD : va_D (fun q : Nat => s.heap.size ≤ q) (va_pl L f)) (hS : va_S (fun q : Nat => s.heap.size ≤ q) s.heap H locs) (hl : lv_has ls 7 [(4, .int i), (3, .ref (ad 278)), (2, .ref (ad 255)), (1, .ref (ad 0)), (0, .ref b)]) (K : ∀ (th : Nat → Int) (f : HP) (H : Heap) (locs : List Loc) (ls : Array Slot), TI g ad th f → CIv th → MI th → va_P g.1 vwCl (va_pl L f) H → va_D (fun q : Nat => s.heap.size ≤ q) (va_pl L f) → va_S (fun q : Nat => s.heap.size ≤ q) s.heap H locs → lv_has ls 7 [(4, .int i), (3, .ref (ad 278)), (2, .ref (ad 255)), (1, .ref (ad 0)), (0, .ref b)] → W p l e room_1 s m #[Value.ref b] below meth c H locs (1001 + k) (200006 + 6 * k) (lw_Z below #[Value.ref b] s) (F0 m 1333 ls [])) : W p l e room_1 s m #[Value.ref b] below meth c H locs (1000 + k) (200000 + 6 * k) (lw_Z below #[Value.ref b] s) (F0 m 466 ls []) := by
  obtain ⟨hx, hb, hr, hml, hown, hts0, hXs, hbl, hlocks, hgv⟩ := C0
  have hown : s.vm.findClass "RulerWordLaw" = some m.cls := hown
  have hts := hts1 hts0
  have hA : ∀ q, s.heap.size ≤ q → (fun q : Nat => s.heap.size ≤ q) q := fun _ h => h
  have hbA : ¬ (fun q : Nat => s.heap.size ≤ q) b := Nat.not_le.mpr hbl
  refine lv_aload_n hx hb dL_law_466 rfl (lv_at hl 3 rfl) ?_
  obtain ⟨_, _, _, hf_me, _, _, _⟩ := hT.1 0 (by decide)
  refine call_i (run_V (rm := rm_X10_round) hx hb hml hown hts (s_X10_round l g ad th _ _ _  hst hT hC) cV_X10_round wg_747 ⟨Nat.le_of_ble_eq_true rfl, Nat.le_of_ble_eq_true rfl⟩ hG hE hA hP hD hS (hst.1 0 (by decide)) hf_me rfl rfl hl.1 (As := []) (rest := []) rfl (Nat.le_of_ble_eq_true rfl) dL_law_467 ⟨by show 1000 + k + 0 ≤ 601024; omega, by show 200000 + 6 * k + 0 ≤ 7293034; omega⟩) hA hD hS (fun r1 L2 f3 H locs hp4 hP hD hS => ?_)
  obtain ⟨e5L, e5T⟩ := hp4
  have e5L : L2 = L := e5L
  obtain ⟨th6, e5I, hT⟩ := e5T
  rw [e5L] at hP hD
  have hM1 := hM.c e5I.2
  have hC := e5I.1
  have hM := hM1
  revert hT hC hM
  generalize th6 = th
  intro hT hC hM
  refine lv_pop hx hb dL_law_470 rfl ?_
  refine lv_aload_n hx hb dL_law_471 rfl (lv_at hl 2 rfl) ?_
  refine M0e hT (fun _ _ _ _ _ _ _ _ _ _ _ _ _ _ _ _ _ _ _ _ _ _ _ _ _ _ _ _ _ _ _ _ _ _ hf_me _ _ _ _ _ _ _ _ _ _ _ _ _ _ _ _ _ _ _ _ _ _ _ _ _ _ _ _ _ _ _ _ _ _ _ _ _ _ _ _ _ => ?_)
  refine call_i (run_V (rm := rm_X11_round) hx hb hml hown hts (s_X11_round l g ad th _ _ _  hst hT hM) cV_X11_round wg_1628 ⟨Nat.le_of_ble_eq_true rfl, Nat.le_of_ble_eq_true rfl⟩ hG hE hA hP hD hS (hst.1 255 (by decide)) hf_me rfl rfl hl.1 (As := []) (rest := []) rfl (Nat.le_of_ble_eq_true rfl) dL_law_472 ⟨by show 1000 + k + 0 + 0 ≤ 601024; omega, by show 200000 + 6 * k + 0 + 0 ≤ 7293034; omega⟩) hA hD hS (fun r7 L8 f9 H locs hp10 hP hD hS => ?_)
  obtain ⟨e11L, e11T⟩ := hp10
  have e11L : L8 = L := e11L
  obtain ⟨th12, e11I, hT⟩ := e11T
  rw [e11L] at hP hD
  have hC := hC.m e11I.2
  have hM := e11I.1
  revert hT hC hM
  generalize th12 = th
  intro hT hC hM
  refine lv_pop hx hb dL_law_475 rfl ?_
  refine lv_goto (tgt := 1333) hx hb dL_law_476 (by decide) ?_
  refine W.widen (k := 1001 + k) (n := 200006 + 6 * k) (by show 1000 + k + 0 + 0 ≤ _; omega) (by show 200000 + 6 * k + 0 + 0 ≤ _; omega) ?_
  exact K _ _ _ _ _ hT hC hM hP hD hS (lv_sub hl [0, 1, 2, 3, 4] rfl)

set_option maxHeartbeats 4000000 in
set_option maxRecDepth 100000 in
theorem law_c8 {p : Program} {e : Env} {s : State} {m : MethodId} {below : List Frame} {meth : Method} {c : Code} (l : Launch) {b LL : Nat} {xs : Nat → Int32} (C0 : lw_At p s m meth c b LL xs) (htr : l.stackTraces = false) {g : GG} (hG : GK g s) (hE : SW g (fun q : Nat => s.heap.size ≤ q) s s.heap) {L : List Nat} {ad : Nat → Nat} (hst : ST ad L) {th : Nat → Int} {f : HP} {H : Heap} {locs : List Loc} {ls : Array Slot} {i : Int32} {k : Nat} (hk : k ≤ 511) (hi0 : 0 ≤ i.toInt) (hi : i.toInt + 6 ≤ (LL : Int)) (hLL : LL ≤ 3072) (hT : TI g ad th f) (hC : CIv th) (hM : MI th) (hP : va_P g.1 vwCl (va_pl L f) H) (hD : va_D (fun q : Nat => s.heap.size ≤ q) (va_pl L f)) (hS : va_S (fun q : Nat => s.heap.size ≤ q) s.heap H locs) (hl : lv_has ls 7 [(4, .int i), (3, .ref (ad 278)), (2, .ref (ad 255)), (1, .ref (ad 0)), (0, .ref b)]) (K : ∀ (th : Nat → Int) (f : HP) (H : Heap) (locs : List Loc) (ls : Array Slot), TI g ad th f → CIv th → MI th → va_P g.1 vwCl (va_pl L f) H → va_D (fun q : Nat => s.heap.size ≤ q) (va_pl L f) → va_S (fun q : Nat => s.heap.size ≤ q) s.heap H locs → lv_has ls 7 [(4, .int i), (3, .ref (ad 278)), (2, .ref (ad 255)), (1, .ref (ad 0)), (0, .ref b)] → W p l e room_1 s m #[Value.ref b] below meth c H locs (1001 + k) (200006 + 6 * k) (lw_Z below #[Value.ref b] s) (F0 m 1333 ls [])) : W p l e room_1 s m #[Value.ref b] below meth c H locs (1000 + k) (200000 + 6 * k) (lw_Z below #[Value.ref b] s) (F0 m 479 ls []) := by
  obtain ⟨hx, hb, hr, hml, hown, hts0, hXs, hbl, hlocks, hgv⟩ := C0
  have hown : s.vm.findClass "RulerWordLaw" = some m.cls := hown
  have hts := hts1 hts0
  have hA : ∀ q, s.heap.size ≤ q → (fun q : Nat => s.heap.size ≤ q) q := fun _ h => h
  have hbA : ¬ (fun q : Nat => s.heap.size ≤ q) b := Nat.not_le.mpr hbl
  refine lv_aload_n hx hb dL_law_479 rfl (lv_at hl 3 rfl) ?_
  obtain ⟨_, _, _, hf_me, _, _, _⟩ := hT.1 0 (by decide)
  refine call_i (run_V (rm := rm_X10_run) hx hb hml hown hts (s_X10_run l g ad th _ _ _  hst hT hC) cV_X10_run wg_881 ⟨Nat.le_of_ble_eq_true rfl, Nat.le_of_ble_eq_true rfl⟩ hG hE hA hP hD hS (hst.1 0 (by decide)) hf_me rfl rfl hl.1 (As := []) (rest := []) rfl (Nat.le_of_ble_eq_true rfl) dL_law_480 ⟨by show 1000 + k + 0 ≤ 601024; omega, by show 200000 + 6 * k + 0 ≤ 7293034; omega⟩) hA hD hS (fun r1 L2 f3 H locs hp4 hP hD hS => ?_)
  obtain ⟨e5L, e5T⟩ := hp4
  have e5L : L2 = L := e5L
  obtain ⟨th6, e5I, hT⟩ := e5T
  rw [e5L] at hP hD
  have hM1 := hM.c e5I.2
  have hC := e5I.1
  have hM := hM1
  revert hT hC hM
  generalize th6 = th
  intro hT hC hM
  refine lv_pop hx hb dL_law_483 rfl ?_
  refine lv_aload_n hx hb dL_law_484 rfl (lv_at hl 2 rfl) ?_
  refine M0e hT (fun _ _ _ _ _ _ _ _ _ _ _ _ _ _ _ _ _ _ _ _ _ _ _ _ _ _ _ _ _ _ _ _ _ _ hf_me _ _ _ _ _ _ _ _ _ _ _ _ _ _ _ _ _ _ _ _ _ _ _ _ _ _ _ _ _ _ _ _ _ _ _ _ _ _ _ _ _ => ?_)
  refine call_i (run_V (rm := rm_X11_run) hx hb hml hown hts (s_X11_run l g ad th _ _ _  hst hT hM) cV_X11_run wg_1702 ⟨Nat.le_of_ble_eq_true rfl, Nat.le_of_ble_eq_true rfl⟩ hG hE hA hP hD hS (hst.1 255 (by decide)) hf_me rfl rfl hl.1 (As := []) (rest := []) rfl (Nat.le_of_ble_eq_true rfl) dL_law_485 ⟨by show 1000 + k + 0 + 0 ≤ 601024; omega, by show 200000 + 6 * k + 0 + 0 ≤ 7293034; omega⟩) hA hD hS (fun r7 L8 f9 H locs hp10 hP hD hS => ?_)
  obtain ⟨e11L, e11T⟩ := hp10
  have e11L : L8 = L := e11L
  obtain ⟨th12, e11I, hT⟩ := e11T
  rw [e11L] at hP hD
  have hC := hC.m e11I.2
  have hM := e11I.1
  revert hT hC hM
  generalize th12 = th
  intro hT hC hM
  refine lv_pop hx hb dL_law_488 rfl ?_
  refine lv_goto (tgt := 1333) hx hb dL_law_489 (by decide) ?_
  refine W.widen (k := 1001 + k) (n := 200006 + 6 * k) (by show 1000 + k + 0 + 0 ≤ _; omega) (by show 200000 + 6 * k + 0 + 0 ≤ _; omega) ?_
  exact K _ _ _ _ _ hT hC hM hP hD hS (lv_sub hl [0, 1, 2, 3, 4] rfl)

set_option maxHeartbeats 4000000 in
set_option maxRecDepth 100000 in
theorem law_c9 {p : Program} {e : Env} {s : State} {m : MethodId} {below : List Frame} {meth : Method} {c : Code} (l : Launch) {b LL : Nat} {xs : Nat → Int32} (C0 : lw_At p s m meth c b LL xs) (htr : l.stackTraces = false) {g : GG} (hG : GK g s) (hE : SW g (fun q : Nat => s.heap.size ≤ q) s s.heap) {L : List Nat} {ad : Nat → Nat} (hst : ST ad L) {th : Nat → Int} {f : HP} {H : Heap} {locs : List Loc} {ls : Array Slot} {i : Int32} {k : Nat} (hk : k ≤ 511) (hi0 : 0 ≤ i.toInt) (hi : i.toInt + 6 ≤ (LL : Int)) (hLL : LL ≤ 3072) (hT : TI g ad th f) (hC : CIv th) (hM : MI th) (hP : va_P g.1 vwCl (va_pl L f) H) (hD : va_D (fun q : Nat => s.heap.size ≤ q) (va_pl L f)) (hS : va_S (fun q : Nat => s.heap.size ≤ q) s.heap H locs) (hl : lv_has ls 7 [(4, .int i), (3, .ref (ad 278)), (2, .ref (ad 255)), (1, .ref (ad 0)), (0, .ref b)]) (K : ∀ (th : Nat → Int) (f : HP) (H : Heap) (locs : List Loc) (ls : Array Slot), TI g ad th f → CIv th → MI th → va_P g.1 vwCl (va_pl L f) H → va_D (fun q : Nat => s.heap.size ≤ q) (va_pl L f) → va_S (fun q : Nat => s.heap.size ≤ q) s.heap H locs → lv_has ls 7 [(4, .int i), (3, .ref (ad 278)), (2, .ref (ad 255)), (1, .ref (ad 0)), (0, .ref b)] → W p l e room_1 s m #[Value.ref b] below meth c H locs (1001 + k) (200006 + 6 * k) (lw_Z below #[Value.ref b] s) (F0 m 1333 ls [])) : W p l e room_1 s m #[Value.ref b] below meth c H locs (1000 + k) (200000 + 6 * k) (lw_Z below #[Value.ref b] s) (F0 m 492 ls []) := by
  obtain ⟨hx, hb, hr, hml, hown, hts0, hXs, hbl, hlocks, hgv⟩ := C0
  have hown : s.vm.findClass "RulerWordLaw" = some m.cls := hown
  have hts := hts1 hts0
  have hA : ∀ q, s.heap.size ≤ q → (fun q : Nat => s.heap.size ≤ q) q := fun _ h => h
  have hbA : ¬ (fun q : Nat => s.heap.size ≤ q) b := Nat.not_le.mpr hbl
  refine lv_aload_n hx hb dL_law_492 rfl (lv_at hl 3 rfl) ?_
  refine lv_aload_n hx hb dL_law_493 rfl (lv_at hl 4 rfl) ?_
  refine lv_iload hx hb dL_law_494 (lv_at hl 0 rfl) ?_
  refine lv_iconst (v := 1) hx hb dL_law_496 (by decide) ?_
  refine lv_iadd hx hb dL_law_497 ?_
  refine lv_topi (fun x1 ex1 => ?_)
  have hx1 : x1.toInt = i.toInt + 1 := In.adde (a := 0) (b := 3072) ex1 ⟨hi0, by omega⟩ (k := 1) (by decide) (by decide) (by decide)
  refine va_sld hx hb hXs hbl hbA hS (i := x1) (vp_of (by omega) (by omega)) dL_law_498 ?_
  refine lv_topi (fun x2 ex2 => ?_)
  refine lv_aload_n hx hb dL_law_499 rfl (lv_at hl 4 rfl) ?_
  refine lv_iload hx hb dL_law_500 (lv_at hl 0 rfl) ?_
  refine lv_iconst (v := 2) hx hb dL_law_502 (by decide) ?_
  refine lv_iadd hx hb dL_law_503 ?_
  refine lv_topi (fun x3 ex3 => ?_)
  have hx3 : x3.toInt = i.toInt + 2 := In.adde (a := 0) (b := 3072) ex3 ⟨hi0, by omega⟩ (k := 2) (by decide) (by decide) (by decide)
  refine va_sld hx hb hXs hbl hbA hS (i := x3) (vp_of (by omega) (by omega)) dL_law_504 ?_
  refine lv_topi (fun x4 ex4 => ?_)
  refine lv_aload_n hx hb dL_law_505 rfl (lv_at hl 4 rfl) ?_
  refine lv_iload hx hb dL_law_506 (lv_at hl 0 rfl) ?_
  refine lv_iconst (v := 3) hx hb dL_law_508 (by decide) ?_
  refine lv_iadd hx hb dL_law_509 ?_
  refine lv_topi (fun x5 ex5 => ?_)
  have hx5 : x5.toInt = i.toInt + 3 := In.adde (a := 0) (b := 3072) ex5 ⟨hi0, by omega⟩ (k := 3) (by decide) (by decide) (by decide)
  refine va_sld hx hb hXs hbl hbA hS (i := x5) (vp_of (by omega) (by omega)) dL_law_510 ?_
  refine lv_topi (fun x6 ex6 => ?_)
  refine lv_aload_n hx hb dL_law_511 rfl (lv_at hl 4 rfl) ?_
  refine lv_iload hx hb dL_law_512 (lv_at hl 0 rfl) ?_
  refine lv_iconst (v := 4) hx hb dL_law_514 (by decide) ?_
  refine lv_iadd hx hb dL_law_515 ?_
  refine lv_topi (fun x7 ex7 => ?_)
  have hx7 : x7.toInt = i.toInt + 4 := In.adde (a := 0) (b := 3072) ex7 ⟨hi0, by omega⟩ (k := 4) (by decide) (by decide) (by decide)
  refine va_sld hx hb hXs hbl hbA hS (i := x7) (vp_of (by omega) (by omega)) dL_law_516 ?_
  refine lv_topi (fun x8 ex8 => ?_)
  refine lv_aload_n hx hb dL_law_517 rfl (lv_at hl 4 rfl) ?_
  refine lv_iload hx hb dL_law_518 (lv_at hl 0 rfl) ?_
  refine lv_iconst (v := 5) hx hb dL_law_520 (by decide) ?_
  refine lv_iadd hx hb dL_law_521 ?_
  refine lv_topi (fun x9 ex9 => ?_)
  have hx9 : x9.toInt = i.toInt + 5 := In.adde (a := 0) (b := 3072) ex9 ⟨hi0, by omega⟩ (k := 5) (by decide) (by decide) (by decide)
  refine va_sld hx hb hXs hbl hbA hS (i := x9) (vp_of (by omega) (by omega)) dL_law_522 ?_
  refine lv_topi (fun x10 ex10 => ?_)
  obtain ⟨_, _, _, hf_me, _, _, _⟩ := hT.1 0 (by decide)
  refine call_i (run_V (rm := rm_X10_say) hx hb hml hown hts (s_X10_say l g ad th _ _ _ x2 x4 x6 x8 x10 hst hT hC) cV_X10_say wg_885 ⟨Nat.le_of_ble_eq_true rfl, Nat.le_of_ble_eq_true rfl⟩ hG hE hA hP hD hS (hst.1 0 (by decide)) hf_me rfl rfl hl.1 (As := [.int x2, .int x4, .int x6, .int x8, .int x10]) (rest := []) rfl (Nat.le_of_ble_eq_true rfl) dL_law_523 ⟨by show 1000 + k + 0 ≤ 601024; omega, by show 200000 + 6 * k + 0 ≤ 7293034; omega⟩) hA hD hS (fun r11 L12 f13 H locs hp14 hP hD hS => ?_)
  obtain ⟨e15L, e15T⟩ := hp14
  have e15L : L12 = L := e15L
  obtain ⟨th16, e15I, hT⟩ := e15T
  rw [e15L] at hP hD
  have hM1 := hM.c e15I.2
  have hC := e15I.1
  have hM := hM1
  revert hT hC hM
  generalize th16 = th
  intro hT hC hM
  refine lv_pop hx hb dL_law_526 rfl ?_
  refine lv_aload_n hx hb dL_law_527 rfl (lv_at hl 2 rfl) ?_
  refine lv_aload_n hx hb dL_law_528 rfl (lv_at hl 4 rfl) ?_
  refine lv_iload hx hb dL_law_529 (lv_at hl 0 rfl) ?_
  refine lv_iconst (v := 1) hx hb dL_law_531 (by decide) ?_
  refine lv_iadd hx hb dL_law_532 ?_
  refine lv_topi (fun x17 ex17 => ?_)
  have hx17 : x17.toInt = i.toInt + 1 := In.adde (a := 0) (b := 3072) ex17 ⟨hi0, by omega⟩ (k := 1) (by decide) (by decide) (by decide)
  refine va_sld hx hb hXs hbl hbA hS (i := x17) (vp_of (by omega) (by omega)) dL_law_533 ?_
  refine lv_topi (fun x18 ex18 => ?_)
  refine lv_aload_n hx hb dL_law_534 rfl (lv_at hl 4 rfl) ?_
  refine lv_iload hx hb dL_law_535 (lv_at hl 0 rfl) ?_
  refine lv_iconst (v := 2) hx hb dL_law_537 (by decide) ?_
  refine lv_iadd hx hb dL_law_538 ?_
  refine lv_topi (fun x19 ex19 => ?_)
  have hx19 : x19.toInt = i.toInt + 2 := In.adde (a := 0) (b := 3072) ex19 ⟨hi0, by omega⟩ (k := 2) (by decide) (by decide) (by decide)
  refine va_sld hx hb hXs hbl hbA hS (i := x19) (vp_of (by omega) (by omega)) dL_law_539 ?_
  refine lv_topi (fun x20 ex20 => ?_)
  refine lv_aload_n hx hb dL_law_540 rfl (lv_at hl 4 rfl) ?_
  refine lv_iload hx hb dL_law_541 (lv_at hl 0 rfl) ?_
  refine lv_iconst (v := 3) hx hb dL_law_543 (by decide) ?_
  refine lv_iadd hx hb dL_law_544 ?_
  refine lv_topi (fun x21 ex21 => ?_)
  have hx21 : x21.toInt = i.toInt + 3 := In.adde (a := 0) (b := 3072) ex21 ⟨hi0, by omega⟩ (k := 3) (by decide) (by decide) (by decide)
  refine va_sld hx hb hXs hbl hbA hS (i := x21) (vp_of (by omega) (by omega)) dL_law_545 ?_
  refine lv_topi (fun x22 ex22 => ?_)
  refine lv_aload_n hx hb dL_law_546 rfl (lv_at hl 4 rfl) ?_
  refine lv_iload hx hb dL_law_547 (lv_at hl 0 rfl) ?_
  refine lv_iconst (v := 4) hx hb dL_law_549 (by decide) ?_
  refine lv_iadd hx hb dL_law_550 ?_
  refine lv_topi (fun x23 ex23 => ?_)
  have hx23 : x23.toInt = i.toInt + 4 := In.adde (a := 0) (b := 3072) ex23 ⟨hi0, by omega⟩ (k := 4) (by decide) (by decide) (by decide)
  refine va_sld hx hb hXs hbl hbA hS (i := x23) (vp_of (by omega) (by omega)) dL_law_551 ?_
  refine lv_topi (fun x24 ex24 => ?_)
  refine lv_aload_n hx hb dL_law_552 rfl (lv_at hl 4 rfl) ?_
  refine lv_iload hx hb dL_law_553 (lv_at hl 0 rfl) ?_
  refine lv_iconst (v := 5) hx hb dL_law_555 (by decide) ?_
  refine lv_iadd hx hb dL_law_556 ?_
  refine lv_topi (fun x25 ex25 => ?_)
  have hx25 : x25.toInt = i.toInt + 5 := In.adde (a := 0) (b := 3072) ex25 ⟨hi0, by omega⟩ (k := 5) (by decide) (by decide) (by decide)
  refine va_sld hx hb hXs hbl hbA hS (i := x25) (vp_of (by omega) (by omega)) dL_law_557 ?_
  refine lv_topi (fun x26 ex26 => ?_)
  refine M0e hT (fun _ _ _ _ _ _ _ _ _ _ _ _ _ _ _ _ _ _ _ _ _ _ _ _ _ _ _ _ _ _ _ _ _ _ hf_me _ _ _ _ _ _ _ _ _ _ _ _ _ _ _ _ _ _ _ _ _ _ _ _ _ _ _ _ _ _ _ _ _ _ _ _ _ _ _ _ _ => ?_)
  refine call_i (run_V (rm := rm_X11_say) hx hb hml hown hts (s_X11_say l g ad th _ _ _ x18 x20 x22 x24 x26 hst hT hM) cV_X11_say wg_1706 ⟨Nat.le_of_ble_eq_true rfl, Nat.le_of_ble_eq_true rfl⟩ hG hE hA hP hD hS (hst.1 255 (by decide)) hf_me rfl rfl hl.1 (As := [.int x18, .int x20, .int x22, .int x24, .int x26]) (rest := []) rfl (Nat.le_of_ble_eq_true rfl) dL_law_558 ⟨by show 1000 + k + 0 + 0 ≤ 601024; omega, by show 200000 + 6 * k + 0 + 0 ≤ 7293034; omega⟩) hA hD hS (fun r27 L28 f29 H locs hp30 hP hD hS => ?_)
  obtain ⟨e31L, e31T⟩ := hp30
  have e31L : L28 = L := e31L
  obtain ⟨th32, e31I, hT⟩ := e31T
  rw [e31L] at hP hD
  have hC := hC.m e31I.2
  have hM := e31I.1
  revert hT hC hM
  generalize th32 = th
  intro hT hC hM
  refine lv_pop hx hb dL_law_561 rfl ?_
  refine lv_goto (tgt := 1333) hx hb dL_law_562 (by decide) ?_
  refine W.widen (k := 1001 + k) (n := 200006 + 6 * k) (by show 1000 + k + 0 + 0 ≤ _; omega) (by show 200000 + 6 * k + 0 + 0 ≤ _; omega) ?_
  exact K _ _ _ _ _ hT hC hM hP hD hS (lv_sub hl [0, 1, 2, 3, 4] rfl)

set_option maxHeartbeats 4000000 in
set_option maxRecDepth 100000 in
theorem law_c10 {p : Program} {e : Env} {s : State} {m : MethodId} {below : List Frame} {meth : Method} {c : Code} (l : Launch) {b LL : Nat} {xs : Nat → Int32} (C0 : lw_At p s m meth c b LL xs) (htr : l.stackTraces = false) {g : GG} (hG : GK g s) (hE : SW g (fun q : Nat => s.heap.size ≤ q) s s.heap) {L : List Nat} {ad : Nat → Nat} (hst : ST ad L) {th : Nat → Int} {f : HP} {H : Heap} {locs : List Loc} {ls : Array Slot} {i : Int32} {k : Nat} (hk : k ≤ 511) (hi0 : 0 ≤ i.toInt) (hi : i.toInt + 6 ≤ (LL : Int)) (hLL : LL ≤ 3072) (hT : TI g ad th f) (hC : CIv th) (hM : MI th) (hP : va_P g.1 vwCl (va_pl L f) H) (hD : va_D (fun q : Nat => s.heap.size ≤ q) (va_pl L f)) (hS : va_S (fun q : Nat => s.heap.size ≤ q) s.heap H locs) (hl : lv_has ls 7 [(4, .int i), (3, .ref (ad 278)), (2, .ref (ad 255)), (1, .ref (ad 0)), (0, .ref b)]) (K : ∀ (th : Nat → Int) (f : HP) (H : Heap) (locs : List Loc) (ls : Array Slot), TI g ad th f → CIv th → MI th → va_P g.1 vwCl (va_pl L f) H → va_D (fun q : Nat => s.heap.size ≤ q) (va_pl L f) → va_S (fun q : Nat => s.heap.size ≤ q) s.heap H locs → lv_has ls 7 [(4, .int i), (3, .ref (ad 278)), (2, .ref (ad 255)), (1, .ref (ad 0)), (0, .ref b)] → W p l e room_1 s m #[Value.ref b] below meth c H locs (1001 + k) (200006 + 6 * k) (lw_Z below #[Value.ref b] s) (F0 m 1333 ls [])) : W p l e room_1 s m #[Value.ref b] below meth c H locs (1000 + k) (200000 + 6 * k) (lw_Z below #[Value.ref b] s) (F0 m 565 ls []) := by
  obtain ⟨hx, hb, hr, hml, hown, hts0, hXs, hbl, hlocks, hgv⟩ := C0
  have hown : s.vm.findClass "RulerWordLaw" = some m.cls := hown
  have hts := hts1 hts0
  have hA : ∀ q, s.heap.size ≤ q → (fun q : Nat => s.heap.size ≤ q) q := fun _ h => h
  have hbA : ¬ (fun q : Nat => s.heap.size ≤ q) b := Nat.not_le.mpr hbl
  refine lv_aload_n hx hb dL_law_565 rfl (lv_at hl 3 rfl) ?_
  refine lv_aload_n hx hb dL_law_566 rfl (lv_at hl 4 rfl) ?_
  refine lv_iload hx hb dL_law_567 (lv_at hl 0 rfl) ?_
  refine lv_iconst (v := 1) hx hb dL_law_569 (by decide) ?_
  refine lv_iadd hx hb dL_law_570 ?_
  refine lv_topi (fun x1 ex1 => ?_)
  have hx1 : x1.toInt = i.toInt + 1 := In.adde (a := 0) (b := 3072) ex1 ⟨hi0, by omega⟩ (k := 1) (by decide) (by decide) (by decide)
  refine va_sld hx hb hXs hbl hbA hS (i := x1) (vp_of (by omega) (by omega)) dL_law_571 ?_
  refine lv_topi (fun x2 ex2 => ?_)
  obtain ⟨_, _, _, hf_me, _, _, _⟩ := hT.1 0 (by decide)
  refine call_i (run_V (rm := rm_X10_starts) hx hb hml hown hts (s_X10_starts l g ad th _ _ _ x2 hst hT hC) cV_X10_starts wg_914 ⟨Nat.le_of_ble_eq_true rfl, Nat.le_of_ble_eq_true rfl⟩ hG hE hA hP hD hS (hst.1 0 (by decide)) hf_me rfl rfl hl.1 (As := [.int x2]) (rest := []) rfl (Nat.le_of_ble_eq_true rfl) dL_law_572 ⟨by show 1000 + k + 0 ≤ 601024; omega, by show 200000 + 6 * k + 0 ≤ 7293034; omega⟩) hA hD hS (fun r3 L4 f5 H locs hp6 hP hD hS => ?_)
  obtain ⟨e7L, e7T⟩ := hp6
  have e7L : L4 = L := e7L
  obtain ⟨th8, e7I, hT⟩ := e7T
  rw [e7L] at hP hD
  have hM1 := hM.c e7I.2
  have hC := e7I.1
  have hM := hM1
  revert hT hC hM
  generalize th8 = th
  intro hT hC hM
  refine lv_pop hx hb dL_law_575 rfl ?_
  refine lv_aload_n hx hb dL_law_576 rfl (lv_at hl 2 rfl) ?_
  refine lv_aload_n hx hb dL_law_577 rfl (lv_at hl 4 rfl) ?_
  refine lv_iload hx hb dL_law_578 (lv_at hl 0 rfl) ?_
  refine lv_iconst (v := 1) hx hb dL_law_580 (by decide) ?_
  refine lv_iadd hx hb dL_law_581 ?_
  refine lv_topi (fun x9 ex9 => ?_)
  have hx9 : x9.toInt = i.toInt + 1 := In.adde (a := 0) (b := 3072) ex9 ⟨hi0, by omega⟩ (k := 1) (by decide) (by decide) (by decide)
  refine va_sld hx hb hXs hbl hbA hS (i := x9) (vp_of (by omega) (by omega)) dL_law_582 ?_
  refine lv_topi (fun x10 ex10 => ?_)
  refine M0e hT (fun _ _ _ _ _ _ _ _ _ _ _ _ _ _ _ _ _ _ _ _ _ _ _ _ _ _ _ _ _ _ _ _ _ _ hf_me _ _ _ _ _ _ _ _ _ _ _ _ _ _ _ _ _ _ _ _ _ _ _ _ _ _ _ _ _ _ _ _ _ _ _ _ _ _ _ _ _ => ?_)
  refine call_i (run_V (rm := rm_X11_starts_) hx hb hml hown hts (s_X11_starts_ l g ad th _ _ _ x10 hst hT hM) cV_X11_starts_ wg_1723 ⟨Nat.le_of_ble_eq_true rfl, Nat.le_of_ble_eq_true rfl⟩ hG hE hA hP hD hS (hst.1 255 (by decide)) hf_me rfl rfl hl.1 (As := [.int x10]) (rest := []) rfl (Nat.le_of_ble_eq_true rfl) dL_law_583 ⟨by show 1000 + k + 0 + 0 ≤ 601024; omega, by show 200000 + 6 * k + 0 + 0 ≤ 7293034; omega⟩) hA hD hS (fun r11 L12 f13 H locs hp14 hP hD hS => ?_)
  obtain ⟨e15L, e15T⟩ := hp14
  have e15L : L12 = L := e15L
  obtain ⟨th16, e15I, hT⟩ := e15T
  rw [e15L] at hP hD
  have hC := hC.m e15I.2
  have hM := e15I.1
  revert hT hC hM
  generalize th16 = th
  intro hT hC hM
  refine lv_pop hx hb dL_law_586 rfl ?_
  refine lv_goto (tgt := 1333) hx hb dL_law_587 (by decide) ?_
  refine W.widen (k := 1001 + k) (n := 200006 + 6 * k) (by show 1000 + k + 0 + 0 ≤ _; omega) (by show 200000 + 6 * k + 0 + 0 ≤ _; omega) ?_
  exact K _ _ _ _ _ hT hC hM hP hD hS (lv_sub hl [0, 1, 2, 3, 4] rfl)

set_option maxHeartbeats 4000000 in
set_option maxRecDepth 100000 in
theorem law_c11 {p : Program} {e : Env} {s : State} {m : MethodId} {below : List Frame} {meth : Method} {c : Code} (l : Launch) {b LL : Nat} {xs : Nat → Int32} (C0 : lw_At p s m meth c b LL xs) (htr : l.stackTraces = false) {g : GG} (hG : GK g s) (hE : SW g (fun q : Nat => s.heap.size ≤ q) s s.heap) {L : List Nat} {ad : Nat → Nat} (hst : ST ad L) {th : Nat → Int} {f : HP} {H : Heap} {locs : List Loc} {ls : Array Slot} {i : Int32} {k : Nat} (hk : k ≤ 511) (hi0 : 0 ≤ i.toInt) (hi : i.toInt + 6 ≤ (LL : Int)) (hLL : LL ≤ 3072) (hT : TI g ad th f) (hC : CIv th) (hM : MI th) (hP : va_P g.1 vwCl (va_pl L f) H) (hD : va_D (fun q : Nat => s.heap.size ≤ q) (va_pl L f)) (hS : va_S (fun q : Nat => s.heap.size ≤ q) s.heap H locs) (hl : lv_has ls 7 [(4, .int i), (3, .ref (ad 278)), (2, .ref (ad 255)), (1, .ref (ad 0)), (0, .ref b)]) (K : ∀ (th : Nat → Int) (f : HP) (H : Heap) (locs : List Loc) (ls : Array Slot), TI g ad th f → CIv th → MI th → va_P g.1 vwCl (va_pl L f) H → va_D (fun q : Nat => s.heap.size ≤ q) (va_pl L f) → va_S (fun q : Nat => s.heap.size ≤ q) s.heap H locs → lv_has ls 7 [(4, .int i), (3, .ref (ad 278)), (2, .ref (ad 255)), (1, .ref (ad 0)), (0, .ref b)] → W p l e room_1 s m #[Value.ref b] below meth c H locs (1001 + k) (200006 + 6 * k) (lw_Z below #[Value.ref b] s) (F0 m 1333 ls [])) : W p l e room_1 s m #[Value.ref b] below meth c H locs (1000 + k) (200000 + 6 * k) (lw_Z below #[Value.ref b] s) (F0 m 590 ls []) := by
  obtain ⟨hx, hb, hr, hml, hown, hts0, hXs, hbl, hlocks, hgv⟩ := C0
  have hown : s.vm.findClass "RulerWordLaw" = some m.cls := hown
  have hts := hts1 hts0
  have hA : ∀ q, s.heap.size ≤ q → (fun q : Nat => s.heap.size ≤ q) q := fun _ h => h
  have hbA : ¬ (fun q : Nat => s.heap.size ≤ q) b := Nat.not_le.mpr hbl
  refine lv_aload_n hx hb dL_law_590 rfl (lv_at hl 3 rfl) ?_
  refine lv_aload_n hx hb dL_law_591 rfl (lv_at hl 4 rfl) ?_
  refine lv_iload hx hb dL_law_592 (lv_at hl 0 rfl) ?_
  refine lv_iconst (v := 1) hx hb dL_law_594 (by decide) ?_
  refine lv_iadd hx hb dL_law_595 ?_
  refine lv_topi (fun x1 ex1 => ?_)
  have hx1 : x1.toInt = i.toInt + 1 := In.adde (a := 0) (b := 3072) ex1 ⟨hi0, by omega⟩ (k := 1) (by decide) (by decide) (by decide)
  refine va_sld hx hb hXs hbl hbA hS (i := x1) (vp_of (by omega) (by omega)) dL_law_596 ?_
  refine lv_topi (fun x2 ex2 => ?_)
  obtain ⟨_, _, _, hf_me, _, _, _⟩ := hT.1 0 (by decide)
  refine call_i (run_V (rm := rm_X10_falseOnes) hx hb hml hown hts (s_X10_falseOnes l g ad th _ _ _ x2 hst hT hC) cV_X10_falseOnes wg_926 ⟨Nat.le_of_ble_eq_true rfl, Nat.le_of_ble_eq_true rfl⟩ hG hE hA hP hD hS (hst.1 0 (by decide)) hf_me rfl rfl hl.1 (As := [.int x2]) (rest := []) rfl (Nat.le_of_ble_eq_true rfl) dL_law_597 ⟨by show 1000 + k + 0 ≤ 601024; omega, by show 200000 + 6 * k + 0 ≤ 7293034; omega⟩) hA hD hS (fun r3 L4 f5 H locs hp6 hP hD hS => ?_)
  obtain ⟨e7L, e7T⟩ := hp6
  have e7L : L4 = L := e7L
  obtain ⟨th8, e7I, hT⟩ := e7T
  rw [e7L] at hP hD
  have hM1 := hM.c e7I.2
  have hC := e7I.1
  have hM := hM1
  revert hT hC hM
  generalize th8 = th
  intro hT hC hM
  refine lv_pop hx hb dL_law_600 rfl ?_
  refine lv_aload_n hx hb dL_law_601 rfl (lv_at hl 2 rfl) ?_
  refine lv_aload_n hx hb dL_law_602 rfl (lv_at hl 4 rfl) ?_
  refine lv_iload hx hb dL_law_603 (lv_at hl 0 rfl) ?_
  refine lv_iconst (v := 1) hx hb dL_law_605 (by decide) ?_
  refine lv_iadd hx hb dL_law_606 ?_
  refine lv_topi (fun x9 ex9 => ?_)
  have hx9 : x9.toInt = i.toInt + 1 := In.adde (a := 0) (b := 3072) ex9 ⟨hi0, by omega⟩ (k := 1) (by decide) (by decide) (by decide)
  refine va_sld hx hb hXs hbl hbA hS (i := x9) (vp_of (by omega) (by omega)) dL_law_607 ?_
  refine lv_topi (fun x10 ex10 => ?_)
  refine M0e hT (fun _ _ _ _ _ _ _ _ _ _ _ _ _ _ _ _ _ _ _ _ _ _ _ _ _ _ _ _ _ _ _ _ _ _ hf_me _ _ _ _ _ _ _ _ _ _ _ _ _ _ _ _ _ _ _ _ _ _ _ _ _ _ _ _ _ _ _ _ _ _ _ _ _ _ _ _ _ => ?_)
  refine call_i (run_V (rm := rm_X11_falseOnes) hx hb hml hown hts (s_X11_falseOnes l g ad th _ _ _ x10 hst hT hM) cV_X11_falseOnes wg_1727 ⟨Nat.le_of_ble_eq_true rfl, Nat.le_of_ble_eq_true rfl⟩ hG hE hA hP hD hS (hst.1 255 (by decide)) hf_me rfl rfl hl.1 (As := [.int x10]) (rest := []) rfl (Nat.le_of_ble_eq_true rfl) dL_law_608 ⟨by show 1000 + k + 0 + 0 ≤ 601024; omega, by show 200000 + 6 * k + 0 + 0 ≤ 7293034; omega⟩) hA hD hS (fun r11 L12 f13 H locs hp14 hP hD hS => ?_)
  obtain ⟨e15L, e15T⟩ := hp14
  have e15L : L12 = L := e15L
  obtain ⟨th16, e15I, hT⟩ := e15T
  rw [e15L] at hP hD
  have hC := hC.m e15I.2
  have hM := e15I.1
  revert hT hC hM
  generalize th16 = th
  intro hT hC hM
  refine lv_pop hx hb dL_law_611 rfl ?_
  refine lv_goto (tgt := 1333) hx hb dL_law_612 (by decide) ?_
  refine W.widen (k := 1001 + k) (n := 200006 + 6 * k) (by show 1000 + k + 0 + 0 ≤ _; omega) (by show 200000 + 6 * k + 0 + 0 ≤ _; omega) ?_
  exact K _ _ _ _ _ hT hC hM hP hD hS (lv_sub hl [0, 1, 2, 3, 4] rfl)

set_option maxHeartbeats 4000000 in
set_option maxRecDepth 100000 in
theorem law_c12 {p : Program} {e : Env} {s : State} {m : MethodId} {below : List Frame} {meth : Method} {c : Code} (l : Launch) {b LL : Nat} {xs : Nat → Int32} (C0 : lw_At p s m meth c b LL xs) (htr : l.stackTraces = false) {g : GG} (hG : GK g s) (hE : SW g (fun q : Nat => s.heap.size ≤ q) s s.heap) {L : List Nat} {ad : Nat → Nat} (hst : ST ad L) {th : Nat → Int} {f : HP} {H : Heap} {locs : List Loc} {ls : Array Slot} {i : Int32} {k : Nat} (hk : k ≤ 511) (hi0 : 0 ≤ i.toInt) (hi : i.toInt + 6 ≤ (LL : Int)) (hLL : LL ≤ 3072) (hT : TI g ad th f) (hC : CIv th) (hM : MI th) (hP : va_P g.1 vwCl (va_pl L f) H) (hD : va_D (fun q : Nat => s.heap.size ≤ q) (va_pl L f)) (hS : va_S (fun q : Nat => s.heap.size ≤ q) s.heap H locs) (hl : lv_has ls 7 [(4, .int i), (3, .ref (ad 278)), (2, .ref (ad 255)), (1, .ref (ad 0)), (0, .ref b)]) (K : ∀ (th : Nat → Int) (f : HP) (H : Heap) (locs : List Loc) (ls : Array Slot), TI g ad th f → CIv th → MI th → va_P g.1 vwCl (va_pl L f) H → va_D (fun q : Nat => s.heap.size ≤ q) (va_pl L f) → va_S (fun q : Nat => s.heap.size ≤ q) s.heap H locs → lv_has ls 7 [(4, .int i), (3, .ref (ad 278)), (2, .ref (ad 255)), (1, .ref (ad 0)), (0, .ref b)] → W p l e room_1 s m #[Value.ref b] below meth c H locs (1001 + k) (200006 + 6 * k) (lw_Z below #[Value.ref b] s) (F0 m 1333 ls [])) : W p l e room_1 s m #[Value.ref b] below meth c H locs (1000 + k) (200000 + 6 * k) (lw_Z below #[Value.ref b] s) (F0 m 615 ls []) := by
  obtain ⟨hx, hb, hr, hml, hown, hts0, hXs, hbl, hlocks, hgv⟩ := C0
  have hown : s.vm.findClass "RulerWordLaw" = some m.cls := hown
  have hts := hts1 hts0
  have hA : ∀ q, s.heap.size ≤ q → (fun q : Nat => s.heap.size ≤ q) q := fun _ h => h
  have hbA : ¬ (fun q : Nat => s.heap.size ≤ q) b := Nat.not_le.mpr hbl
  refine lv_aload_n hx hb dL_law_615 rfl (lv_at hl 3 rfl) ?_
  refine lv_aload_n hx hb dL_law_616 rfl (lv_at hl 4 rfl) ?_
  refine lv_iload hx hb dL_law_617 (lv_at hl 0 rfl) ?_
  refine lv_iconst (v := 1) hx hb dL_law_619 (by decide) ?_
  refine lv_iadd hx hb dL_law_620 ?_
  refine lv_topi (fun x1 ex1 => ?_)
  have hx1 : x1.toInt = i.toInt + 1 := In.adde (a := 0) (b := 3072) ex1 ⟨hi0, by omega⟩ (k := 1) (by decide) (by decide) (by decide)
  refine va_sld hx hb hXs hbl hbA hS (i := x1) (vp_of (by omega) (by omega)) dL_law_621 ?_
  refine lv_topi (fun x2 ex2 => ?_)
  refine lv_aload_n hx hb dL_law_622 rfl (lv_at hl 4 rfl) ?_
  refine lv_iload hx hb dL_law_623 (lv_at hl 0 rfl) ?_
  refine lv_iconst (v := 2) hx hb dL_law_625 (by decide) ?_
  refine lv_iadd hx hb dL_law_626 ?_
  refine lv_topi (fun x3 ex3 => ?_)
  have hx3 : x3.toInt = i.toInt + 2 := In.adde (a := 0) (b := 3072) ex3 ⟨hi0, by omega⟩ (k := 2) (by decide) (by decide) (by decide)
  refine va_sld hx hb hXs hbl hbA hS (i := x3) (vp_of (by omega) (by omega)) dL_law_627 ?_
  refine lv_topi (fun x4 ex4 => ?_)
  refine lv_aload_n hx hb dL_law_628 rfl (lv_at hl 4 rfl) ?_
  refine lv_iload hx hb dL_law_629 (lv_at hl 0 rfl) ?_
  refine lv_iconst (v := 3) hx hb dL_law_631 (by decide) ?_
  refine lv_iadd hx hb dL_law_632 ?_
  refine lv_topi (fun x5 ex5 => ?_)
  have hx5 : x5.toInt = i.toInt + 3 := In.adde (a := 0) (b := 3072) ex5 ⟨hi0, by omega⟩ (k := 3) (by decide) (by decide) (by decide)
  refine va_sld hx hb hXs hbl hbA hS (i := x5) (vp_of (by omega) (by omega)) dL_law_633 ?_
  refine lv_topi (fun x6 ex6 => ?_)
  refine lv_aload_n hx hb dL_law_634 rfl (lv_at hl 4 rfl) ?_
  refine lv_iload hx hb dL_law_635 (lv_at hl 0 rfl) ?_
  refine lv_iconst (v := 4) hx hb dL_law_637 (by decide) ?_
  refine lv_iadd hx hb dL_law_638 ?_
  refine lv_topi (fun x7 ex7 => ?_)
  have hx7 : x7.toInt = i.toInt + 4 := In.adde (a := 0) (b := 3072) ex7 ⟨hi0, by omega⟩ (k := 4) (by decide) (by decide) (by decide)
  refine va_sld hx hb hXs hbl hbA hS (i := x7) (vp_of (by omega) (by omega)) dL_law_639 ?_
  refine lv_topi (fun x8 ex8 => ?_)
  obtain ⟨_, _, _, hf_me, _, _, _⟩ := hT.1 0 (by decide)
  refine call_i (run_V (rm := rm_X10_heard) hx hb hml hown hts (s_X10_heard l g ad th _ _ _ x2 x4 x6 x8 hst hT ) cV_X10_heard wg_934 ⟨Nat.le_of_ble_eq_true rfl, Nat.le_of_ble_eq_true rfl⟩ hG hE hA hP hD hS (hst.1 0 (by decide)) hf_me rfl rfl hl.1 (As := [.int x2, .int x4, .int x6, .int x8]) (rest := []) rfl (Nat.le_of_ble_eq_true rfl) dL_law_640 ⟨by show 1000 + k + 0 ≤ 601024; omega, by show 200000 + 6 * k + 0 ≤ 7293034; omega⟩) hA hD hS (fun r9 L10 f11 H locs hp12 hP hD hS => ?_)
  obtain ⟨e13L, e13T⟩ := hp12
  have e13L : L10 = L := e13L
  have e13T : f11 = _ := e13T
  rw [e13L, e13T] at hP hD
  refine lv_pop hx hb dL_law_643 rfl ?_
  refine lv_aload_n hx hb dL_law_644 rfl (lv_at hl 2 rfl) ?_
  refine lv_aload_n hx hb dL_law_645 rfl (lv_at hl 4 rfl) ?_
  refine lv_iload hx hb dL_law_646 (lv_at hl 0 rfl) ?_
  refine lv_iconst (v := 1) hx hb dL_law_648 (by decide) ?_
  refine lv_iadd hx hb dL_law_649 ?_
  refine lv_topi (fun x14 ex14 => ?_)
  have hx14 : x14.toInt = i.toInt + 1 := In.adde (a := 0) (b := 3072) ex14 ⟨hi0, by omega⟩ (k := 1) (by decide) (by decide) (by decide)
  refine va_sld hx hb hXs hbl hbA hS (i := x14) (vp_of (by omega) (by omega)) dL_law_650 ?_
  refine lv_topi (fun x15 ex15 => ?_)
  refine lv_aload_n hx hb dL_law_651 rfl (lv_at hl 4 rfl) ?_
  refine lv_iload hx hb dL_law_652 (lv_at hl 0 rfl) ?_
  refine lv_iconst (v := 2) hx hb dL_law_654 (by decide) ?_
  refine lv_iadd hx hb dL_law_655 ?_
  refine lv_topi (fun x16 ex16 => ?_)
  have hx16 : x16.toInt = i.toInt + 2 := In.adde (a := 0) (b := 3072) ex16 ⟨hi0, by omega⟩ (k := 2) (by decide) (by decide) (by decide)
  refine va_sld hx hb hXs hbl hbA hS (i := x16) (vp_of (by omega) (by omega)) dL_law_656 ?_
  refine lv_topi (fun x17 ex17 => ?_)
  refine lv_aload_n hx hb dL_law_657 rfl (lv_at hl 4 rfl) ?_
  refine lv_iload hx hb dL_law_658 (lv_at hl 0 rfl) ?_
  refine lv_iconst (v := 3) hx hb dL_law_660 (by decide) ?_
  refine lv_iadd hx hb dL_law_661 ?_
  refine lv_topi (fun x18 ex18 => ?_)
  have hx18 : x18.toInt = i.toInt + 3 := In.adde (a := 0) (b := 3072) ex18 ⟨hi0, by omega⟩ (k := 3) (by decide) (by decide) (by decide)
  refine va_sld hx hb hXs hbl hbA hS (i := x18) (vp_of (by omega) (by omega)) dL_law_662 ?_
  refine lv_topi (fun x19 ex19 => ?_)
  refine lv_aload_n hx hb dL_law_663 rfl (lv_at hl 4 rfl) ?_
  refine lv_iload hx hb dL_law_664 (lv_at hl 0 rfl) ?_
  refine lv_iconst (v := 4) hx hb dL_law_666 (by decide) ?_
  refine lv_iadd hx hb dL_law_667 ?_
  refine lv_topi (fun x20 ex20 => ?_)
  have hx20 : x20.toInt = i.toInt + 4 := In.adde (a := 0) (b := 3072) ex20 ⟨hi0, by omega⟩ (k := 4) (by decide) (by decide) (by decide)
  refine va_sld hx hb hXs hbl hbA hS (i := x20) (vp_of (by omega) (by omega)) dL_law_668 ?_
  refine lv_topi (fun x21 ex21 => ?_)
  refine M0e hT (fun _ _ _ _ _ _ _ _ _ _ _ _ _ _ _ _ _ _ _ _ _ _ _ _ _ _ _ _ _ _ _ _ _ _ hf_me _ _ _ _ _ _ _ _ _ _ _ _ _ _ _ _ _ _ _ _ _ _ _ _ _ _ _ _ _ _ _ _ _ _ _ _ _ _ _ _ _ => ?_)
  refine call_i (run_V (rm := rm_X11_heard) hx hb hml hown hts (s_X11_heard l g ad th _ _ _ x15 x17 x19 x21 hst hT hM) cV_X11_heard wg_1757 ⟨Nat.le_of_ble_eq_true rfl, Nat.le_of_ble_eq_true rfl⟩ hG hE hA hP hD hS (hst.1 255 (by decide)) hf_me rfl rfl hl.1 (As := [.int x15, .int x17, .int x19, .int x21]) (rest := []) rfl (Nat.le_of_ble_eq_true rfl) dL_law_669 ⟨by show 1000 + k + 0 + 0 ≤ 601024; omega, by show 200000 + 6 * k + 0 + 0 ≤ 7293034; omega⟩) hA hD hS (fun r22 L23 f24 H locs hp25 hP hD hS => ?_)
  obtain ⟨e26L, e26T, _⟩ := hp25
  have e26L : L23 = L := e26L
  have hT : TI g ad _ f24 := e26T
  rw [e26L] at hP hD
  refine lv_pop hx hb dL_law_672 rfl ?_
  refine lv_goto (tgt := 1333) hx hb dL_law_673 (by decide) ?_
  refine W.widen (k := 1001 + k) (n := 200006 + 6 * k) (by show 1000 + k + 0 + 0 ≤ _; omega) (by show 200000 + 6 * k + 0 + 0 ≤ _; omega) ?_
  exact K _ _ _ _ _ hT hC hM hP hD hS (lv_sub hl [0, 1, 2, 3, 4] rfl)

set_option maxHeartbeats 4000000 in
set_option maxRecDepth 100000 in
theorem law_c13 {p : Program} {e : Env} {s : State} {m : MethodId} {below : List Frame} {meth : Method} {c : Code} (l : Launch) {b LL : Nat} {xs : Nat → Int32} (C0 : lw_At p s m meth c b LL xs) (htr : l.stackTraces = false) {g : GG} (hG : GK g s) (hE : SW g (fun q : Nat => s.heap.size ≤ q) s s.heap) {L : List Nat} {ad : Nat → Nat} (hst : ST ad L) {th : Nat → Int} {f : HP} {H : Heap} {locs : List Loc} {ls : Array Slot} {i : Int32} {k : Nat} (hk : k ≤ 511) (hi0 : 0 ≤ i.toInt) (hi : i.toInt + 6 ≤ (LL : Int)) (hLL : LL ≤ 3072) (hT : TI g ad th f) (hC : CIv th) (hM : MI th) (hP : va_P g.1 vwCl (va_pl L f) H) (hD : va_D (fun q : Nat => s.heap.size ≤ q) (va_pl L f)) (hS : va_S (fun q : Nat => s.heap.size ≤ q) s.heap H locs) (hl : lv_has ls 7 [(4, .int i), (3, .ref (ad 278)), (2, .ref (ad 255)), (1, .ref (ad 0)), (0, .ref b)]) (K : ∀ (th : Nat → Int) (f : HP) (H : Heap) (locs : List Loc) (ls : Array Slot), TI g ad th f → CIv th → MI th → va_P g.1 vwCl (va_pl L f) H → va_D (fun q : Nat => s.heap.size ≤ q) (va_pl L f) → va_S (fun q : Nat => s.heap.size ≤ q) s.heap H locs → lv_has ls 7 [(4, .int i), (3, .ref (ad 278)), (2, .ref (ad 255)), (1, .ref (ad 0)), (0, .ref b)] → W p l e room_1 s m #[Value.ref b] below meth c H locs (1001 + k) (200006 + 6 * k) (lw_Z below #[Value.ref b] s) (F0 m 1333 ls [])) : W p l e room_1 s m #[Value.ref b] below meth c H locs (1000 + k) (200000 + 6 * k) (lw_Z below #[Value.ref b] s) (F0 m 676 ls []) := by
  obtain ⟨hx, hb, hr, hml, hown, hts0, hXs, hbl, hlocks, hgv⟩ := C0
  have hown : s.vm.findClass "RulerWordLaw" = some m.cls := hown
  have hts := hts1 hts0
  have hA : ∀ q, s.heap.size ≤ q → (fun q : Nat => s.heap.size ≤ q) q := fun _ h => h
  have hbA : ¬ (fun q : Nat => s.heap.size ≤ q) b := Nat.not_le.mpr hbl
  refine lv_aload_n hx hb dL_law_676 rfl (lv_at hl 3 rfl) ?_
  refine lv_aload_n hx hb dL_law_677 rfl (lv_at hl 4 rfl) ?_
  refine lv_iload hx hb dL_law_678 (lv_at hl 0 rfl) ?_
  refine lv_iconst (v := 1) hx hb dL_law_680 (by decide) ?_
  refine lv_iadd hx hb dL_law_681 ?_
  refine lv_topi (fun x1 ex1 => ?_)
  have hx1 : x1.toInt = i.toInt + 1 := In.adde (a := 0) (b := 3072) ex1 ⟨hi0, by omega⟩ (k := 1) (by decide) (by decide) (by decide)
  refine va_sld hx hb hXs hbl hbA hS (i := x1) (vp_of (by omega) (by omega)) dL_law_682 ?_
  refine lv_topi (fun x2 ex2 => ?_)
  refine lv_aload_n hx hb dL_law_683 rfl (lv_at hl 4 rfl) ?_
  refine lv_iload hx hb dL_law_684 (lv_at hl 0 rfl) ?_
  refine lv_iconst (v := 2) hx hb dL_law_686 (by decide) ?_
  refine lv_iadd hx hb dL_law_687 ?_
  refine lv_topi (fun x3 ex3 => ?_)
  have hx3 : x3.toInt = i.toInt + 2 := In.adde (a := 0) (b := 3072) ex3 ⟨hi0, by omega⟩ (k := 2) (by decide) (by decide) (by decide)
  refine va_sld hx hb hXs hbl hbA hS (i := x3) (vp_of (by omega) (by omega)) dL_law_688 ?_
  refine lv_topi (fun x4 ex4 => ?_)
  obtain ⟨_, _, _, hf_me, _, _, _⟩ := hT.1 0 (by decide)
  refine call_i (run_V (rm := rm_X10_peer) hx hb hml hown hts (s_X10_peer l g ad th _ _ _ x2 x4 hst hT ) cV_X10_peer wg_940 ⟨Nat.le_of_ble_eq_true rfl, Nat.le_of_ble_eq_true rfl⟩ hG hE hA hP hD hS (hst.1 0 (by decide)) hf_me rfl rfl hl.1 (As := [.int x2, .int x4]) (rest := []) rfl (Nat.le_of_ble_eq_true rfl) dL_law_689 ⟨by show 1000 + k + 0 ≤ 601024; omega, by show 200000 + 6 * k + 0 ≤ 7293034; omega⟩) hA hD hS (fun r5 L6 f7 H locs hp8 hP hD hS => ?_)
  obtain ⟨e9L, e9T⟩ := hp8
  have e9L : L6 = L := e9L
  have e9T : f7 = _ := e9T
  rw [e9L, e9T] at hP hD
  refine lv_pop hx hb dL_law_692 rfl ?_
  refine lv_aload_n hx hb dL_law_693 rfl (lv_at hl 2 rfl) ?_
  refine lv_aload_n hx hb dL_law_694 rfl (lv_at hl 4 rfl) ?_
  refine lv_iload hx hb dL_law_695 (lv_at hl 0 rfl) ?_
  refine lv_iconst (v := 1) hx hb dL_law_697 (by decide) ?_
  refine lv_iadd hx hb dL_law_698 ?_
  refine lv_topi (fun x10 ex10 => ?_)
  have hx10 : x10.toInt = i.toInt + 1 := In.adde (a := 0) (b := 3072) ex10 ⟨hi0, by omega⟩ (k := 1) (by decide) (by decide) (by decide)
  refine va_sld hx hb hXs hbl hbA hS (i := x10) (vp_of (by omega) (by omega)) dL_law_699 ?_
  refine lv_topi (fun x11 ex11 => ?_)
  refine lv_aload_n hx hb dL_law_700 rfl (lv_at hl 4 rfl) ?_
  refine lv_iload hx hb dL_law_701 (lv_at hl 0 rfl) ?_
  refine lv_iconst (v := 2) hx hb dL_law_703 (by decide) ?_
  refine lv_iadd hx hb dL_law_704 ?_
  refine lv_topi (fun x12 ex12 => ?_)
  have hx12 : x12.toInt = i.toInt + 2 := In.adde (a := 0) (b := 3072) ex12 ⟨hi0, by omega⟩ (k := 2) (by decide) (by decide) (by decide)
  refine va_sld hx hb hXs hbl hbA hS (i := x12) (vp_of (by omega) (by omega)) dL_law_705 ?_
  refine lv_topi (fun x13 ex13 => ?_)
  refine M0e hT (fun _ _ _ _ _ _ _ _ _ _ _ _ _ _ _ _ _ _ _ _ _ _ _ _ _ _ _ _ _ _ _ _ _ _ hf_me _ _ _ _ _ _ _ _ _ _ _ _ _ _ _ _ _ _ _ _ _ _ _ _ _ _ _ _ _ _ _ _ _ _ _ _ _ _ _ _ _ => ?_)
  refine call_i (run_V (rm := rm_X11_peer) hx hb hml hown hts (s_X11_peer l g ad th _ _ _ x11 x13 hst hT hM) cV_X11_peer wg_1761 ⟨Nat.le_of_ble_eq_true rfl, Nat.le_of_ble_eq_true rfl⟩ hG hE hA hP hD hS (hst.1 255 (by decide)) hf_me rfl rfl hl.1 (As := [.int x11, .int x13]) (rest := []) rfl (Nat.le_of_ble_eq_true rfl) dL_law_706 ⟨by show 1000 + k + 0 + 0 ≤ 601024; omega, by show 200000 + 6 * k + 0 + 0 ≤ 7293034; omega⟩) hA hD hS (fun r14 L15 f16 H locs hp17 hP hD hS => ?_)
  obtain ⟨e18L, e18T, _⟩ := hp17
  have e18L : L15 = L := e18L
  obtain ⟨th19, e18I, hT⟩ := e18T
  rw [e18L] at hP hD
  have hC := hC.m e18I.2
  have hM := e18I.1
  revert hT hC hM
  generalize th19 = th
  intro hT hC hM
  refine lv_pop hx hb dL_law_709 rfl ?_
  refine lv_goto (tgt := 1333) hx hb dL_law_710 (by decide) ?_
  refine W.widen (k := 1001 + k) (n := 200006 + 6 * k) (by show 1000 + k + 0 + 0 ≤ _; omega) (by show 200000 + 6 * k + 0 + 0 ≤ _; omega) ?_
  exact K _ _ _ _ _ hT hC hM hP hD hS (lv_sub hl [0, 1, 2, 3, 4] rfl)

set_option maxHeartbeats 4000000 in
set_option maxRecDepth 100000 in
theorem law_c14 {p : Program} {e : Env} {s : State} {m : MethodId} {below : List Frame} {meth : Method} {c : Code} (l : Launch) {b LL : Nat} {xs : Nat → Int32} (C0 : lw_At p s m meth c b LL xs) (htr : l.stackTraces = false) {g : GG} (hG : GK g s) (hE : SW g (fun q : Nat => s.heap.size ≤ q) s s.heap) {L : List Nat} {ad : Nat → Nat} (hst : ST ad L) {th : Nat → Int} {f : HP} {H : Heap} {locs : List Loc} {ls : Array Slot} {i : Int32} {k : Nat} (hk : k ≤ 511) (hi0 : 0 ≤ i.toInt) (hi : i.toInt + 6 ≤ (LL : Int)) (hLL : LL ≤ 3072) (hT : TI g ad th f) (hC : CIv th) (hM : MI th) (hP : va_P g.1 vwCl (va_pl L f) H) (hD : va_D (fun q : Nat => s.heap.size ≤ q) (va_pl L f)) (hS : va_S (fun q : Nat => s.heap.size ≤ q) s.heap H locs) (hl : lv_has ls 7 [(4, .int i), (3, .ref (ad 278)), (2, .ref (ad 255)), (1, .ref (ad 0)), (0, .ref b)]) (K : ∀ (th : Nat → Int) (f : HP) (H : Heap) (locs : List Loc) (ls : Array Slot), TI g ad th f → CIv th → MI th → va_P g.1 vwCl (va_pl L f) H → va_D (fun q : Nat => s.heap.size ≤ q) (va_pl L f) → va_S (fun q : Nat => s.heap.size ≤ q) s.heap H locs → lv_has ls 7 [(4, .int i), (3, .ref (ad 278)), (2, .ref (ad 255)), (1, .ref (ad 0)), (0, .ref b)] → W p l e room_1 s m #[Value.ref b] below meth c H locs (1001 + k) (200006 + 6 * k) (lw_Z below #[Value.ref b] s) (F0 m 1333 ls [])) : W p l e room_1 s m #[Value.ref b] below meth c H locs (1000 + k) (200000 + 6 * k) (lw_Z below #[Value.ref b] s) (F0 m 713 ls []) := by
  obtain ⟨hx, hb, hr, hml, hown, hts0, hXs, hbl, hlocks, hgv⟩ := C0
  have hown : s.vm.findClass "RulerWordLaw" = some m.cls := hown
  have hts := hts1 hts0
  have hA : ∀ q, s.heap.size ≤ q → (fun q : Nat => s.heap.size ≤ q) q := fun _ h => h
  have hbA : ¬ (fun q : Nat => s.heap.size ≤ q) b := Nat.not_le.mpr hbl
  refine lv_aload_n hx hb dL_law_713 rfl (lv_at hl 3 rfl) ?_
  refine lv_aload_n hx hb dL_law_714 rfl (lv_at hl 4 rfl) ?_
  refine lv_iload hx hb dL_law_715 (lv_at hl 0 rfl) ?_
  refine lv_iconst (v := 1) hx hb dL_law_717 (by decide) ?_
  refine lv_iadd hx hb dL_law_718 ?_
  refine lv_topi (fun x1 ex1 => ?_)
  have hx1 : x1.toInt = i.toInt + 1 := In.adde (a := 0) (b := 3072) ex1 ⟨hi0, by omega⟩ (k := 1) (by decide) (by decide) (by decide)
  refine va_sld hx hb hXs hbl hbA hS (i := x1) (vp_of (by omega) (by omega)) dL_law_719 ?_
  refine lv_topi (fun x2 ex2 => ?_)
  refine lv_aload_n hx hb dL_law_720 rfl (lv_at hl 4 rfl) ?_
  refine lv_iload hx hb dL_law_721 (lv_at hl 0 rfl) ?_
  refine lv_iconst (v := 2) hx hb dL_law_723 (by decide) ?_
  refine lv_iadd hx hb dL_law_724 ?_
  refine lv_topi (fun x3 ex3 => ?_)
  have hx3 : x3.toInt = i.toInt + 2 := In.adde (a := 0) (b := 3072) ex3 ⟨hi0, by omega⟩ (k := 2) (by decide) (by decide) (by decide)
  refine va_sld hx hb hXs hbl hbA hS (i := x3) (vp_of (by omega) (by omega)) dL_law_725 ?_
  refine lv_topi (fun x4 ex4 => ?_)
  refine lv_aload_n hx hb dL_law_726 rfl (lv_at hl 4 rfl) ?_
  refine lv_iload hx hb dL_law_727 (lv_at hl 0 rfl) ?_
  refine lv_iconst (v := 3) hx hb dL_law_729 (by decide) ?_
  refine lv_iadd hx hb dL_law_730 ?_
  refine lv_topi (fun x5 ex5 => ?_)
  have hx5 : x5.toInt = i.toInt + 3 := In.adde (a := 0) (b := 3072) ex5 ⟨hi0, by omega⟩ (k := 3) (by decide) (by decide) (by decide)
  refine va_sld hx hb hXs hbl hbA hS (i := x5) (vp_of (by omega) (by omega)) dL_law_731 ?_
  refine lv_topi (fun x6 ex6 => ?_)
  obtain ⟨_, _, _, hf_me, _, _, _⟩ := hT.1 0 (by decide)
  refine call_i (run_V (rm := rm_X10_told) hx hb hml hown hts (s_X10_told l g ad th _ _ _ x2 x4 x6 hst hT ) cV_X10_told wg_948 ⟨Nat.le_of_ble_eq_true rfl, Nat.le_of_ble_eq_true rfl⟩ hG hE hA hP hD hS (hst.1 0 (by decide)) hf_me rfl rfl hl.1 (As := [.int x2, .int x4, .int x6]) (rest := []) rfl (Nat.le_of_ble_eq_true rfl) dL_law_732 ⟨by show 1000 + k + 0 ≤ 601024; omega, by show 200000 + 6 * k + 0 ≤ 7293034; omega⟩) hA hD hS (fun r7 L8 f9 H locs hp10 hP hD hS => ?_)
  obtain ⟨e11L, e11T⟩ := hp10
  have e11L : L8 = L := e11L
  have e11T : f9 = _ := e11T
  rw [e11L, e11T] at hP hD
  refine lv_pop hx hb dL_law_735 rfl ?_
  refine lv_aload_n hx hb dL_law_736 rfl (lv_at hl 2 rfl) ?_
  refine lv_aload_n hx hb dL_law_737 rfl (lv_at hl 4 rfl) ?_
  refine lv_iload hx hb dL_law_738 (lv_at hl 0 rfl) ?_
  refine lv_iconst (v := 1) hx hb dL_law_740 (by decide) ?_
  refine lv_iadd hx hb dL_law_741 ?_
  refine lv_topi (fun x12 ex12 => ?_)
  have hx12 : x12.toInt = i.toInt + 1 := In.adde (a := 0) (b := 3072) ex12 ⟨hi0, by omega⟩ (k := 1) (by decide) (by decide) (by decide)
  refine va_sld hx hb hXs hbl hbA hS (i := x12) (vp_of (by omega) (by omega)) dL_law_742 ?_
  refine lv_topi (fun x13 ex13 => ?_)
  refine lv_aload_n hx hb dL_law_743 rfl (lv_at hl 4 rfl) ?_
  refine lv_iload hx hb dL_law_744 (lv_at hl 0 rfl) ?_
  refine lv_iconst (v := 2) hx hb dL_law_746 (by decide) ?_
  refine lv_iadd hx hb dL_law_747 ?_
  refine lv_topi (fun x14 ex14 => ?_)
  have hx14 : x14.toInt = i.toInt + 2 := In.adde (a := 0) (b := 3072) ex14 ⟨hi0, by omega⟩ (k := 2) (by decide) (by decide) (by decide)
  refine va_sld hx hb hXs hbl hbA hS (i := x14) (vp_of (by omega) (by omega)) dL_law_748 ?_
  refine lv_topi (fun x15 ex15 => ?_)
  refine lv_aload_n hx hb dL_law_749 rfl (lv_at hl 4 rfl) ?_
  refine lv_iload hx hb dL_law_750 (lv_at hl 0 rfl) ?_
  refine lv_iconst (v := 3) hx hb dL_law_752 (by decide) ?_
  refine lv_iadd hx hb dL_law_753 ?_
  refine lv_topi (fun x16 ex16 => ?_)
  have hx16 : x16.toInt = i.toInt + 3 := In.adde (a := 0) (b := 3072) ex16 ⟨hi0, by omega⟩ (k := 3) (by decide) (by decide) (by decide)
  refine va_sld hx hb hXs hbl hbA hS (i := x16) (vp_of (by omega) (by omega)) dL_law_754 ?_
  refine lv_topi (fun x17 ex17 => ?_)
  refine M0e hT (fun _ _ _ _ _ _ _ _ _ _ _ _ _ _ _ _ _ _ _ _ _ _ _ _ _ _ _ _ _ _ _ _ _ _ hf_me _ _ _ _ _ _ _ _ _ _ _ _ _ _ _ _ _ _ _ _ _ _ _ _ _ _ _ _ _ _ _ _ _ _ _ _ _ _ _ _ _ => ?_)
  refine call_i (run_V (rm := rm_X11_told) hx hb hml hown hts (s_X11_told l g ad th _ _ _ x13 x15 x17 hst hT hM) cV_X11_told wg_1765 ⟨Nat.le_of_ble_eq_true rfl, Nat.le_of_ble_eq_true rfl⟩ hG hE hA hP hD hS (hst.1 255 (by decide)) hf_me rfl rfl hl.1 (As := [.int x13, .int x15, .int x17]) (rest := []) rfl (Nat.le_of_ble_eq_true rfl) dL_law_755 ⟨by show 1000 + k + 0 + 0 ≤ 601024; omega, by show 200000 + 6 * k + 0 + 0 ≤ 7293034; omega⟩) hA hD hS (fun r18 L19 f20 H locs hp21 hP hD hS => ?_)
  obtain ⟨e22L, e22T, _⟩ := hp21
  have e22L : L19 = L := e22L
  have hT : TI g ad _ f20 := e22T
  rw [e22L] at hP hD
  refine lv_pop hx hb dL_law_758 rfl ?_
  refine lv_goto (tgt := 1333) hx hb dL_law_759 (by decide) ?_
  refine W.widen (k := 1001 + k) (n := 200006 + 6 * k) (by show 1000 + k + 0 + 0 ≤ _; omega) (by show 200000 + 6 * k + 0 + 0 ≤ _; omega) ?_
  exact K _ _ _ _ _ hT hC hM hP hD hS (lv_sub hl [0, 1, 2, 3, 4] rfl)

set_option maxHeartbeats 4000000 in
set_option maxRecDepth 100000 in
theorem law_c15 {p : Program} {e : Env} {s : State} {m : MethodId} {below : List Frame} {meth : Method} {c : Code} (l : Launch) {b LL : Nat} {xs : Nat → Int32} (C0 : lw_At p s m meth c b LL xs) (htr : l.stackTraces = false) {g : GG} (hG : GK g s) (hE : SW g (fun q : Nat => s.heap.size ≤ q) s s.heap) {L : List Nat} {ad : Nat → Nat} (hst : ST ad L) {th : Nat → Int} {f : HP} {H : Heap} {locs : List Loc} {ls : Array Slot} {i : Int32} {k : Nat} (hk : k ≤ 511) (hi0 : 0 ≤ i.toInt) (hi : i.toInt + 6 ≤ (LL : Int)) (hLL : LL ≤ 3072) (hT : TI g ad th f) (hC : CIv th) (hM : MI th) (hP : va_P g.1 vwCl (va_pl L f) H) (hD : va_D (fun q : Nat => s.heap.size ≤ q) (va_pl L f)) (hS : va_S (fun q : Nat => s.heap.size ≤ q) s.heap H locs) (hl : lv_has ls 7 [(4, .int i), (3, .ref (ad 278)), (2, .ref (ad 255)), (1, .ref (ad 0)), (0, .ref b)]) (K : ∀ (th : Nat → Int) (f : HP) (H : Heap) (locs : List Loc) (ls : Array Slot), TI g ad th f → CIv th → MI th → va_P g.1 vwCl (va_pl L f) H → va_D (fun q : Nat => s.heap.size ≤ q) (va_pl L f) → va_S (fun q : Nat => s.heap.size ≤ q) s.heap H locs → lv_has ls 7 [(4, .int i), (3, .ref (ad 278)), (2, .ref (ad 255)), (1, .ref (ad 0)), (0, .ref b)] → W p l e room_1 s m #[Value.ref b] below meth c H locs (1001 + k) (200006 + 6 * k) (lw_Z below #[Value.ref b] s) (F0 m 1333 ls [])) : W p l e room_1 s m #[Value.ref b] below meth c H locs (1000 + k) (200000 + 6 * k) (lw_Z below #[Value.ref b] s) (F0 m 762 ls []) := by
  obtain ⟨hx, hb, hr, hml, hown, hts0, hXs, hbl, hlocks, hgv⟩ := C0
  have hown : s.vm.findClass "RulerWordLaw" = some m.cls := hown
  have hts := hts1 hts0
  have hA : ∀ q, s.heap.size ≤ q → (fun q : Nat => s.heap.size ≤ q) q := fun _ h => h
  have hbA : ¬ (fun q : Nat => s.heap.size ≤ q) b := Nat.not_le.mpr hbl
  refine lv_aload_n hx hb dL_law_762 rfl (lv_at hl 3 rfl) ?_
  obtain ⟨_, _, _, hf_me, _, _, _⟩ := hT.1 0 (by decide)
  refine call_i (run_V (rm := rm_X10_agreed) hx hb hml hown hts (s_X10_agreed l g ad th _ _ _  hst hT hC) cV_X10_agreed wg_964 ⟨Nat.le_of_ble_eq_true rfl, Nat.le_of_ble_eq_true rfl⟩ hG hE hA hP hD hS (hst.1 0 (by decide)) hf_me rfl rfl hl.1 (As := []) (rest := []) rfl (Nat.le_of_ble_eq_true rfl) dL_law_763 ⟨by show 1000 + k + 0 ≤ 601024; omega, by show 200000 + 6 * k + 0 ≤ 7293034; omega⟩) hA hD hS (fun r1 L2 f3 H locs hp4 hP hD hS => ?_)
  obtain ⟨e5L, e5T⟩ := hp4
  have e5L : L2 = L := e5L
  have e5T : f3 = _ := e5T
  rw [e5L, e5T] at hP hD
  refine lv_pop hx hb dL_law_766 rfl ?_
  refine lv_aload_n hx hb dL_law_767 rfl (lv_at hl 2 rfl) ?_
  refine M0e hT (fun _ _ _ _ _ _ _ _ _ _ _ _ _ _ _ _ _ _ _ _ _ _ _ _ _ _ _ _ _ _ _ _ _ _ hf_me _ _ _ _ _ _ _ _ _ _ _ _ _ _ _ _ _ _ _ _ _ _ _ _ _ _ _ _ _ _ _ _ _ _ _ _ _ _ _ _ _ => ?_)
  refine call_i (run_V (rm := rm_X11_agreed) hx hb hml hown hts (s_X11_agreed l g ad th _ _ _  hst hT hM) cV_X11_agreed wg_1774 ⟨Nat.le_of_ble_eq_true rfl, Nat.le_of_ble_eq_true rfl⟩ hG hE hA hP hD hS (hst.1 255 (by decide)) hf_me rfl rfl hl.1 (As := []) (rest := []) rfl (Nat.le_of_ble_eq_true rfl) dL_law_768 ⟨by show 1000 + k + 0 + 0 ≤ 601024; omega, by show 200000 + 6 * k + 0 + 0 ≤ 7293034; omega⟩) hA hD hS (fun r6 L7 f8 H locs hp9 hP hD hS => ?_)
  obtain ⟨e10L, e10T, _⟩ := hp9
  have e10L : L7 = L := e10L
  have hT : TI g ad _ f8 := e10T
  rw [e10L] at hP hD
  refine lv_pop hx hb dL_law_771 rfl ?_
  refine lv_goto (tgt := 1333) hx hb dL_law_772 (by decide) ?_
  refine W.widen (k := 1001 + k) (n := 200006 + 6 * k) (by show 1000 + k + 0 + 0 ≤ _; omega) (by show 200000 + 6 * k + 0 + 0 ≤ _; omega) ?_
  exact K _ _ _ _ _ hT hC hM hP hD hS (lv_sub hl [0, 1, 2, 3, 4] rfl)

set_option maxHeartbeats 4000000 in
set_option maxRecDepth 100000 in
theorem law_c16 {p : Program} {e : Env} {s : State} {m : MethodId} {below : List Frame} {meth : Method} {c : Code} (l : Launch) {b LL : Nat} {xs : Nat → Int32} (C0 : lw_At p s m meth c b LL xs) (htr : l.stackTraces = false) {g : GG} (hG : GK g s) (hE : SW g (fun q : Nat => s.heap.size ≤ q) s s.heap) {L : List Nat} {ad : Nat → Nat} (hst : ST ad L) {th : Nat → Int} {f : HP} {H : Heap} {locs : List Loc} {ls : Array Slot} {i : Int32} {k : Nat} (hk : k ≤ 511) (hi0 : 0 ≤ i.toInt) (hi : i.toInt + 6 ≤ (LL : Int)) (hLL : LL ≤ 3072) (hT : TI g ad th f) (hC : CIv th) (hM : MI th) (hP : va_P g.1 vwCl (va_pl L f) H) (hD : va_D (fun q : Nat => s.heap.size ≤ q) (va_pl L f)) (hS : va_S (fun q : Nat => s.heap.size ≤ q) s.heap H locs) (hl : lv_has ls 7 [(4, .int i), (3, .ref (ad 278)), (2, .ref (ad 255)), (1, .ref (ad 0)), (0, .ref b)]) (K : ∀ (th : Nat → Int) (f : HP) (H : Heap) (locs : List Loc) (ls : Array Slot), TI g ad th f → CIv th → MI th → va_P g.1 vwCl (va_pl L f) H → va_D (fun q : Nat => s.heap.size ≤ q) (va_pl L f) → va_S (fun q : Nat => s.heap.size ≤ q) s.heap H locs → lv_has ls 7 [(4, .int i), (3, .ref (ad 278)), (2, .ref (ad 255)), (1, .ref (ad 0)), (0, .ref b)] → W p l e room_1 s m #[Value.ref b] below meth c H locs (1001 + k) (200006 + 6 * k) (lw_Z below #[Value.ref b] s) (F0 m 1333 ls [])) : W p l e room_1 s m #[Value.ref b] below meth c H locs (1000 + k) (200000 + 6 * k) (lw_Z below #[Value.ref b] s) (F0 m 775 ls []) := by
  obtain ⟨hx, hb, hr, hml, hown, hts0, hXs, hbl, hlocks, hgv⟩ := C0
  have hown : s.vm.findClass "RulerWordLaw" = some m.cls := hown
  have hts := hts1 hts0
  have hA : ∀ q, s.heap.size ≤ q → (fun q : Nat => s.heap.size ≤ q) q := fun _ h => h
  have hbA : ¬ (fun q : Nat => s.heap.size ≤ q) b := Nat.not_le.mpr hbl
  refine lv_aload_n hx hb dL_law_775 rfl (lv_at hl 3 rfl) ?_
  refine lv_aload_n hx hb dL_law_776 rfl (lv_at hl 4 rfl) ?_
  refine lv_iload hx hb dL_law_777 (lv_at hl 0 rfl) ?_
  refine lv_iconst (v := 1) hx hb dL_law_779 (by decide) ?_
  refine lv_iadd hx hb dL_law_780 ?_
  refine lv_topi (fun x1 ex1 => ?_)
  have hx1 : x1.toInt = i.toInt + 1 := In.adde (a := 0) (b := 3072) ex1 ⟨hi0, by omega⟩ (k := 1) (by decide) (by decide) (by decide)
  refine va_sld hx hb hXs hbl hbA hS (i := x1) (vp_of (by omega) (by omega)) dL_law_781 ?_
  refine lv_topi (fun x2 ex2 => ?_)
  obtain ⟨_, _, _, hf_me, _, _, _⟩ := hT.1 0 (by decide)
  refine call_i (run_V (rm := rm_X10_state) hx hb hml hown hts (s_X10_state l g ad th _ _ _ x2 hst hT ) cV_X10_state wg_981 ⟨Nat.le_of_ble_eq_true rfl, Nat.le_of_ble_eq_true rfl⟩ hG hE hA hP hD hS (hst.1 0 (by decide)) hf_me rfl rfl hl.1 (As := [.int x2]) (rest := []) rfl (Nat.le_of_ble_eq_true rfl) dL_law_782 ⟨by show 1000 + k + 0 ≤ 601024; omega, by show 200000 + 6 * k + 0 ≤ 7293034; omega⟩) hA hD hS (fun r3 L4 f5 H locs hp6 hP hD hS => ?_)
  obtain ⟨e7L, e7T⟩ := hp6
  have e7L : L4 = L := e7L
  have e7T : f5 = _ := e7T
  rw [e7L, e7T] at hP hD
  refine lv_pop hx hb dL_law_785 rfl ?_
  refine lv_aload_n hx hb dL_law_786 rfl (lv_at hl 2 rfl) ?_
  refine lv_aload_n hx hb dL_law_787 rfl (lv_at hl 4 rfl) ?_
  refine lv_iload hx hb dL_law_788 (lv_at hl 0 rfl) ?_
  refine lv_iconst (v := 1) hx hb dL_law_790 (by decide) ?_
  refine lv_iadd hx hb dL_law_791 ?_
  refine lv_topi (fun x8 ex8 => ?_)
  have hx8 : x8.toInt = i.toInt + 1 := In.adde (a := 0) (b := 3072) ex8 ⟨hi0, by omega⟩ (k := 1) (by decide) (by decide) (by decide)
  refine va_sld hx hb hXs hbl hbA hS (i := x8) (vp_of (by omega) (by omega)) dL_law_792 ?_
  refine lv_topi (fun x9 ex9 => ?_)
  refine M0e hT (fun _ _ _ _ _ _ _ _ _ _ _ _ _ _ _ _ _ _ _ _ _ _ _ _ _ _ _ _ _ _ _ _ _ _ hf_me _ _ _ _ _ _ _ _ _ _ _ _ _ _ _ _ _ _ _ _ _ _ _ _ _ _ _ _ _ _ _ _ _ _ _ _ _ _ _ _ _ => ?_)
  refine call_i (run_V (rm := rm_X11_state) hx hb hml hown hts (s_X11_state l g ad th _ _ _ x9 hst hT hM) cV_X11_state wg_1790 ⟨Nat.le_of_ble_eq_true rfl, Nat.le_of_ble_eq_true rfl⟩ hG hE hA hP hD hS (hst.1 255 (by decide)) hf_me rfl rfl hl.1 (As := [.int x9]) (rest := []) rfl (Nat.le_of_ble_eq_true rfl) dL_law_793 ⟨by show 1000 + k + 0 + 0 ≤ 601024; omega, by show 200000 + 6 * k + 0 + 0 ≤ 7293034; omega⟩) hA hD hS (fun r10 L11 f12 H locs hp13 hP hD hS => ?_)
  obtain ⟨e14L, e14T, _⟩ := hp13
  have e14L : L11 = L := e14L
  have hT : TI g ad _ f12 := e14T
  rw [e14L] at hP hD
  refine lv_pop hx hb dL_law_796 rfl ?_
  refine lv_goto (tgt := 1333) hx hb dL_law_797 (by decide) ?_
  refine W.widen (k := 1001 + k) (n := 200006 + 6 * k) (by show 1000 + k + 0 + 0 ≤ _; omega) (by show 200000 + 6 * k + 0 + 0 ≤ _; omega) ?_
  exact K _ _ _ _ _ hT hC hM hP hD hS (lv_sub hl [0, 1, 2, 3, 4] rfl)

set_option maxHeartbeats 4000000 in
set_option maxRecDepth 100000 in
theorem law_c17 {p : Program} {e : Env} {s : State} {m : MethodId} {below : List Frame} {meth : Method} {c : Code} (l : Launch) {b LL : Nat} {xs : Nat → Int32} (C0 : lw_At p s m meth c b LL xs) (htr : l.stackTraces = false) {g : GG} (hG : GK g s) (hE : SW g (fun q : Nat => s.heap.size ≤ q) s s.heap) {L : List Nat} {ad : Nat → Nat} (hst : ST ad L) {th : Nat → Int} {f : HP} {H : Heap} {locs : List Loc} {ls : Array Slot} {i : Int32} {k : Nat} (hk : k ≤ 511) (hi0 : 0 ≤ i.toInt) (hi : i.toInt + 6 ≤ (LL : Int)) (hLL : LL ≤ 3072) (hT : TI g ad th f) (hC : CIv th) (hM : MI th) (hP : va_P g.1 vwCl (va_pl L f) H) (hD : va_D (fun q : Nat => s.heap.size ≤ q) (va_pl L f)) (hS : va_S (fun q : Nat => s.heap.size ≤ q) s.heap H locs) (hl : lv_has ls 7 [(4, .int i), (3, .ref (ad 278)), (2, .ref (ad 255)), (1, .ref (ad 0)), (0, .ref b)]) (K : ∀ (th : Nat → Int) (f : HP) (H : Heap) (locs : List Loc) (ls : Array Slot), TI g ad th f → CIv th → MI th → va_P g.1 vwCl (va_pl L f) H → va_D (fun q : Nat => s.heap.size ≤ q) (va_pl L f) → va_S (fun q : Nat => s.heap.size ≤ q) s.heap H locs → lv_has ls 7 [(4, .int i), (3, .ref (ad 278)), (2, .ref (ad 255)), (1, .ref (ad 0)), (0, .ref b)] → W p l e room_1 s m #[Value.ref b] below meth c H locs (1001 + k) (200006 + 6 * k) (lw_Z below #[Value.ref b] s) (F0 m 1333 ls [])) : W p l e room_1 s m #[Value.ref b] below meth c H locs (1000 + k) (200000 + 6 * k) (lw_Z below #[Value.ref b] s) (F0 m 800 ls []) := by
  obtain ⟨hx, hb, hr, hml, hown, hts0, hXs, hbl, hlocks, hgv⟩ := C0
  have hown : s.vm.findClass "RulerWordLaw" = some m.cls := hown
  have hts := hts1 hts0
  have hA : ∀ q, s.heap.size ≤ q → (fun q : Nat => s.heap.size ≤ q) q := fun _ h => h
  have hbA : ¬ (fun q : Nat => s.heap.size ≤ q) b := Nat.not_le.mpr hbl
  refine lv_aload_n hx hb dL_law_800 rfl (lv_at hl 3 rfl) ?_
  refine lv_aload_n hx hb dL_law_801 rfl (lv_at hl 4 rfl) ?_
  refine lv_iload hx hb dL_law_802 (lv_at hl 0 rfl) ?_
  refine lv_iconst (v := 1) hx hb dL_law_804 (by decide) ?_
  refine lv_iadd hx hb dL_law_805 ?_
  refine lv_topi (fun x1 ex1 => ?_)
  have hx1 : x1.toInt = i.toInt + 1 := In.adde (a := 0) (b := 3072) ex1 ⟨hi0, by omega⟩ (k := 1) (by decide) (by decide) (by decide)
  refine va_sld hx hb hXs hbl hbA hS (i := x1) (vp_of (by omega) (by omega)) dL_law_806 ?_
  refine lv_topi (fun x2 ex2 => ?_)
  obtain ⟨_, _, _, hf_me, _, _, _⟩ := hT.1 0 (by decide)
  refine call_i (run_V (rm := rm_X10_letters) hx hb hml hown hts (s_X10_letters l g ad th _ _ _ x2 hst hT ) cV_X10_letters wg_997 ⟨Nat.le_of_ble_eq_true rfl, Nat.le_of_ble_eq_true rfl⟩ hG hE hA hP hD hS (hst.1 0 (by decide)) hf_me rfl rfl hl.1 (As := [.int x2]) (rest := []) rfl (Nat.le_of_ble_eq_true rfl) dL_law_807 ⟨by show 1000 + k + 0 ≤ 601024; omega, by show 200000 + 6 * k + 0 ≤ 7293034; omega⟩) hA hD hS (fun r3 L4 f5 H locs hp6 hP hD hS => ?_)
  obtain ⟨e7L, e7T⟩ := hp6
  have e7L : L4 = L := e7L
  have e7T : f5 = _ := e7T
  rw [e7L, e7T] at hP hD
  refine lv_pop hx hb dL_law_810 rfl ?_
  refine lv_aload_n hx hb dL_law_811 rfl (lv_at hl 2 rfl) ?_
  refine lv_aload_n hx hb dL_law_812 rfl (lv_at hl 4 rfl) ?_
  refine lv_iload hx hb dL_law_813 (lv_at hl 0 rfl) ?_
  refine lv_iconst (v := 1) hx hb dL_law_815 (by decide) ?_
  refine lv_iadd hx hb dL_law_816 ?_
  refine lv_topi (fun x8 ex8 => ?_)
  have hx8 : x8.toInt = i.toInt + 1 := In.adde (a := 0) (b := 3072) ex8 ⟨hi0, by omega⟩ (k := 1) (by decide) (by decide) (by decide)
  refine va_sld hx hb hXs hbl hbA hS (i := x8) (vp_of (by omega) (by omega)) dL_law_817 ?_
  refine lv_topi (fun x9 ex9 => ?_)
  refine M0e hT (fun _ _ _ _ _ _ _ _ _ _ _ _ _ _ _ _ _ _ _ _ _ _ _ _ _ _ _ _ _ _ _ _ _ _ hf_me _ _ _ _ _ _ _ _ _ _ _ _ _ _ _ _ _ _ _ _ _ _ _ _ _ _ _ _ _ _ _ _ _ _ _ _ _ _ _ _ _ => ?_)
  refine call_i (run_V (rm := rm_X11_letters) hx hb hml hown hts (s_X11_letters l g ad th _ _ _ x9 hst hT hM) cV_X11_letters wg_1802 ⟨Nat.le_of_ble_eq_true rfl, Nat.le_of_ble_eq_true rfl⟩ hG hE hA hP hD hS (hst.1 255 (by decide)) hf_me rfl rfl hl.1 (As := [.int x9]) (rest := []) rfl (Nat.le_of_ble_eq_true rfl) dL_law_818 ⟨by show 1000 + k + 0 + 0 ≤ 601024; omega, by show 200000 + 6 * k + 0 + 0 ≤ 7293034; omega⟩) hA hD hS (fun r10 L11 f12 H locs hp13 hP hD hS => ?_)
  obtain ⟨e14L, e14T, _⟩ := hp13
  have e14L : L11 = L := e14L
  have hT : TI g ad _ f12 := e14T
  rw [e14L] at hP hD
  refine lv_pop hx hb dL_law_821 rfl ?_
  refine lv_goto (tgt := 1333) hx hb dL_law_822 (by decide) ?_
  refine W.widen (k := 1001 + k) (n := 200006 + 6 * k) (by show 1000 + k + 0 + 0 ≤ _; omega) (by show 200000 + 6 * k + 0 + 0 ≤ _; omega) ?_
  exact K _ _ _ _ _ hT hC hM hP hD hS (lv_sub hl [0, 1, 2, 3, 4] rfl)

set_option maxHeartbeats 4000000 in
set_option maxRecDepth 100000 in
theorem law_c18 {p : Program} {e : Env} {s : State} {m : MethodId} {below : List Frame} {meth : Method} {c : Code} (l : Launch) {b LL : Nat} {xs : Nat → Int32} (C0 : lw_At p s m meth c b LL xs) (htr : l.stackTraces = false) {g : GG} (hG : GK g s) (hE : SW g (fun q : Nat => s.heap.size ≤ q) s s.heap) {L : List Nat} {ad : Nat → Nat} (hst : ST ad L) {th : Nat → Int} {f : HP} {H : Heap} {locs : List Loc} {ls : Array Slot} {i : Int32} {k : Nat} (hk : k ≤ 511) (hi0 : 0 ≤ i.toInt) (hi : i.toInt + 6 ≤ (LL : Int)) (hLL : LL ≤ 3072) (hT : TI g ad th f) (hC : CIv th) (hM : MI th) (hP : va_P g.1 vwCl (va_pl L f) H) (hD : va_D (fun q : Nat => s.heap.size ≤ q) (va_pl L f)) (hS : va_S (fun q : Nat => s.heap.size ≤ q) s.heap H locs) (hl : lv_has ls 7 [(4, .int i), (3, .ref (ad 278)), (2, .ref (ad 255)), (1, .ref (ad 0)), (0, .ref b)]) (K : ∀ (th : Nat → Int) (f : HP) (H : Heap) (locs : List Loc) (ls : Array Slot), TI g ad th f → CIv th → MI th → va_P g.1 vwCl (va_pl L f) H → va_D (fun q : Nat => s.heap.size ≤ q) (va_pl L f) → va_S (fun q : Nat => s.heap.size ≤ q) s.heap H locs → lv_has ls 7 [(4, .int i), (3, .ref (ad 278)), (2, .ref (ad 255)), (1, .ref (ad 0)), (0, .ref b)] → W p l e room_1 s m #[Value.ref b] below meth c H locs (1001 + k) (200006 + 6 * k) (lw_Z below #[Value.ref b] s) (F0 m 1333 ls [])) : W p l e room_1 s m #[Value.ref b] below meth c H locs (1000 + k) (200000 + 6 * k) (lw_Z below #[Value.ref b] s) (F0 m 825 ls []) := by
  obtain ⟨hx, hb, hr, hml, hown, hts0, hXs, hbl, hlocks, hgv⟩ := C0
  have hown : s.vm.findClass "RulerWordLaw" = some m.cls := hown
  have hts := hts1 hts0
  have hA : ∀ q, s.heap.size ≤ q → (fun q : Nat => s.heap.size ≤ q) q := fun _ h => h
  have hbA : ¬ (fun q : Nat => s.heap.size ≤ q) b := Nat.not_le.mpr hbl
  refine lv_aload_n hx hb dL_law_825 rfl (lv_at hl 3 rfl) ?_
  obtain ⟨_, _, _, hf_me, _, _, _⟩ := hT.1 0 (by decide)
  refine call_i (run_V (rm := rm_X10_trueRuler) hx hb hml hown hts (s_X10_trueRuler l g ad th _ _ _  hst hT ) cV_X10_trueRuler wg_1005 ⟨Nat.le_of_ble_eq_true rfl, Nat.le_of_ble_eq_true rfl⟩ hG hE hA hP hD hS (hst.1 0 (by decide)) hf_me rfl rfl hl.1 (As := []) (rest := []) rfl (Nat.le_of_ble_eq_true rfl) dL_law_826 ⟨by show 1000 + k + 0 ≤ 601024; omega, by show 200000 + 6 * k + 0 ≤ 7293034; omega⟩) hA hD hS (fun r1 L2 f3 H locs hp4 hP hD hS => ?_)
  obtain ⟨e5L, e5T⟩ := hp4
  have e5L : L2 = L := e5L
  have e5T : f3 = _ := e5T
  rw [e5L, e5T] at hP hD
  refine lv_pop hx hb dL_law_829 rfl ?_
  refine lv_aload_n hx hb dL_law_830 rfl (lv_at hl 2 rfl) ?_
  refine M0e hT (fun _ _ _ _ _ _ _ _ _ _ _ _ _ _ _ _ _ _ _ _ _ _ _ _ _ _ _ _ _ _ _ _ _ _ hf_me _ _ _ _ _ _ _ _ _ _ _ _ _ _ _ _ _ _ _ _ _ _ _ _ _ _ _ _ _ _ _ _ _ _ _ _ _ _ _ _ _ => ?_)
  refine call_i (run_V (rm := rm_X11_trueRuler) hx hb hml hown hts (s_X11_trueRuler l g ad th _ _ _  hst hT hM) cV_X11_trueRuler wg_1810 ⟨Nat.le_of_ble_eq_true rfl, Nat.le_of_ble_eq_true rfl⟩ hG hE hA hP hD hS (hst.1 255 (by decide)) hf_me rfl rfl hl.1 (As := []) (rest := []) rfl (Nat.le_of_ble_eq_true rfl) dL_law_831 ⟨by show 1000 + k + 0 + 0 ≤ 601024; omega, by show 200000 + 6 * k + 0 + 0 ≤ 7293034; omega⟩) hA hD hS (fun r6 L7 f8 H locs hp9 hP hD hS => ?_)
  obtain ⟨e10L, e10T, _⟩ := hp9
  have e10L : L7 = L := e10L
  have hT : TI g ad _ f8 := e10T
  rw [e10L] at hP hD
  refine lv_pop hx hb dL_law_834 rfl ?_
  refine lv_goto (tgt := 1333) hx hb dL_law_835 (by decide) ?_
  refine W.widen (k := 1001 + k) (n := 200006 + 6 * k) (by show 1000 + k + 0 + 0 ≤ _; omega) (by show 200000 + 6 * k + 0 + 0 ≤ _; omega) ?_
  exact K _ _ _ _ _ hT hC hM hP hD hS (lv_sub hl [0, 1, 2, 3, 4] rfl)

set_option maxHeartbeats 4000000 in
set_option maxRecDepth 100000 in
theorem law_c19 {p : Program} {e : Env} {s : State} {m : MethodId} {below : List Frame} {meth : Method} {c : Code} (l : Launch) {b LL : Nat} {xs : Nat → Int32} (C0 : lw_At p s m meth c b LL xs) (htr : l.stackTraces = false) {g : GG} (hG : GK g s) (hE : SW g (fun q : Nat => s.heap.size ≤ q) s s.heap) {L : List Nat} {ad : Nat → Nat} (hst : ST ad L) {th : Nat → Int} {f : HP} {H : Heap} {locs : List Loc} {ls : Array Slot} {i : Int32} {k : Nat} (hk : k ≤ 511) (hi0 : 0 ≤ i.toInt) (hi : i.toInt + 6 ≤ (LL : Int)) (hLL : LL ≤ 3072) (hT : TI g ad th f) (hC : CIv th) (hM : MI th) (hP : va_P g.1 vwCl (va_pl L f) H) (hD : va_D (fun q : Nat => s.heap.size ≤ q) (va_pl L f)) (hS : va_S (fun q : Nat => s.heap.size ≤ q) s.heap H locs) (hl : lv_has ls 7 [(4, .int i), (3, .ref (ad 278)), (2, .ref (ad 255)), (1, .ref (ad 0)), (0, .ref b)]) (K : ∀ (th : Nat → Int) (f : HP) (H : Heap) (locs : List Loc) (ls : Array Slot), TI g ad th f → CIv th → MI th → va_P g.1 vwCl (va_pl L f) H → va_D (fun q : Nat => s.heap.size ≤ q) (va_pl L f) → va_S (fun q : Nat => s.heap.size ≤ q) s.heap H locs → lv_has ls 7 [(4, .int i), (3, .ref (ad 278)), (2, .ref (ad 255)), (1, .ref (ad 0)), (0, .ref b)] → W p l e room_1 s m #[Value.ref b] below meth c H locs (1001 + k) (200006 + 6 * k) (lw_Z below #[Value.ref b] s) (F0 m 1333 ls [])) : W p l e room_1 s m #[Value.ref b] below meth c H locs (1000 + k) (200000 + 6 * k) (lw_Z below #[Value.ref b] s) (F0 m 838 ls []) := by
  obtain ⟨hx, hb, hr, hml, hown, hts0, hXs, hbl, hlocks, hgv⟩ := C0
  have hown : s.vm.findClass "RulerWordLaw" = some m.cls := hown
  have hts := hts1 hts0
  have hA : ∀ q, s.heap.size ≤ q → (fun q : Nat => s.heap.size ≤ q) q := fun _ h => h
  have hbA : ¬ (fun q : Nat => s.heap.size ≤ q) b := Nat.not_le.mpr hbl
  refine lv_aload_n hx hb dL_law_838 rfl (lv_at hl 3 rfl) ?_
  refine lv_aload_n hx hb dL_law_839 rfl (lv_at hl 4 rfl) ?_
  refine lv_iload hx hb dL_law_840 (lv_at hl 0 rfl) ?_
  refine lv_iconst (v := 1) hx hb dL_law_842 (by decide) ?_
  refine lv_iadd hx hb dL_law_843 ?_
  refine lv_topi (fun x1 ex1 => ?_)
  have hx1 : x1.toInt = i.toInt + 1 := In.adde (a := 0) (b := 3072) ex1 ⟨hi0, by omega⟩ (k := 1) (by decide) (by decide) (by decide)
  refine va_sld hx hb hXs hbl hbA hS (i := x1) (vp_of (by omega) (by omega)) dL_law_844 ?_
  refine lv_topi (fun x2 ex2 => ?_)
  refine lv_aload_n hx hb dL_law_845 rfl (lv_at hl 4 rfl) ?_
  refine lv_iload hx hb dL_law_846 (lv_at hl 0 rfl) ?_
  refine lv_iconst (v := 2) hx hb dL_law_848 (by decide) ?_
  refine lv_iadd hx hb dL_law_849 ?_
  refine lv_topi (fun x3 ex3 => ?_)
  have hx3 : x3.toInt = i.toInt + 2 := In.adde (a := 0) (b := 3072) ex3 ⟨hi0, by omega⟩ (k := 2) (by decide) (by decide) (by decide)
  refine va_sld hx hb hXs hbl hbA hS (i := x3) (vp_of (by omega) (by omega)) dL_law_850 ?_
  refine lv_topi (fun x4 ex4 => ?_)
  obtain ⟨_, _, _, hf_me, _, _, _⟩ := hT.1 0 (by decide)
  refine call_i (run_V (rm := rm_X10_greatest) hx hb hml hown hts (s_X10_greatest l g ad th _ _ _ x2 x4 hst hT ) cV_X10_greatest wg_1009 ⟨Nat.le_of_ble_eq_true rfl, Nat.le_of_ble_eq_true rfl⟩ hG hE hA hP hD hS (hst.1 0 (by decide)) hf_me rfl rfl hl.1 (As := [.int x2, .int x4]) (rest := []) rfl (Nat.le_of_ble_eq_true rfl) dL_law_851 ⟨by show 1000 + k + 0 ≤ 601024; omega, by show 200000 + 6 * k + 0 ≤ 7293034; omega⟩) hA hD hS (fun r5 L6 f7 H locs hp8 hP hD hS => ?_)
  obtain ⟨e9L, e9T, e9X0⟩ := hp8
  have e9L : L6 = L := e9L
  have e9T : f7 = _ := e9T
  rw [e9L, e9T] at hP hD
  refine lv_aload_n hx hb dL_law_854 rfl (lv_at hl 2 rfl) ?_
  refine lv_aload_n hx hb dL_law_855 rfl (lv_at hl 4 rfl) ?_
  refine lv_iload hx hb dL_law_856 (lv_at hl 0 rfl) ?_
  refine lv_iconst (v := 1) hx hb dL_law_858 (by decide) ?_
  refine lv_iadd hx hb dL_law_859 ?_
  refine lv_topi (fun x10 ex10 => ?_)
  have hx10 : x10.toInt = i.toInt + 1 := In.adde (a := 0) (b := 3072) ex10 ⟨hi0, by omega⟩ (k := 1) (by decide) (by decide) (by decide)
  refine va_sld hx hb hXs hbl hbA hS (i := x10) (vp_of (by omega) (by omega)) dL_law_860 ?_
  refine lv_topi (fun x11 ex11 => ?_)
  refine lv_aload_n hx hb dL_law_861 rfl (lv_at hl 4 rfl) ?_
  refine lv_iload hx hb dL_law_862 (lv_at hl 0 rfl) ?_
  refine lv_iconst (v := 2) hx hb dL_law_864 (by decide) ?_
  refine lv_iadd hx hb dL_law_865 ?_
  refine lv_topi (fun x12 ex12 => ?_)
  have hx12 : x12.toInt = i.toInt + 2 := In.adde (a := 0) (b := 3072) ex12 ⟨hi0, by omega⟩ (k := 2) (by decide) (by decide) (by decide)
  refine va_sld hx hb hXs hbl hbA hS (i := x12) (vp_of (by omega) (by omega)) dL_law_866 ?_
  refine lv_topi (fun x13 ex13 => ?_)
  refine M0e hT (fun _ _ _ _ _ _ _ _ _ _ _ _ _ _ _ _ _ _ _ _ _ _ _ _ _ _ _ _ _ _ _ _ _ _ hf_me _ _ _ _ _ _ _ _ _ _ _ _ _ _ _ _ _ _ _ _ _ _ _ _ _ _ _ _ _ _ _ _ _ _ _ _ _ _ _ _ _ => ?_)
  refine call_i (run_V (rm := rm_X11_greatest) hx hb hml hown hts (s_X11_greatest l g ad th _ _ _ x11 x13 hst hT ) cV_X11_greatest wg_1814 ⟨Nat.le_of_ble_eq_true rfl, Nat.le_of_ble_eq_true rfl⟩ hG hE hA hP hD hS (hst.1 255 (by decide)) hf_me rfl rfl hl.1 (As := [.int x11, .int x13]) (rest := [.int r5]) rfl (Nat.le_of_ble_eq_true rfl) dL_law_867 ⟨by show 1000 + k + 0 + 0 ≤ 601024; omega, by show 200000 + 6 * k + 0 + 0 ≤ 7293034; omega⟩) hA hD hS (fun r14 L15 f16 H locs hp17 hP hD hS => ?_)
  obtain ⟨e18L, e18T, _, e18X0⟩ := hp17
  have e18L : L15 = L := e18L
  have hT : TI g ad _ f16 := e18T
  rw [e18L] at hP hD
  have hsm20 : x11 = x2 := by rw [ex11, ex2, Int32.toInt_inj.mp (hx10.trans hx1.symm)]
  rw [hsm20] at e18X0
  have hsm21 : x13 = x4 := by rw [ex13, ex4, Int32.toInt_inj.mp (hx12.trans hx3.symm)]
  rw [hsm21] at e18X0
  refine lv_icmp_eq (tgt := 1333) hx hb dL_law_870 (by decide) (fun c19 => ?_) (fun c19 => absurd (e9X0.trans e18X0.symm) c19)
  refine W.widen (k := 1001 + k) (n := 200006 + 6 * k) (by show 1000 + k + 0 + 0 ≤ _; omega) (by show 200000 + 6 * k + 0 + 0 ≤ _; omega) ?_
  exact K _ _ _ _ _ hT hC hM hP hD hS (lv_sub hl [0, 1, 2, 3, 4] rfl)
