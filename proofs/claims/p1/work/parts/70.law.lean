def FX (g : GG) (f : HP) (L : List Nat) (x t tb dr co ot dp pa pn pl pb ch fr nw n0 n1 n2 n3 n4 n5 n6 n7 n8 kp tr ac ah se tx rf : Nat) : Prop := x ∈ L ∧ f x = .inr (9, [.ref t, .ref dr, .ref co, .ref ot, .ref dp, .ref pn, .ref ch, .ref fr, .ref nw, .ref kp, .ref tr, .ref ac, .ref se, .ref tx, .ref rf, .int 0, .int 0, .long 0]) ∧ t ∈ L ∧ f t = .inr (8, [.ref tb, .int 0, .int 0, .int 0, .int 0]) ∧ tb ∈ L ∧ f tb = .inl (g.2.1 0, 520, .inl (fun _ => 0)) ∧ dr ∈ L ∧ f dr = .inr (2, [.int 0, .int 0, .int 0, .int 0, .int 0, .int 0, .int 0, .int 0]) ∧ co ∈ L ∧ f co = .inr (2, [.int 0, .int 0, .int 0, .int 0, .int 0, .int 0, .int 0, .int 0]) ∧ dp ∈ L ∧ f dp = .inr (5, [.ref pa, .int 0]) ∧ pa ∈ L ∧ f pa = .inl (g.2.1 0, 100, .inl (fun _ => 0)) ∧ pn ∈ L ∧ f pn = .inr (6, [.int 0, .int 0, .ref pl]) ∧ pl ∈ L ∧ f pl = .inr (5, [.ref pb, .int 0]) ∧ nw ∈ L ∧ f nw = .inr (3, [.int 0, .int 0, .int 0, .int 0, .int 0, .int 0, .int 0, .long 0, .long 0, .ref n0, .ref n1, .ref n2, .ref n3, .ref n4, .ref n5, .ref n6, .ref n7, .ref n8]) ∧ ac ∈ L ∧ f ac = .inr (0, [.ref ah, .int 0, .int 0]) ∧ rf ∈ L ∧ f rf = .inl (g.2.1 0, 5, .inl (fun _ => 0))
def FM (g : GG) (f : HP) (L : List Nat) (mo ar1 ar7 ar10 ar11 ar24 ar26 ar27 ar28 ar29 ar30 ar31 ar32 ar33 ar34 ar35 ar41 ar42 ar43 ar44 ar49 ar52 ar54 : Nat) : Prop := mo ∈ L ∧ f mo = .inr (10, [.int 0, .ref ar1, .int 0, .int 0, .int 0, .int 0, .int 0, .ref ar7, .int 0, .int 0, .ref ar10, .ref ar11, .int 0, .int 0, .int 0, .int 0, .int 0, .int 0, .int 0, .int 0, .int 0, .long 0, .long 0, .int 0, .ref ar24, .int 0, .ref ar26, .ref ar27, .ref ar28, .ref ar29, .ref ar30, .ref ar31, .ref ar32, .ref ar33, .ref ar34, .ref ar35, .int 0, .int 0, .int 0, .int 0, .int 0, .ref ar41, .ref ar42, .ref ar43, .ref ar44, .long 0, .long 0, .int 0, .int 0, .ref ar49, .int 0, .int 0, .ref ar52, .int 0, .ref ar54, .int 0]) ∧ ar1 ∈ L ∧ f ar1 = .inl (g.2.1 2, 500, .inl (fun _ => 0)) ∧ ar7 ∈ L ∧ f ar7 = .inl (g.2.1 0, 6, .inl (fun _ => 0)) ∧ ar11 ∈ L ∧ f ar11 = .inl (g.2.1 0, 100, .inl (fun _ => 0)) ∧ ar49 ∈ L ∧ f ar49 = .inl (g.2.1 0, 5, .inl (fun _ => 0))
theorem hts1 {args : Array Value} {s : State} (h : ∀ w ∈ lw_tbl, w.before args s = true) : ∀ w ∈ Cond.initialized "RulerWord" :: GW, w.before args s = true := fun w q => (List.mem_cons.mp q).elim (fun e => by rw [e]; exact h _ (lw_of wg_157)) (fun q => h _ (lw_of q))
set_option maxHeartbeats 4000000 in
theorem law_end {p : Program} {e : Env} {s : State} {m : MethodId} {below : List Frame} {meth : Method} {c : Code} (l : Launch) {b : Nat} {xs : Nat → Int32} (C0 : lw_At p s m meth c b 6 xs) {H : Heap} {locs : List Loc} {cells slots : Nat} (hc : cells ≤ 600002) (hs : slots ≤ 7302232) (hS : va_S (fun q : Nat => s.heap.size ≤ q) s.heap H locs) {ls : Array Slot} (hl : lv_has ls 7 [(4, .int 0), (0, .ref b)]) : W p l e room_1 s m #[Value.ref b] below meth c H locs cells slots (lw_Z below #[Value.ref b] s) (F0 m 1361 ls []) := by
  obtain ⟨hx, hb, hr, hml, hown, hts0, hXs, hbl, hlocks, hgv⟩ := C0
  have hown : s.vm.findClass "RulerWordLaw" = some m.cls := hown
  have hts := hts1 hts0
  have hA : ∀ q, s.heap.size ≤ q → (fun q : Nat => s.heap.size ≤ q) q := fun _ h => h
  have hbA : ¬ (fun q : Nat => s.heap.size ≤ q) b := Nat.not_le.mpr hbl
  refine lv_iinc (v := 6) (lv' := [(4, .int 6), (0, .ref b)]) hx hb dL_law_1361 hl (k := 0) rfl (by decide) (by decide) rfl (fun ls hl => ?_)
  refine lv_goto (tgt := 23) hx hb dL_law_1364 (by decide) ?_
  refine lv_iload hx hb dL_law_23 (lv_at hl 0 rfl) ?_
  refine lv_aload_n hx hb dL_law_25 rfl (lv_at hl 1 rfl) ?_
  refine va_slen hx hb hXs hbl hbA hS dL_law_26 ?_
  refine lv_bipush (v := 6) hx hb dL_law_27 (by decide) ?_
  refine lv_isub hx hb dL_law_29 ?_
  refine lv_topi (fun x1 ex1 => ?_)
  obtain rfl : x1 = 0 := ex1.trans (by decide)
  refine lv_icmp_gt (tgt := 1367) hx hb dL_law_30 (by decide) (fun c1 => ?_) (fun c1 => absurd (by decide) c1)
  refine lv_iconst (v := 1) hx hb dL_law_1367 (by decide) ?_
  refine va_forget (fun q hq => hS.2.2 q hq) (W.widen (k := 600002) (n := 7302232) hc hs ?_)
  exact lw_ret hx hb hr hlocks dL_law_1368

set_option maxHeartbeats 4000000 in
theorem law_c0 {p : Program} {e : Env} {s : State} {m : MethodId} {below : List Frame} {meth : Method} {c : Code} (l : Launch) {b : Nat} {xs : Nat → Int32} (C0 : lw_At p s m meth c b 6 xs) (htr : l.stackTraces = false) {g : GG} (hG : GK g s) (hE : SW g (fun q : Nat => s.heap.size ≤ q) s s.heap) {Lx Lm : List Nat} {f : HP} {x t tb dr co ot dp pa pn pl pb ch fr nw n0 n1 n2 n3 n4 n5 n6 n7 n8 kp tr ac ah se tx rf mo ar1 ar7 ar10 ar11 ar24 ar26 ar27 ar28 ar29 ar30 ar31 ar32 ar33 ar34 ar35 ar41 ar42 ar43 ar44 ar49 ar52 ar54 o : Nat} {H : Heap} {locs : List Loc} (hPx : va_P g.1 vwCl (va_pl Lx f) H) (hDx : va_D (fun q : Nat => s.heap.size ≤ q) (va_pl Lx f)) (hPm : va_P g.1 vwCl (va_pl Lm f) H) (hDm : va_D (fun q : Nat => s.heap.size ≤ q) (va_pl Lm f)) (hdis : ∀ a, a ∈ Lm → a ∉ Lx) (hS : va_S (fun q : Nat => s.heap.size ≤ q) s.heap H locs) (hX : FX g f Lx x t tb dr co ot dp pa pn pl pb ch fr nw n0 n1 n2 n3 n4 n5 n6 n7 n8 kp tr ac ah se tx rf) (hM : FM g f Lm mo ar1 ar7 ar10 ar11 ar24 ar26 ar27 ar28 ar29 ar30 ar31 ar32 ar33 ar34 ar35 ar41 ar42 ar43 ar44 ar49 ar52 ar54) {ls : Array Slot} (hl : lv_has ls 7 [(4, .int 0), (3, .ref o), (2, .ref mo), (1, .ref x), (0, .ref b)]) : W p l e room_1 s m #[Value.ref b] below meth c H locs 1000 200000 (lw_Z below #[Value.ref b] s) (F0 m 208 ls []) := by
  obtain ⟨hx, hb, hr, hml, hown, hts0, hXs, hbl, hlocks, hgv⟩ := C0
  have hown : s.vm.findClass "RulerWordLaw" = some m.cls := hown
  have hts := hts1 hts0
  have hA : ∀ q, s.heap.size ≤ q → (fun q : Nat => s.heap.size ≤ q) q := fun _ h => h
  have hbA : ¬ (fun q : Nat => s.heap.size ≤ q) b := Nat.not_le.mpr hbl
  have hCE : lw_At p s m meth c b 6 xs := ⟨hx, hb, hr, hml, hown, hts0, hXs, hbl, hlocks, hgv⟩
  obtain ⟨hm_x, hf_x, hm_t, hf_t, hm_tb, hf_tb, hm_dr, hf_dr, hm_co, hf_co, hm_dp, hf_dp, hm_pa, hf_pa, hm_pn, hf_pn, hm_pl, hf_pl, hm_nw, hf_nw, hm_ac, hf_ac, hm_rf, hf_rf⟩ := hX
  obtain ⟨hm_mo, hf_mo, hm_ar1, hf_ar1, hm_ar7, hf_ar7, hm_ar11, hf_ar11, hm_ar49, hf_ar49⟩ := hM
  refine lv_aload_n hx hb dL_law_208 rfl (lv_at hl 3 rfl) ?_
  refine lv_aload_n hx hb dL_law_209 rfl (lv_at hl 4 rfl) ?_
  refine lv_iload hx hb dL_law_210 (lv_at hl 0 rfl) ?_
  refine lv_iconst (v := 1) hx hb dL_law_212 (by decide) ?_
  refine lv_iadd hx hb dL_law_213 ?_
  refine lv_topi (fun x1 ex1 => ?_)
  obtain rfl : x1 = 1 := ex1.trans (by decide)
  refine va_sld hx hb hXs hbl hbA hS (i := 1) (by unfold vp_in; decide) dL_law_214 ?_
  refine lv_topi (fun x2 ex2 => ?_)
  obtain rfl : x2 = xs 1 := ex2
  refine lv_aload_n hx hb dL_law_215 rfl (lv_at hl 4 rfl) ?_
  refine lv_iload hx hb dL_law_216 (lv_at hl 0 rfl) ?_
  refine lv_iconst (v := 2) hx hb dL_law_218 (by decide) ?_
  refine lv_iadd hx hb dL_law_219 ?_
  refine lv_topi (fun x3 ex3 => ?_)
  obtain rfl : x3 = 2 := ex3.trans (by decide)
  refine va_sld hx hb hXs hbl hbA hS (i := 2) (by unfold vp_in; decide) dL_law_220 ?_
  refine lv_topi (fun x4 ex4 => ?_)
  obtain rfl : x4 = xs 2 := ex4
  refine lv_aload_n hx hb dL_law_221 rfl (lv_at hl 4 rfl) ?_
  refine lv_iload hx hb dL_law_222 (lv_at hl 0 rfl) ?_
  refine lv_iconst (v := 3) hx hb dL_law_224 (by decide) ?_
  refine lv_iadd hx hb dL_law_225 ?_
  refine lv_topi (fun x5 ex5 => ?_)
  obtain rfl : x5 = 3 := ex5.trans (by decide)
  refine va_sld hx hb hXs hbl hbA hS (i := 3) (by unfold vp_in; decide) dL_law_226 ?_
  refine lv_topi (fun x6 ex6 => ?_)
  obtain rfl : x6 = xs 3 := ex6
  refine lv_aload_n hx hb dL_law_227 rfl (lv_at hl 4 rfl) ?_
  refine lv_iload hx hb dL_law_228 (lv_at hl 0 rfl) ?_
  refine lv_iconst (v := 4) hx hb dL_law_230 (by decide) ?_
  refine lv_iadd hx hb dL_law_231 ?_
  refine lv_topi (fun x7 ex7 => ?_)
  obtain rfl : x7 = 4 := ex7.trans (by decide)
  refine va_sld hx hb hXs hbl hbA hS (i := 4) (by unfold vp_in; decide) dL_law_232 ?_
  refine lv_topi (fun x8 ex8 => ?_)
  obtain rfl : x8 = xs 4 := ex8
  refine lv_aload_n hx hb dL_law_233 rfl (lv_at hl 4 rfl) ?_
  refine lv_iload hx hb dL_law_234 (lv_at hl 0 rfl) ?_
  refine lv_iconst (v := 5) hx hb dL_law_236 (by decide) ?_
  refine lv_iadd hx hb dL_law_237 ?_
  refine lv_topi (fun x9 ex9 => ?_)
  obtain rfl : x9 = 5 := ex9.trans (by decide)
  refine va_sld hx hb hXs hbl hbA hS (i := 5) (by unfold vp_in; decide) dL_law_238 ?_
  refine lv_topi (fun x10 ex10 => ?_)
  obtain rfl : x10 = xs 5 := ex10
  refine call_k (run_V (rm := { frames := 2, cells := 0, slots := 0, locals := 44 }) hx hb hml hown hts (k_X10_feed l g _ _ _ x t dr co ot dp pn ch fr nw kp tr ac se tx rf tb (xs 1) (xs 2) (xs 3) (xs 4) (xs 5) hm_x hf_x hm_t hf_t hm_tb hf_tb) cV_X10_feed wg_530 ⟨Nat.le_of_ble_eq_true rfl, Nat.le_of_ble_eq_true rfl⟩ hG hE hA hPx hDx hS hm_x hf_x rfl rfl hl.1 (As := [.int (xs 1), .int (xs 2), .int (xs 3), .int (xs 4), .int (xs 5)]) (rest := []) rfl (Nat.le_of_ble_eq_true rfl) dL_law_239 ⟨Nat.le_of_ble_eq_true rfl, Nat.le_of_ble_eq_true rfl⟩) hA hDx hS hPm hdis (fun r11 u1 H locs hp12 hPm hS => ?_)
  refine lv_aload_n hx hb dL_law_242 rfl (lv_at hl 2 rfl) ?_
  refine lv_aload_n hx hb dL_law_243 rfl (lv_at hl 4 rfl) ?_
  refine lv_iload hx hb dL_law_244 (lv_at hl 0 rfl) ?_
  refine lv_iconst (v := 1) hx hb dL_law_246 (by decide) ?_
  refine lv_iadd hx hb dL_law_247 ?_
  refine lv_topi (fun x13 ex13 => ?_)
  obtain rfl : x13 = 1 := ex13.trans (by decide)
  refine va_sld hx hb hXs hbl hbA hS (i := 1) (by unfold vp_in; decide) dL_law_248 ?_
  refine lv_topi (fun x14 ex14 => ?_)
  obtain rfl : x14 = xs 1 := ex14
  refine lv_aload_n hx hb dL_law_249 rfl (lv_at hl 4 rfl) ?_
  refine lv_iload hx hb dL_law_250 (lv_at hl 0 rfl) ?_
  refine lv_iconst (v := 2) hx hb dL_law_252 (by decide) ?_
  refine lv_iadd hx hb dL_law_253 ?_
  refine lv_topi (fun x15 ex15 => ?_)
  obtain rfl : x15 = 2 := ex15.trans (by decide)
  refine va_sld hx hb hXs hbl hbA hS (i := 2) (by unfold vp_in; decide) dL_law_254 ?_
  refine lv_topi (fun x16 ex16 => ?_)
  obtain rfl : x16 = xs 2 := ex16
  refine lv_aload_n hx hb dL_law_255 rfl (lv_at hl 4 rfl) ?_
  refine lv_iload hx hb dL_law_256 (lv_at hl 0 rfl) ?_
  refine lv_iconst (v := 3) hx hb dL_law_258 (by decide) ?_
  refine lv_iadd hx hb dL_law_259 ?_
  refine lv_topi (fun x17 ex17 => ?_)
  obtain rfl : x17 = 3 := ex17.trans (by decide)
  refine va_sld hx hb hXs hbl hbA hS (i := 3) (by unfold vp_in; decide) dL_law_260 ?_
  refine lv_topi (fun x18 ex18 => ?_)
  obtain rfl : x18 = xs 3 := ex18
  refine lv_aload_n hx hb dL_law_261 rfl (lv_at hl 4 rfl) ?_
  refine lv_iload hx hb dL_law_262 (lv_at hl 0 rfl) ?_
  refine lv_iconst (v := 4) hx hb dL_law_264 (by decide) ?_
  refine lv_iadd hx hb dL_law_265 ?_
  refine lv_topi (fun x19 ex19 => ?_)
  obtain rfl : x19 = 4 := ex19.trans (by decide)
  refine va_sld hx hb hXs hbl hbA hS (i := 4) (by unfold vp_in; decide) dL_law_266 ?_
  refine lv_topi (fun x20 ex20 => ?_)
  obtain rfl : x20 = xs 4 := ex20
  refine lv_aload_n hx hb dL_law_267 rfl (lv_at hl 4 rfl) ?_
  refine lv_iload hx hb dL_law_268 (lv_at hl 0 rfl) ?_
  refine lv_iconst (v := 5) hx hb dL_law_270 (by decide) ?_
  refine lv_iadd hx hb dL_law_271 ?_
  refine lv_topi (fun x21 ex21 => ?_)
  obtain rfl : x21 = 5 := ex21.trans (by decide)
  refine va_sld hx hb hXs hbl hbA hS (i := 5) (by unfold vp_in; decide) dL_law_272 ?_
  refine lv_topi (fun x22 ex22 => ?_)
  obtain rfl : x22 = xs 5 := ex22
  refine call_i (run_V (rm := { frames := 1, cells := 0, slots := 0, locals := 23 }) hx hb hml hown hts (k_X11_feed l g _ _ _ mo ar1 ar7 ar10 ar11 ar24 ar26 ar27 ar28 ar29 ar30 ar31 ar32 ar33 ar34 ar35 ar41 ar42 ar43 ar44 ar49 ar52 ar54 (xs 1) (xs 2) (xs 3) (xs 4) (xs 5) hm_mo hf_mo hm_ar1 hf_ar1) cV_X11_feed wg_1510 ⟨Nat.le_of_ble_eq_true rfl, Nat.le_of_ble_eq_true rfl⟩ hG hE hA hPm hDm hS hm_mo hf_mo rfl rfl hl.1 (As := [.int (xs 1), .int (xs 2), .int (xs 3), .int (xs 4), .int (xs 5)]) (rest := [.int r11]) rfl (Nat.le_of_ble_eq_true rfl) dL_law_273 ⟨Nat.le_of_ble_eq_true rfl, Nat.le_of_ble_eq_true rfl⟩) hA hDm hS (fun r23 L2 f2 H locs hp24 hP2 hD2 hS => ?_)
  refine lv_icmp_eq (tgt := 1361) hx hb dL_law_276 (by decide) (fun c25 => ?_) (fun c25 => absurd (hp12.trans ((fdUS _ _ _ _ _).trans hp24.symm)) c25)
  exact law_end l hCE (Nat.le_of_ble_eq_true rfl) (Nat.le_of_ble_eq_true rfl) hS (lv_sub hl [0, 4] rfl)

set_option maxHeartbeats 4000000 in
theorem law_c1 {p : Program} {e : Env} {s : State} {m : MethodId} {below : List Frame} {meth : Method} {c : Code} (l : Launch) {b : Nat} {xs : Nat → Int32} (C0 : lw_At p s m meth c b 6 xs) (htr : l.stackTraces = false) {g : GG} (hG : GK g s) (hE : SW g (fun q : Nat => s.heap.size ≤ q) s s.heap) {Lx Lm : List Nat} {f : HP} {x t tb dr co ot dp pa pn pl pb ch fr nw n0 n1 n2 n3 n4 n5 n6 n7 n8 kp tr ac ah se tx rf mo ar1 ar7 ar10 ar11 ar24 ar26 ar27 ar28 ar29 ar30 ar31 ar32 ar33 ar34 ar35 ar41 ar42 ar43 ar44 ar49 ar52 ar54 o : Nat} {H : Heap} {locs : List Loc} (hPx : va_P g.1 vwCl (va_pl Lx f) H) (hDx : va_D (fun q : Nat => s.heap.size ≤ q) (va_pl Lx f)) (hPm : va_P g.1 vwCl (va_pl Lm f) H) (hDm : va_D (fun q : Nat => s.heap.size ≤ q) (va_pl Lm f)) (hdis : ∀ a, a ∈ Lm → a ∉ Lx) (hS : va_S (fun q : Nat => s.heap.size ≤ q) s.heap H locs) (hX : FX g f Lx x t tb dr co ot dp pa pn pl pb ch fr nw n0 n1 n2 n3 n4 n5 n6 n7 n8 kp tr ac ah se tx rf) (hM : FM g f Lm mo ar1 ar7 ar10 ar11 ar24 ar26 ar27 ar28 ar29 ar30 ar31 ar32 ar33 ar34 ar35 ar41 ar42 ar43 ar44 ar49 ar52 ar54) {ls : Array Slot} (hl : lv_has ls 7 [(4, .int 0), (3, .ref o), (2, .ref mo), (1, .ref x), (0, .ref b)]) : W p l e room_1 s m #[Value.ref b] below meth c H locs 1000 200000 (lw_Z below #[Value.ref b] s) (F0 m 281 ls []) := by
  obtain ⟨hx, hb, hr, hml, hown, hts0, hXs, hbl, hlocks, hgv⟩ := C0
  have hown : s.vm.findClass "RulerWordLaw" = some m.cls := hown
  have hts := hts1 hts0
  have hA : ∀ q, s.heap.size ≤ q → (fun q : Nat => s.heap.size ≤ q) q := fun _ h => h
  have hbA : ¬ (fun q : Nat => s.heap.size ≤ q) b := Nat.not_le.mpr hbl
  have hCE : lw_At p s m meth c b 6 xs := ⟨hx, hb, hr, hml, hown, hts0, hXs, hbl, hlocks, hgv⟩
  obtain ⟨hm_x, hf_x, hm_t, hf_t, hm_tb, hf_tb, hm_dr, hf_dr, hm_co, hf_co, hm_dp, hf_dp, hm_pa, hf_pa, hm_pn, hf_pn, hm_pl, hf_pl, hm_nw, hf_nw, hm_ac, hf_ac, hm_rf, hf_rf⟩ := hX
  obtain ⟨hm_mo, hf_mo, hm_ar1, hf_ar1, hm_ar7, hf_ar7, hm_ar11, hf_ar11, hm_ar49, hf_ar49⟩ := hM
  refine lv_aload_n hx hb dL_law_281 rfl (lv_at hl 3 rfl) ?_
  refine lv_aload_n hx hb dL_law_282 rfl (lv_at hl 4 rfl) ?_
  refine lv_iload hx hb dL_law_283 (lv_at hl 0 rfl) ?_
  refine lv_iconst (v := 1) hx hb dL_law_285 (by decide) ?_
  refine lv_iadd hx hb dL_law_286 ?_
  refine lv_topi (fun x1 ex1 => ?_)
  obtain rfl : x1 = 1 := ex1.trans (by decide)
  refine va_sld hx hb hXs hbl hbA hS (i := 1) (by unfold vp_in; decide) dL_law_287 ?_
  refine lv_topi (fun x2 ex2 => ?_)
  obtain rfl : x2 = xs 1 := ex2
  refine call_k (run_V (rm := { frames := 0, cells := 0, slots := 0, locals := 0 }) hx hb hml hown hts (k_X10_end l g _ _ _ x t dr co ot dp pn ch fr nw kp tr ac se tx rf tb (xs 1) hm_x hf_x hm_t hf_t) cV_X10_end wg_542 ⟨Nat.le_of_ble_eq_true rfl, Nat.le_of_ble_eq_true rfl⟩ hG hE hA hPx hDx hS hm_x hf_x rfl rfl hl.1 (As := [.int (xs 1)]) (rest := []) rfl (Nat.le_of_ble_eq_true rfl) dL_law_288 ⟨Nat.le_of_ble_eq_true rfl, Nat.le_of_ble_eq_true rfl⟩) hA hDx hS hPm hdis (fun r3 u1 H locs hp4 hPm hS => ?_)
  refine lv_aload_n hx hb dL_law_291 rfl (lv_at hl 2 rfl) ?_
  refine lv_aload_n hx hb dL_law_292 rfl (lv_at hl 4 rfl) ?_
  refine lv_iload hx hb dL_law_293 (lv_at hl 0 rfl) ?_
  refine lv_iconst (v := 1) hx hb dL_law_295 (by decide) ?_
  refine lv_iadd hx hb dL_law_296 ?_
  refine lv_topi (fun x5 ex5 => ?_)
  obtain rfl : x5 = 1 := ex5.trans (by decide)
  refine va_sld hx hb hXs hbl hbA hS (i := 1) (by unfold vp_in; decide) dL_law_297 ?_
  refine lv_topi (fun x6 ex6 => ?_)
  obtain rfl : x6 = xs 1 := ex6
  refine call_i (run_V (rm := { frames := 0, cells := 0, slots := 0, locals := 0 }) hx hb hml hown hts (k_X11_end l g _ _ _ mo ar1 ar7 ar10 ar11 ar24 ar26 ar27 ar28 ar29 ar30 ar31 ar32 ar33 ar34 ar35 ar41 ar42 ar43 ar44 ar49 ar52 ar54 (xs 1) hm_mo hf_mo) cV_X11_end wg_1521 ⟨Nat.le_of_ble_eq_true rfl, Nat.le_of_ble_eq_true rfl⟩ hG hE hA hPm hDm hS hm_mo hf_mo rfl rfl hl.1 (As := [.int (xs 1)]) (rest := [.int r3]) rfl (Nat.le_of_ble_eq_true rfl) dL_law_298 ⟨Nat.le_of_ble_eq_true rfl, Nat.le_of_ble_eq_true rfl⟩) hA hDm hS (fun r7 L2 f2 H locs hp8 hP2 hD2 hS => ?_)
  refine lv_icmp_eq (tgt := 1361) hx hb dL_law_301 (by decide) (fun c9 => ?_) (fun c9 => absurd (hp4.trans hp8.symm) c9)
  exact law_end l hCE (Nat.le_of_ble_eq_true rfl) (Nat.le_of_ble_eq_true rfl) hS (lv_sub hl [0, 4] rfl)

set_option maxHeartbeats 4000000 in
theorem law_c2 {p : Program} {e : Env} {s : State} {m : MethodId} {below : List Frame} {meth : Method} {c : Code} (l : Launch) {b : Nat} {xs : Nat → Int32} (C0 : lw_At p s m meth c b 6 xs) (htr : l.stackTraces = false) {g : GG} (hG : GK g s) (hE : SW g (fun q : Nat => s.heap.size ≤ q) s s.heap) {Lx Lm : List Nat} {f : HP} {x t tb dr co ot dp pa pn pl pb ch fr nw n0 n1 n2 n3 n4 n5 n6 n7 n8 kp tr ac ah se tx rf mo ar1 ar7 ar10 ar11 ar24 ar26 ar27 ar28 ar29 ar30 ar31 ar32 ar33 ar34 ar35 ar41 ar42 ar43 ar44 ar49 ar52 ar54 o : Nat} {H : Heap} {locs : List Loc} (hPx : va_P g.1 vwCl (va_pl Lx f) H) (hDx : va_D (fun q : Nat => s.heap.size ≤ q) (va_pl Lx f)) (hPm : va_P g.1 vwCl (va_pl Lm f) H) (hDm : va_D (fun q : Nat => s.heap.size ≤ q) (va_pl Lm f)) (hdis : ∀ a, a ∈ Lm → a ∉ Lx) (hS : va_S (fun q : Nat => s.heap.size ≤ q) s.heap H locs) (hX : FX g f Lx x t tb dr co ot dp pa pn pl pb ch fr nw n0 n1 n2 n3 n4 n5 n6 n7 n8 kp tr ac ah se tx rf) (hM : FM g f Lm mo ar1 ar7 ar10 ar11 ar24 ar26 ar27 ar28 ar29 ar30 ar31 ar32 ar33 ar34 ar35 ar41 ar42 ar43 ar44 ar49 ar52 ar54) {ls : Array Slot} (hl : lv_has ls 7 [(4, .int 0), (3, .ref o), (2, .ref mo), (1, .ref x), (0, .ref b)]) : W p l e room_1 s m #[Value.ref b] below meth c H locs 1000 200000 (lw_Z below #[Value.ref b] s) (F0 m 306 ls []) := by
  obtain ⟨hx, hb, hr, hml, hown, hts0, hXs, hbl, hlocks, hgv⟩ := C0
  have hown : s.vm.findClass "RulerWordLaw" = some m.cls := hown
  have hts := hts1 hts0
  have hA : ∀ q, s.heap.size ≤ q → (fun q : Nat => s.heap.size ≤ q) q := fun _ h => h
  have hbA : ¬ (fun q : Nat => s.heap.size ≤ q) b := Nat.not_le.mpr hbl
  have hCE : lw_At p s m meth c b 6 xs := ⟨hx, hb, hr, hml, hown, hts0, hXs, hbl, hlocks, hgv⟩
  obtain ⟨hm_x, hf_x, hm_t, hf_t, hm_tb, hf_tb, hm_dr, hf_dr, hm_co, hf_co, hm_dp, hf_dp, hm_pa, hf_pa, hm_pn, hf_pn, hm_pl, hf_pl, hm_nw, hf_nw, hm_ac, hf_ac, hm_rf, hf_rf⟩ := hX
  obtain ⟨hm_mo, hf_mo, hm_ar1, hf_ar1, hm_ar7, hf_ar7, hm_ar11, hf_ar11, hm_ar49, hf_ar49⟩ := hM
  refine lv_aload_n hx hb dL_law_306 rfl (lv_at hl 3 rfl) ?_
  refine lv_aload_n hx hb dL_law_307 rfl (lv_at hl 4 rfl) ?_
  refine lv_iload hx hb dL_law_308 (lv_at hl 0 rfl) ?_
  refine lv_iconst (v := 1) hx hb dL_law_310 (by decide) ?_
  refine lv_iadd hx hb dL_law_311 ?_
  refine lv_topi (fun x1 ex1 => ?_)
  obtain rfl : x1 = 1 := ex1.trans (by decide)
  refine va_sld hx hb hXs hbl hbA hS (i := 1) (by unfold vp_in; decide) dL_law_312 ?_
  refine lv_topi (fun x2 ex2 => ?_)
  obtain rfl : x2 = xs 1 := ex2
  refine call_k (run_V (rm := { frames := 5, cells := 0, slots := 0, locals := 109 }) hx hb hml hown hts (k_X10_fault l g _ _ _ x t dr co ot dp pn ch fr nw kp tr ac se tx rf tb pa (xs 1) hm_x hf_x hm_t hf_t hm_dr hf_dr hm_dp hf_dp hm_pa hf_pa) cV_X10_fault wg_546 ⟨Nat.le_of_ble_eq_true rfl, Nat.le_of_ble_eq_true rfl⟩ hG hE hA hPx hDx hS hm_x hf_x rfl rfl hl.1 (As := [.int (xs 1)]) (rest := []) rfl (Nat.le_of_ble_eq_true rfl) dL_law_313 ⟨Nat.le_of_ble_eq_true rfl, Nat.le_of_ble_eq_true rfl⟩) hA hDx hS hPm hdis (fun r3 u1 H locs hp4 hPm hS => ?_)
  refine lv_aload_n hx hb dL_law_316 rfl (lv_at hl 2 rfl) ?_
  refine lv_aload_n hx hb dL_law_317 rfl (lv_at hl 4 rfl) ?_
  refine lv_iload hx hb dL_law_318 (lv_at hl 0 rfl) ?_
  refine lv_iconst (v := 1) hx hb dL_law_320 (by decide) ?_
  refine lv_iadd hx hb dL_law_321 ?_
  refine lv_topi (fun x5 ex5 => ?_)
  obtain rfl : x5 = 1 := ex5.trans (by decide)
  refine va_sld hx hb hXs hbl hbA hS (i := 1) (by unfold vp_in; decide) dL_law_322 ?_
  refine lv_topi (fun x6 ex6 => ?_)
  obtain rfl : x6 = xs 1 := ex6
  refine call_i (run_V (rm := { frames := 5, cells := 0, slots := 0, locals := 105 }) hx hb hml hown hts (k_X11_fault l g _ _ _ mo ar1 ar7 ar10 ar11 ar24 ar26 ar27 ar28 ar29 ar30 ar31 ar32 ar33 ar34 ar35 ar41 ar42 ar43 ar44 ar49 ar52 ar54 (xs 1) hm_mo hf_mo hm_ar7 hf_ar7 hm_ar11 hf_ar11) cV_X11_fault wg_1525 ⟨Nat.le_of_ble_eq_true rfl, Nat.le_of_ble_eq_true rfl⟩ hG hE hA hPm hDm hS hm_mo hf_mo rfl rfl hl.1 (As := [.int (xs 1)]) (rest := [.int r3]) rfl (Nat.le_of_ble_eq_true rfl) dL_law_323 ⟨Nat.le_of_ble_eq_true rfl, Nat.le_of_ble_eq_true rfl⟩) hA hDm hS (fun r7 L2 f2 H locs hp8 hP2 hD2 hS => ?_)
  refine lv_icmp_eq (tgt := 1361) hx hb dL_law_326 (by decide) (fun c9 => ?_) (fun c9 => absurd (hp4.trans hp8.symm) c9)
  exact law_end l hCE (Nat.le_of_ble_eq_true rfl) (Nat.le_of_ble_eq_true rfl) hS (lv_sub hl [0, 4] rfl)

set_option maxHeartbeats 4000000 in
theorem law_c3 {p : Program} {e : Env} {s : State} {m : MethodId} {below : List Frame} {meth : Method} {c : Code} (l : Launch) {b : Nat} {xs : Nat → Int32} (C0 : lw_At p s m meth c b 6 xs) (htr : l.stackTraces = false) {g : GG} (hG : GK g s) (hE : SW g (fun q : Nat => s.heap.size ≤ q) s s.heap) {Lx Lm : List Nat} {f : HP} {x t tb dr co ot dp pa pn pl pb ch fr nw n0 n1 n2 n3 n4 n5 n6 n7 n8 kp tr ac ah se tx rf mo ar1 ar7 ar10 ar11 ar24 ar26 ar27 ar28 ar29 ar30 ar31 ar32 ar33 ar34 ar35 ar41 ar42 ar43 ar44 ar49 ar52 ar54 o : Nat} {H : Heap} {locs : List Loc} (hPx : va_P g.1 vwCl (va_pl Lx f) H) (hDx : va_D (fun q : Nat => s.heap.size ≤ q) (va_pl Lx f)) (hPm : va_P g.1 vwCl (va_pl Lm f) H) (hDm : va_D (fun q : Nat => s.heap.size ≤ q) (va_pl Lm f)) (hdis : ∀ a, a ∈ Lm → a ∉ Lx) (hS : va_S (fun q : Nat => s.heap.size ≤ q) s.heap H locs) (hX : FX g f Lx x t tb dr co ot dp pa pn pl pb ch fr nw n0 n1 n2 n3 n4 n5 n6 n7 n8 kp tr ac ah se tx rf) (hM : FM g f Lm mo ar1 ar7 ar10 ar11 ar24 ar26 ar27 ar28 ar29 ar30 ar31 ar32 ar33 ar34 ar35 ar41 ar42 ar43 ar44 ar49 ar52 ar54) {ls : Array Slot} (hl : lv_has ls 7 [(4, .int 0), (3, .ref o), (2, .ref mo), (1, .ref x), (0, .ref b)]) : W p l e room_1 s m #[Value.ref b] below meth c H locs 1000 200000 (lw_Z below #[Value.ref b] s) (F0 m 331 ls []) := by
  obtain ⟨hx, hb, hr, hml, hown, hts0, hXs, hbl, hlocks, hgv⟩ := C0
  have hown : s.vm.findClass "RulerWordLaw" = some m.cls := hown
  have hts := hts1 hts0
  have hA : ∀ q, s.heap.size ≤ q → (fun q : Nat => s.heap.size ≤ q) q := fun _ h => h
  have hbA : ¬ (fun q : Nat => s.heap.size ≤ q) b := Nat.not_le.mpr hbl
  have hCE : lw_At p s m meth c b 6 xs := ⟨hx, hb, hr, hml, hown, hts0, hXs, hbl, hlocks, hgv⟩
  obtain ⟨hm_x, hf_x, hm_t, hf_t, hm_tb, hf_tb, hm_dr, hf_dr, hm_co, hf_co, hm_dp, hf_dp, hm_pa, hf_pa, hm_pn, hf_pn, hm_pl, hf_pl, hm_nw, hf_nw, hm_ac, hf_ac, hm_rf, hf_rf⟩ := hX
  obtain ⟨hm_mo, hf_mo, hm_ar1, hf_ar1, hm_ar7, hf_ar7, hm_ar11, hf_ar11, hm_ar49, hf_ar49⟩ := hM
  refine lv_aload_n hx hb dL_law_331 rfl (lv_at hl 3 rfl) ?_
  refine lv_aload_n hx hb dL_law_332 rfl (lv_at hl 4 rfl) ?_
  refine lv_iload hx hb dL_law_333 (lv_at hl 0 rfl) ?_
  refine lv_iconst (v := 1) hx hb dL_law_335 (by decide) ?_
  refine lv_iadd hx hb dL_law_336 ?_
  refine lv_topi (fun x1 ex1 => ?_)
  obtain rfl : x1 = 1 := ex1.trans (by decide)
  refine va_sld hx hb hXs hbl hbA hS (i := 1) (by unfold vp_in; decide) dL_law_337 ?_
  refine lv_topi (fun x2 ex2 => ?_)
  obtain rfl : x2 = xs 1 := ex2
  refine lv_i2l hx hb dL_law_338 rfl ?_
  refine lv_topl (fun y3 ey3 => ?_)
  refine lv_bipush (v := 32) hx hb dL_law_339 (by decide) ?_
  refine lv_lshl hx hb dL_law_341 rfl ?_
  refine lv_topl (fun y4 ey4 => ?_)
  refine lv_aload_n hx hb dL_law_342 rfl (lv_at hl 4 rfl) ?_
  refine lv_iload hx hb dL_law_343 (lv_at hl 0 rfl) ?_
  refine lv_iconst (v := 2) hx hb dL_law_345 (by decide) ?_
  refine lv_iadd hx hb dL_law_346 ?_
  refine lv_topi (fun x5 ex5 => ?_)
  obtain rfl : x5 = 2 := ex5.trans (by decide)
  refine va_sld hx hb hXs hbl hbA hS (i := 2) (by unfold vp_in; decide) dL_law_347 ?_
  refine lv_topi (fun x6 ex6 => ?_)
  obtain rfl : x6 = xs 2 := ex6
  refine lv_i2l hx hb dL_law_348 rfl ?_
  refine lv_topl (fun y7 ey7 => ?_)
  refine lv_ldc2 hx hb hown (hts _ (mT wg_1955)) dL_law_349 ?_
  refine lv_topl (fun y8 ey8 => ?_)
  refine lv_land hx hb dL_law_352 ?_
  refine lv_topl (fun y9 ey9 => ?_)
  refine lv_lor hx hb dL_law_353 ?_
  refine lv_topl (fun y10 ey10 => ?_)
  refine call_k (run_V (rm := { frames := 3, cells := 0, slots := 0, locals := 64 }) hx hb hml hown hts (k_X10_council l g _ _ _ x t dr co ot dp pn ch fr nw kp tr ac se tx rf tb y10 hm_x hf_x hm_t hf_t hm_dr hf_dr) cV_X10_council wg_706 ⟨Nat.le_of_ble_eq_true rfl, Nat.le_of_ble_eq_true rfl⟩ hG hE hA hPx hDx hS hm_x hf_x rfl rfl hl.1 (As := [.long y10]) (rest := []) rfl (Nat.le_of_ble_eq_true rfl) dL_law_354 ⟨Nat.le_of_ble_eq_true rfl, Nat.le_of_ble_eq_true rfl⟩) hA hDx hS hPm hdis (fun r11 u1 H locs hp12 hPm hS => ?_)
  refine lv_aload_n hx hb dL_law_357 rfl (lv_at hl 2 rfl) ?_
  refine lv_aload_n hx hb dL_law_358 rfl (lv_at hl 4 rfl) ?_
  refine lv_iload hx hb dL_law_359 (lv_at hl 0 rfl) ?_
  refine lv_iconst (v := 1) hx hb dL_law_361 (by decide) ?_
  refine lv_iadd hx hb dL_law_362 ?_
  refine lv_topi (fun x13 ex13 => ?_)
  obtain rfl : x13 = 1 := ex13.trans (by decide)
  refine va_sld hx hb hXs hbl hbA hS (i := 1) (by unfold vp_in; decide) dL_law_363 ?_
  refine lv_topi (fun x14 ex14 => ?_)
  obtain rfl : x14 = xs 1 := ex14
  refine lv_i2l hx hb dL_law_364 rfl ?_
  refine lv_topl (fun y15 ey15 => ?_)
  refine lv_bipush (v := 32) hx hb dL_law_365 (by decide) ?_
  refine lv_lshl hx hb dL_law_367 rfl ?_
  refine lv_topl (fun y16 ey16 => ?_)
  refine lv_aload_n hx hb dL_law_368 rfl (lv_at hl 4 rfl) ?_
  refine lv_iload hx hb dL_law_369 (lv_at hl 0 rfl) ?_
  refine lv_iconst (v := 2) hx hb dL_law_371 (by decide) ?_
  refine lv_iadd hx hb dL_law_372 ?_
  refine lv_topi (fun x17 ex17 => ?_)
  obtain rfl : x17 = 2 := ex17.trans (by decide)
  refine va_sld hx hb hXs hbl hbA hS (i := 2) (by unfold vp_in; decide) dL_law_373 ?_
  refine lv_topi (fun x18 ex18 => ?_)
  obtain rfl : x18 = xs 2 := ex18
  refine lv_i2l hx hb dL_law_374 rfl ?_
  refine lv_topl (fun y19 ey19 => ?_)
  refine lv_ldc2 hx hb hown (hts _ (mT wg_1955)) dL_law_375 ?_
  refine lv_topl (fun y20 ey20 => ?_)
  refine lv_land hx hb dL_law_378 ?_
  refine lv_topl (fun y21 ey21 => ?_)
  refine lv_lor hx hb dL_law_379 ?_
  refine lv_topl (fun y22 ey22 => ?_)
  refine call_i (run_V (rm := { frames := 4, cells := 0, slots := 0, locals := 84 }) hx hb hml hown hts (k_X11_council l g _ _ _ mo ar1 ar7 ar10 ar11 ar24 ar26 ar27 ar28 ar29 ar30 ar31 ar32 ar33 ar34 ar35 ar41 ar42 ar43 ar44 ar49 ar52 ar54 y22 hm_mo hf_mo hm_ar7 hf_ar7) cV_X11_council wg_1612 ⟨Nat.le_of_ble_eq_true rfl, Nat.le_of_ble_eq_true rfl⟩ hG hE hA hPm hDm hS hm_mo hf_mo rfl rfl hl.1 (As := [.long y22]) (rest := [.int r11]) rfl (Nat.le_of_ble_eq_true rfl) dL_law_380 ⟨Nat.le_of_ble_eq_true rfl, Nat.le_of_ble_eq_true rfl⟩) hA hDm hS (fun r23 L2 f2 H locs hp24 hP2 hD2 hS => ?_)
  refine lv_icmp_eq (tgt := 1361) hx hb dL_law_383 (by decide) (fun c25 => ?_) (fun c25 => absurd (hp12.trans hp24.symm) c25)
  exact law_end l hCE (Nat.le_of_ble_eq_true rfl) (Nat.le_of_ble_eq_true rfl) hS (lv_sub hl [0, 4] rfl)

set_option maxHeartbeats 4000000 in
theorem law_c4 {p : Program} {e : Env} {s : State} {m : MethodId} {below : List Frame} {meth : Method} {c : Code} (l : Launch) {b : Nat} {xs : Nat → Int32} (C0 : lw_At p s m meth c b 6 xs) (htr : l.stackTraces = false) {g : GG} (hG : GK g s) (hE : SW g (fun q : Nat => s.heap.size ≤ q) s s.heap) {Lx Lm : List Nat} {f : HP} {x t tb dr co ot dp pa pn pl pb ch fr nw n0 n1 n2 n3 n4 n5 n6 n7 n8 kp tr ac ah se tx rf mo ar1 ar7 ar10 ar11 ar24 ar26 ar27 ar28 ar29 ar30 ar31 ar32 ar33 ar34 ar35 ar41 ar42 ar43 ar44 ar49 ar52 ar54 o : Nat} {H : Heap} {locs : List Loc} (hPx : va_P g.1 vwCl (va_pl Lx f) H) (hDx : va_D (fun q : Nat => s.heap.size ≤ q) (va_pl Lx f)) (hPm : va_P g.1 vwCl (va_pl Lm f) H) (hDm : va_D (fun q : Nat => s.heap.size ≤ q) (va_pl Lm f)) (hdis : ∀ a, a ∈ Lm → a ∉ Lx) (hS : va_S (fun q : Nat => s.heap.size ≤ q) s.heap H locs) (hX : FX g f Lx x t tb dr co ot dp pa pn pl pb ch fr nw n0 n1 n2 n3 n4 n5 n6 n7 n8 kp tr ac ah se tx rf) (hM : FM g f Lm mo ar1 ar7 ar10 ar11 ar24 ar26 ar27 ar28 ar29 ar30 ar31 ar32 ar33 ar34 ar35 ar41 ar42 ar43 ar44 ar49 ar52 ar54) {ls : Array Slot} (hl : lv_has ls 7 [(4, .int 0), (3, .ref o), (2, .ref mo), (1, .ref x), (0, .ref b)]) : W p l e room_1 s m #[Value.ref b] below meth c H locs 1000 200000 (lw_Z below #[Value.ref b] s) (F0 m 388 ls []) := by
  obtain ⟨hx, hb, hr, hml, hown, hts0, hXs, hbl, hlocks, hgv⟩ := C0
  have hown : s.vm.findClass "RulerWordLaw" = some m.cls := hown
  have hts := hts1 hts0
  have hA : ∀ q, s.heap.size ≤ q → (fun q : Nat => s.heap.size ≤ q) q := fun _ h => h
  have hbA : ¬ (fun q : Nat => s.heap.size ≤ q) b := Nat.not_le.mpr hbl
  have hCE : lw_At p s m meth c b 6 xs := ⟨hx, hb, hr, hml, hown, hts0, hXs, hbl, hlocks, hgv⟩
  obtain ⟨hm_x, hf_x, hm_t, hf_t, hm_tb, hf_tb, hm_dr, hf_dr, hm_co, hf_co, hm_dp, hf_dp, hm_pa, hf_pa, hm_pn, hf_pn, hm_pl, hf_pl, hm_nw, hf_nw, hm_ac, hf_ac, hm_rf, hf_rf⟩ := hX
  obtain ⟨hm_mo, hf_mo, hm_ar1, hf_ar1, hm_ar7, hf_ar7, hm_ar11, hf_ar11, hm_ar49, hf_ar49⟩ := hM
  refine lv_aload_n hx hb dL_law_388 rfl (lv_at hl 3 rfl) ?_
  refine call_k (run_V (rm := { frames := 5, cells := 0, slots := 0, locals := 109 }) hx hb hml hown hts (k_X10_plan l g _ _ _ x t dr co ot dp pn ch fr nw kp tr ac se tx rf tb pa  hm_x hf_x hm_t hf_t hm_dp hf_dp hm_pa hf_pa) cV_X10_plan wg_718 ⟨Nat.le_of_ble_eq_true rfl, Nat.le_of_ble_eq_true rfl⟩ hG hE hA hPx hDx hS hm_x hf_x rfl rfl hl.1 (As := []) (rest := []) rfl (Nat.le_of_ble_eq_true rfl) dL_law_389 ⟨Nat.le_of_ble_eq_true rfl, Nat.le_of_ble_eq_true rfl⟩) hA hDx hS hPm hdis (fun r1 u1 H locs hp2 hPm hS => ?_)
  refine lv_aload_n hx hb dL_law_392 rfl (lv_at hl 2 rfl) ?_
  refine call_i (run_V (rm := { frames := 5, cells := 0, slots := 0, locals := 105 }) hx hb hml hown hts (k_X11_plan l g _ _ _ mo ar1 ar7 ar10 ar11 ar24 ar26 ar27 ar28 ar29 ar30 ar31 ar32 ar33 ar34 ar35 ar41 ar42 ar43 ar44 ar49 ar52 ar54  hm_mo hf_mo hm_ar11 hf_ar11) cV_X11_plan wg_1628 ⟨Nat.le_of_ble_eq_true rfl, Nat.le_of_ble_eq_true rfl⟩ hG hE hA hPm hDm hS hm_mo hf_mo rfl rfl hl.1 (As := []) (rest := [.int r1]) rfl (Nat.le_of_ble_eq_true rfl) dL_law_393 ⟨Nat.le_of_ble_eq_true rfl, Nat.le_of_ble_eq_true rfl⟩) hA hDm hS (fun r3 L2 f2 H locs hp4 hP2 hD2 hS => ?_)
  refine lv_icmp_eq (tgt := 1361) hx hb dL_law_396 (by decide) (fun c5 => ?_) (fun c5 => absurd (hp2.trans hp4.symm) c5)
  exact law_end l hCE (Nat.le_of_ble_eq_true rfl) (Nat.le_of_ble_eq_true rfl) hS (lv_sub hl [0, 4] rfl)

set_option maxHeartbeats 4000000 in
theorem law_c5 {p : Program} {e : Env} {s : State} {m : MethodId} {below : List Frame} {meth : Method} {c : Code} (l : Launch) {b : Nat} {xs : Nat → Int32} (C0 : lw_At p s m meth c b 6 xs) (htr : l.stackTraces = false) {g : GG} (hG : GK g s) (hE : SW g (fun q : Nat => s.heap.size ≤ q) s s.heap) {Lx Lm : List Nat} {f : HP} {x t tb dr co ot dp pa pn pl pb ch fr nw n0 n1 n2 n3 n4 n5 n6 n7 n8 kp tr ac ah se tx rf mo ar1 ar7 ar10 ar11 ar24 ar26 ar27 ar28 ar29 ar30 ar31 ar32 ar33 ar34 ar35 ar41 ar42 ar43 ar44 ar49 ar52 ar54 o : Nat} {H : Heap} {locs : List Loc} (hPx : va_P g.1 vwCl (va_pl Lx f) H) (hDx : va_D (fun q : Nat => s.heap.size ≤ q) (va_pl Lx f)) (hPm : va_P g.1 vwCl (va_pl Lm f) H) (hDm : va_D (fun q : Nat => s.heap.size ≤ q) (va_pl Lm f)) (hdis : ∀ a, a ∈ Lm → a ∉ Lx) (hS : va_S (fun q : Nat => s.heap.size ≤ q) s.heap H locs) (hX : FX g f Lx x t tb dr co ot dp pa pn pl pb ch fr nw n0 n1 n2 n3 n4 n5 n6 n7 n8 kp tr ac ah se tx rf) (hM : FM g f Lm mo ar1 ar7 ar10 ar11 ar24 ar26 ar27 ar28 ar29 ar30 ar31 ar32 ar33 ar34 ar35 ar41 ar42 ar43 ar44 ar49 ar52 ar54) {ls : Array Slot} (hl : lv_has ls 7 [(4, .int 0), (3, .ref o), (2, .ref mo), (1, .ref x), (0, .ref b)]) : W p l e room_1 s m #[Value.ref b] below meth c H locs 1000 200000 (lw_Z below #[Value.ref b] s) (F0 m 401 ls []) := by
  obtain ⟨hx, hb, hr, hml, hown, hts0, hXs, hbl, hlocks, hgv⟩ := C0
  have hown : s.vm.findClass "RulerWordLaw" = some m.cls := hown
  have hts := hts1 hts0
  have hA : ∀ q, s.heap.size ≤ q → (fun q : Nat => s.heap.size ≤ q) q := fun _ h => h
  have hbA : ¬ (fun q : Nat => s.heap.size ≤ q) b := Nat.not_le.mpr hbl
  have hCE : lw_At p s m meth c b 6 xs := ⟨hx, hb, hr, hml, hown, hts0, hXs, hbl, hlocks, hgv⟩
  obtain ⟨hm_x, hf_x, hm_t, hf_t, hm_tb, hf_tb, hm_dr, hf_dr, hm_co, hf_co, hm_dp, hf_dp, hm_pa, hf_pa, hm_pn, hf_pn, hm_pl, hf_pl, hm_nw, hf_nw, hm_ac, hf_ac, hm_rf, hf_rf⟩ := hX
  obtain ⟨hm_mo, hf_mo, hm_ar1, hf_ar1, hm_ar7, hf_ar7, hm_ar11, hf_ar11, hm_ar49, hf_ar49⟩ := hM
  refine lv_aload_n hx hb dL_law_401 rfl (lv_at hl 3 rfl) ?_
  refine lv_aload_n hx hb dL_law_402 rfl (lv_at hl 4 rfl) ?_
  refine lv_iload hx hb dL_law_403 (lv_at hl 0 rfl) ?_
  refine lv_iconst (v := 1) hx hb dL_law_405 (by decide) ?_
  refine lv_iadd hx hb dL_law_406 ?_
  refine lv_topi (fun x1 ex1 => ?_)
  obtain rfl : x1 = 1 := ex1.trans (by decide)
  refine va_sld hx hb hXs hbl hbA hS (i := 1) (by unfold vp_in; decide) dL_law_407 ?_
  refine lv_topi (fun x2 ex2 => ?_)
  obtain rfl : x2 = xs 1 := ex2
  refine call_k (run_V (rm := { frames := 0, cells := 0, slots := 0, locals := 0 }) hx hb hml hown hts (k_X10_rule l g _ _ _ x t dr co ot dp pn ch fr nw kp tr ac se tx rf pl pb (xs 1) hm_x hf_x hm_pn hf_pn hm_pl hf_pl) cV_X10_rule wg_729 ⟨Nat.le_of_ble_eq_true rfl, Nat.le_of_ble_eq_true rfl⟩ hG hE hA hPx hDx hS hm_x hf_x rfl rfl hl.1 (As := [.int (xs 1)]) (rest := []) rfl (Nat.le_of_ble_eq_true rfl) dL_law_408 ⟨Nat.le_of_ble_eq_true rfl, Nat.le_of_ble_eq_true rfl⟩) hA hDx hS hPm hdis (fun r3 u1 H locs hp4 hPm hS => ?_)
  refine lv_aload_n hx hb dL_law_411 rfl (lv_at hl 2 rfl) ?_
  refine lv_aload_n hx hb dL_law_412 rfl (lv_at hl 4 rfl) ?_
  refine lv_iload hx hb dL_law_413 (lv_at hl 0 rfl) ?_
  refine lv_iconst (v := 1) hx hb dL_law_415 (by decide) ?_
  refine lv_iadd hx hb dL_law_416 ?_
  refine lv_topi (fun x5 ex5 => ?_)
  obtain rfl : x5 = 1 := ex5.trans (by decide)
  refine va_sld hx hb hXs hbl hbA hS (i := 1) (by unfold vp_in; decide) dL_law_417 ?_
  refine lv_topi (fun x6 ex6 => ?_)
  obtain rfl : x6 = xs 1 := ex6
  refine call_i (run_V (rm := { frames := 0, cells := 0, slots := 0, locals := 0 }) hx hb hml hown hts (k_X11_rule l g _ _ _ mo ar1 ar7 ar10 ar11 ar24 ar26 ar27 ar28 ar29 ar30 ar31 ar32 ar33 ar34 ar35 ar41 ar42 ar43 ar44 ar49 ar52 ar54 (xs 1) hm_mo hf_mo) cV_X11_rule wg_1752 ⟨Nat.le_of_ble_eq_true rfl, Nat.le_of_ble_eq_true rfl⟩ hG hE hA hPm hDm hS hm_mo hf_mo rfl rfl hl.1 (As := [.int (xs 1)]) (rest := [.int r3]) rfl (Nat.le_of_ble_eq_true rfl) dL_law_418 ⟨Nat.le_of_ble_eq_true rfl, Nat.le_of_ble_eq_true rfl⟩) hA hDm hS (fun r7 L2 f2 H locs hp8 hP2 hD2 hS => ?_)
  refine lv_icmp_eq (tgt := 1361) hx hb dL_law_421 (by decide) (fun c9 => ?_) (fun c9 => absurd (hp4.trans hp8.symm) c9)
  exact law_end l hCE (Nat.le_of_ble_eq_true rfl) (Nat.le_of_ble_eq_true rfl) hS (lv_sub hl [0, 4] rfl)

set_option maxHeartbeats 4000000 in
theorem law_c6 {p : Program} {e : Env} {s : State} {m : MethodId} {below : List Frame} {meth : Method} {c : Code} (l : Launch) {b : Nat} {xs : Nat → Int32} (C0 : lw_At p s m meth c b 6 xs) (htr : l.stackTraces = false) {g : GG} (hG : GK g s) (hE : SW g (fun q : Nat => s.heap.size ≤ q) s s.heap) {Lx Lm : List Nat} {f : HP} {x t tb dr co ot dp pa pn pl pb ch fr nw n0 n1 n2 n3 n4 n5 n6 n7 n8 kp tr ac ah se tx rf mo ar1 ar7 ar10 ar11 ar24 ar26 ar27 ar28 ar29 ar30 ar31 ar32 ar33 ar34 ar35 ar41 ar42 ar43 ar44 ar49 ar52 ar54 o : Nat} {H : Heap} {locs : List Loc} (hPx : va_P g.1 vwCl (va_pl Lx f) H) (hDx : va_D (fun q : Nat => s.heap.size ≤ q) (va_pl Lx f)) (hPm : va_P g.1 vwCl (va_pl Lm f) H) (hDm : va_D (fun q : Nat => s.heap.size ≤ q) (va_pl Lm f)) (hdis : ∀ a, a ∈ Lm → a ∉ Lx) (hS : va_S (fun q : Nat => s.heap.size ≤ q) s.heap H locs) (hX : FX g f Lx x t tb dr co ot dp pa pn pl pb ch fr nw n0 n1 n2 n3 n4 n5 n6 n7 n8 kp tr ac ah se tx rf) (hM : FM g f Lm mo ar1 ar7 ar10 ar11 ar24 ar26 ar27 ar28 ar29 ar30 ar31 ar32 ar33 ar34 ar35 ar41 ar42 ar43 ar44 ar49 ar52 ar54) {ls : Array Slot} (hl : lv_has ls 7 [(4, .int 0), (3, .ref o), (2, .ref mo), (1, .ref x), (0, .ref b)]) : W p l e room_1 s m #[Value.ref b] below meth c H locs 1000 200000 (lw_Z below #[Value.ref b] s) (F0 m 426 ls []) := by
  obtain ⟨hx, hb, hr, hml, hown, hts0, hXs, hbl, hlocks, hgv⟩ := C0
  have hown : s.vm.findClass "RulerWordLaw" = some m.cls := hown
  have hts := hts1 hts0
  have hA : ∀ q, s.heap.size ≤ q → (fun q : Nat => s.heap.size ≤ q) q := fun _ h => h
  have hbA : ¬ (fun q : Nat => s.heap.size ≤ q) b := Nat.not_le.mpr hbl
  have hCE : lw_At p s m meth c b 6 xs := ⟨hx, hb, hr, hml, hown, hts0, hXs, hbl, hlocks, hgv⟩
  obtain ⟨hm_x, hf_x, hm_t, hf_t, hm_tb, hf_tb, hm_dr, hf_dr, hm_co, hf_co, hm_dp, hf_dp, hm_pa, hf_pa, hm_pn, hf_pn, hm_pl, hf_pl, hm_nw, hf_nw, hm_ac, hf_ac, hm_rf, hf_rf⟩ := hX
  obtain ⟨hm_mo, hf_mo, hm_ar1, hf_ar1, hm_ar7, hf_ar7, hm_ar11, hf_ar11, hm_ar49, hf_ar49⟩ := hM
  refine lv_aload_n hx hb dL_law_426 rfl (lv_at hl 3 rfl) ?_
  refine lv_aload_n hx hb dL_law_427 rfl (lv_at hl 4 rfl) ?_
  refine lv_iload hx hb dL_law_428 (lv_at hl 0 rfl) ?_
  refine lv_iconst (v := 1) hx hb dL_law_430 (by decide) ?_
  refine lv_iadd hx hb dL_law_431 ?_
  refine lv_topi (fun x1 ex1 => ?_)
  obtain rfl : x1 = 1 := ex1.trans (by decide)
  refine va_sld hx hb hXs hbl hbA hS (i := 1) (by unfold vp_in; decide) dL_law_432 ?_
  refine lv_topi (fun x2 ex2 => ?_)
  obtain rfl : x2 = xs 1 := ex2
  refine lv_aload_n hx hb dL_law_433 rfl (lv_at hl 4 rfl) ?_
  refine lv_iload hx hb dL_law_434 (lv_at hl 0 rfl) ?_
  refine lv_iconst (v := 2) hx hb dL_law_436 (by decide) ?_
  refine lv_iadd hx hb dL_law_437 ?_
  refine lv_topi (fun x3 ex3 => ?_)
  obtain rfl : x3 = 2 := ex3.trans (by decide)
  refine va_sld hx hb hXs hbl hbA hS (i := 2) (by unfold vp_in; decide) dL_law_438 ?_
  refine lv_topi (fun x4 ex4 => ?_)
  obtain rfl : x4 = xs 2 := ex4
  refine lv_aload_n hx hb dL_law_439 rfl (lv_at hl 1 rfl) ?_
  refine call_k (run_SW (n := 4) (rm := { frames := 7, cells := 1, slots := 6, locals := 103 }) (hh := hhL) hx hb hml hown hts (k_L_line l htr g _ _ _ x t dr co ot dp pn ch fr nw kp tr ac se tx rf pl pb (xs 1) (xs 2) o hm_x hf_x hm_pn hf_pn hm_pl hf_pl) (mG 1258 (by decide +kernel) rfl) wg_156 wg_1257 ⟨by decide +kernel, by decide +kernel, by decide +kernel⟩ wg_1256 ⟨Nat.le_of_ble_eq_true rfl, Nat.le_of_ble_eq_true rfl⟩ hG hE hA hPx hDx hS rfl hl.1 (As := [.ref x, .int (xs 1), .int (xs 2), .ref o]) (rest := []) rfl (Nat.le_of_ble_eq_true rfl) dL_law_440 ⟨Nat.le_of_ble_eq_true rfl, Nat.le_of_ble_eq_true rfl⟩) hA hDx hS hPm hdis (fun r1 u1 H locs hp1 hPm hS => ?_)
  obtain rfl : r1 = 1 := hp1
  refine lv_istore (lv' := [(5, .int 1), (4, .int 0), (3, .ref o), (2, .ref mo), (1, .ref x), (0, .ref b)]) hx hb dL_law_443 hl (by decide) rfl (fun ls hl => ?_)
  refine lv_aload_n hx hb dL_law_445 rfl (lv_at hl 3 rfl) ?_
  refine lv_aload_n hx hb dL_law_446 rfl (lv_at hl 5 rfl) ?_
  refine lv_iload hx hb dL_law_447 (lv_at hl 1 rfl) ?_
  refine lv_iconst (v := 1) hx hb dL_law_449 (by decide) ?_
  refine lv_iadd hx hb dL_law_450 ?_
  refine lv_topi (fun x5 ex5 => ?_)
  obtain rfl : x5 = 1 := ex5.trans (by decide)
  refine va_sld hx hb hXs hbl hbA hS (i := 1) (by unfold vp_in; decide) dL_law_451 ?_
  refine lv_topi (fun x6 ex6 => ?_)
  obtain rfl : x6 = xs 1 := ex6
  refine lv_aload_n hx hb dL_law_452 rfl (lv_at hl 5 rfl) ?_
  refine lv_iload hx hb dL_law_453 (lv_at hl 1 rfl) ?_
  refine lv_iconst (v := 2) hx hb dL_law_455 (by decide) ?_
  refine lv_iadd hx hb dL_law_456 ?_
  refine lv_topi (fun x7 ex7 => ?_)
  obtain rfl : x7 = 2 := ex7.trans (by decide)
  refine va_sld hx hb hXs hbl hbA hS (i := 2) (by unfold vp_in; decide) dL_law_457 ?_
  refine lv_topi (fun x8 ex8 => ?_)
  obtain rfl : x8 = xs 2 := ex8
  refine call_i (run_V (rm := { frames := 1, cells := 0, slots := 0, locals := 25 }) hx hb hml hown hts (k_X11_line l g _ _ _ mo ar1 ar7 ar10 ar11 ar24 ar26 ar27 ar28 ar29 ar30 ar31 ar32 ar33 ar34 ar35 ar41 ar42 ar43 ar44 ar49 ar52 ar54 (xs 1) (xs 2) hm_mo hf_mo) cV_X11_line wg_1757 ⟨Nat.le_of_ble_eq_true rfl, Nat.le_of_ble_eq_true rfl⟩ hG hE hA hPm hDm hS hm_mo hf_mo rfl rfl hl.1 (As := [.int (xs 1), .int (xs 2)]) (rest := []) rfl (Nat.le_of_ble_eq_true rfl) dL_law_458 ⟨Nat.le_of_ble_eq_true rfl, Nat.le_of_ble_eq_true rfl⟩) hA hDm hS (fun r2 L2 f2 H locs hp2 hP2 hD2 hS => ?_)
  obtain ⟨hf2, er2, fr2, sb2⟩ := hp2
  obtain rfl : r2 = 0 := er2
  have hm2 := sb2 _ hm_mo
  refine lv_istore (lv' := [(6, .int 0), (5, .int 1), (4, .int 0), (3, .ref o), (2, .ref mo), (1, .ref x), (0, .ref b)]) hx hb dL_law_461 hl (by decide) rfl (fun ls hl => ?_)
  refine lv_aload_n hx hb dL_law_463 rfl (lv_at hl 4 rfl) ?_
  refine call_i (run_V (rm := { frames := 0, cells := 0, slots := 0, locals := 0 }) hx hb hml hown hts (k_X11_thrown l g _ _ _ mo ar1 ar7 ar10 ar11 ar24 ar26 ar27 ar28 ar29 ar30 ar31 ar32 ar33 ar34 ar35 ar41 ar42 ar43 ar44 ar49 ar52 ar54 1 hm2 hf2) cV_X11_thrown wg_1506 ⟨Nat.le_of_ble_eq_true rfl, Nat.le_of_ble_eq_true rfl⟩ hG hE hA hP2 hD2 hS hm2 hf2 rfl rfl hl.1 (As := []) (rest := []) rfl (Nat.le_of_ble_eq_true rfl) dL_law_464 ⟨Nat.le_of_ble_eq_true rfl, Nat.le_of_ble_eq_true rfl⟩) hA hD2 hS (fun r3 L3 f3 H locs hp3 hP3 hD3 hS => ?_)
  obtain ⟨er3, fr3, sb3⟩ := hp3
  obtain rfl : r3 = 1 := er3
  refine lv_iload hx hb dL_law_467 (lv_at hl 1 rfl) ?_
  refine lv_icmp_eq (tgt := 474) hx hb dL_law_469 (by decide) (fun c1 => ?_) (fun c1 => absurd rfl c1)
  refine lv_iload hx hb dL_law_474 (lv_at hl 1 rfl) ?_
  refine lv_if_ne (tgt := 491) hx hb dL_law_476 (by decide) (fun c2 => ?_) (fun c2 => absurd c2 (by decide))
  refine lv_goto (tgt := 1361) hx hb dL_law_491 (by decide) ?_
  exact law_end l hCE (Nat.le_of_ble_eq_true rfl) (Nat.le_of_ble_eq_true rfl) hS (lv_sub hl [2, 6] rfl)

set_option maxHeartbeats 4000000 in
theorem law_c7 {p : Program} {e : Env} {s : State} {m : MethodId} {below : List Frame} {meth : Method} {c : Code} (l : Launch) {b : Nat} {xs : Nat → Int32} (C0 : lw_At p s m meth c b 6 xs) (htr : l.stackTraces = false) {g : GG} (hG : GK g s) (hE : SW g (fun q : Nat => s.heap.size ≤ q) s s.heap) {Lx Lm : List Nat} {f : HP} {x t tb dr co ot dp pa pn pl pb ch fr nw n0 n1 n2 n3 n4 n5 n6 n7 n8 kp tr ac ah se tx rf mo ar1 ar7 ar10 ar11 ar24 ar26 ar27 ar28 ar29 ar30 ar31 ar32 ar33 ar34 ar35 ar41 ar42 ar43 ar44 ar49 ar52 ar54 o : Nat} {H : Heap} {locs : List Loc} (hPx : va_P g.1 vwCl (va_pl Lx f) H) (hDx : va_D (fun q : Nat => s.heap.size ≤ q) (va_pl Lx f)) (hPm : va_P g.1 vwCl (va_pl Lm f) H) (hDm : va_D (fun q : Nat => s.heap.size ≤ q) (va_pl Lm f)) (hdis : ∀ a, a ∈ Lm → a ∉ Lx) (hS : va_S (fun q : Nat => s.heap.size ≤ q) s.heap H locs) (hX : FX g f Lx x t tb dr co ot dp pa pn pl pb ch fr nw n0 n1 n2 n3 n4 n5 n6 n7 n8 kp tr ac ah se tx rf) (hM : FM g f Lm mo ar1 ar7 ar10 ar11 ar24 ar26 ar27 ar28 ar29 ar30 ar31 ar32 ar33 ar34 ar35 ar41 ar42 ar43 ar44 ar49 ar52 ar54) {ls : Array Slot} (hl : lv_has ls 7 [(4, .int 0), (3, .ref o), (2, .ref mo), (1, .ref x), (0, .ref b)]) : W p l e room_1 s m #[Value.ref b] below meth c H locs 1000 200000 (lw_Z below #[Value.ref b] s) (F0 m 494 ls []) := by
  obtain ⟨hx, hb, hr, hml, hown, hts0, hXs, hbl, hlocks, hgv⟩ := C0
  have hown : s.vm.findClass "RulerWordLaw" = some m.cls := hown
  have hts := hts1 hts0
  have hA : ∀ q, s.heap.size ≤ q → (fun q : Nat => s.heap.size ≤ q) q := fun _ h => h
  have hbA : ¬ (fun q : Nat => s.heap.size ≤ q) b := Nat.not_le.mpr hbl
  have hCE : lw_At p s m meth c b 6 xs := ⟨hx, hb, hr, hml, hown, hts0, hXs, hbl, hlocks, hgv⟩
  obtain ⟨hm_x, hf_x, hm_t, hf_t, hm_tb, hf_tb, hm_dr, hf_dr, hm_co, hf_co, hm_dp, hf_dp, hm_pa, hf_pa, hm_pn, hf_pn, hm_pl, hf_pl, hm_nw, hf_nw, hm_ac, hf_ac, hm_rf, hf_rf⟩ := hX
  obtain ⟨hm_mo, hf_mo, hm_ar1, hf_ar1, hm_ar7, hf_ar7, hm_ar11, hf_ar11, hm_ar49, hf_ar49⟩ := hM
  refine lv_aload_n hx hb dL_law_494 rfl (lv_at hl 3 rfl) ?_
  refine call_k (run_V (rm := { frames := 1, cells := 0, slots := 0, locals := 20 }) hx hb hml hown hts (k_X10_round l g _ _ _ x t dr co ot dp pn ch fr nw kp tr ac se tx rf  hm_x hf_x) cV_X10_round wg_747 ⟨Nat.le_of_ble_eq_true rfl, Nat.le_of_ble_eq_true rfl⟩ hG hE hA hPx hDx hS hm_x hf_x rfl rfl hl.1 (As := []) (rest := []) rfl (Nat.le_of_ble_eq_true rfl) dL_law_495 ⟨Nat.le_of_ble_eq_true rfl, Nat.le_of_ble_eq_true rfl⟩) hA hDx hS hPm hdis (fun r1 u1 H locs hp2 hPm hS => ?_)
  refine lv_aload_n hx hb dL_law_498 rfl (lv_at hl 2 rfl) ?_
  refine call_i (run_V (rm := { frames := 0, cells := 0, slots := 0, locals := 0 }) hx hb hml hown hts (k_X11_round l g _ _ _ mo ar1 ar7 ar10 ar11 ar24 ar26 ar27 ar28 ar29 ar30 ar31 ar32 ar33 ar34 ar35 ar41 ar42 ar43 ar44 ar49 ar52 ar54  hm_mo hf_mo) cV_X11_round wg_1632 ⟨Nat.le_of_ble_eq_true rfl, Nat.le_of_ble_eq_true rfl⟩ hG hE hA hPm hDm hS hm_mo hf_mo rfl rfl hl.1 (As := []) (rest := [.int r1]) rfl (Nat.le_of_ble_eq_true rfl) dL_law_499 ⟨Nat.le_of_ble_eq_true rfl, Nat.le_of_ble_eq_true rfl⟩) hA hDm hS (fun r3 L2 f2 H locs hp4 hP2 hD2 hS => ?_)
  refine lv_icmp_eq (tgt := 1361) hx hb dL_law_502 (by decide) (fun c5 => ?_) (fun c5 => absurd (hp2.trans hp4.symm) c5)
  exact law_end l hCE (Nat.le_of_ble_eq_true rfl) (Nat.le_of_ble_eq_true rfl) hS (lv_sub hl [0, 4] rfl)

set_option maxHeartbeats 4000000 in
theorem law_c8 {p : Program} {e : Env} {s : State} {m : MethodId} {below : List Frame} {meth : Method} {c : Code} (l : Launch) {b : Nat} {xs : Nat → Int32} (C0 : lw_At p s m meth c b 6 xs) (htr : l.stackTraces = false) {g : GG} (hG : GK g s) (hE : SW g (fun q : Nat => s.heap.size ≤ q) s s.heap) {Lx Lm : List Nat} {f : HP} {x t tb dr co ot dp pa pn pl pb ch fr nw n0 n1 n2 n3 n4 n5 n6 n7 n8 kp tr ac ah se tx rf mo ar1 ar7 ar10 ar11 ar24 ar26 ar27 ar28 ar29 ar30 ar31 ar32 ar33 ar34 ar35 ar41 ar42 ar43 ar44 ar49 ar52 ar54 o : Nat} {H : Heap} {locs : List Loc} (hPx : va_P g.1 vwCl (va_pl Lx f) H) (hDx : va_D (fun q : Nat => s.heap.size ≤ q) (va_pl Lx f)) (hPm : va_P g.1 vwCl (va_pl Lm f) H) (hDm : va_D (fun q : Nat => s.heap.size ≤ q) (va_pl Lm f)) (hdis : ∀ a, a ∈ Lm → a ∉ Lx) (hS : va_S (fun q : Nat => s.heap.size ≤ q) s.heap H locs) (hX : FX g f Lx x t tb dr co ot dp pa pn pl pb ch fr nw n0 n1 n2 n3 n4 n5 n6 n7 n8 kp tr ac ah se tx rf) (hM : FM g f Lm mo ar1 ar7 ar10 ar11 ar24 ar26 ar27 ar28 ar29 ar30 ar31 ar32 ar33 ar34 ar35 ar41 ar42 ar43 ar44 ar49 ar52 ar54) {ls : Array Slot} (hl : lv_has ls 7 [(4, .int 0), (3, .ref o), (2, .ref mo), (1, .ref x), (0, .ref b)]) : W p l e room_1 s m #[Value.ref b] below meth c H locs 1000 200000 (lw_Z below #[Value.ref b] s) (F0 m 507 ls []) := by
  obtain ⟨hx, hb, hr, hml, hown, hts0, hXs, hbl, hlocks, hgv⟩ := C0
  have hown : s.vm.findClass "RulerWordLaw" = some m.cls := hown
  have hts := hts1 hts0
  have hA : ∀ q, s.heap.size ≤ q → (fun q : Nat => s.heap.size ≤ q) q := fun _ h => h
  have hbA : ¬ (fun q : Nat => s.heap.size ≤ q) b := Nat.not_le.mpr hbl
  have hCE : lw_At p s m meth c b 6 xs := ⟨hx, hb, hr, hml, hown, hts0, hXs, hbl, hlocks, hgv⟩
  obtain ⟨hm_x, hf_x, hm_t, hf_t, hm_tb, hf_tb, hm_dr, hf_dr, hm_co, hf_co, hm_dp, hf_dp, hm_pa, hf_pa, hm_pn, hf_pn, hm_pl, hf_pl, hm_nw, hf_nw, hm_ac, hf_ac, hm_rf, hf_rf⟩ := hX
  obtain ⟨hm_mo, hf_mo, hm_ar1, hf_ar1, hm_ar7, hf_ar7, hm_ar11, hf_ar11, hm_ar49, hf_ar49⟩ := hM
  refine lv_aload_n hx hb dL_law_507 rfl (lv_at hl 3 rfl) ?_
  refine call_k (run_V (rm := { frames := 1, cells := 0, slots := 0, locals := 20 }) hx hb hml hown hts (k_X10_run l g _ _ _ x t dr co ot dp pn ch fr nw kp tr ac se tx rf  hm_x hf_x) cV_X10_run wg_881 ⟨Nat.le_of_ble_eq_true rfl, Nat.le_of_ble_eq_true rfl⟩ hG hE hA hPx hDx hS hm_x hf_x rfl rfl hl.1 (As := []) (rest := []) rfl (Nat.le_of_ble_eq_true rfl) dL_law_508 ⟨Nat.le_of_ble_eq_true rfl, Nat.le_of_ble_eq_true rfl⟩) hA hDx hS hPm hdis (fun r1 u1 H locs hp2 hPm hS => ?_)
  refine lv_aload_n hx hb dL_law_511 rfl (lv_at hl 2 rfl) ?_
  refine call_i (run_V (rm := { frames := 0, cells := 0, slots := 0, locals := 0 }) hx hb hml hown hts (k_X11_run l g _ _ _ mo ar1 ar7 ar10 ar11 ar24 ar26 ar27 ar28 ar29 ar30 ar31 ar32 ar33 ar34 ar35 ar41 ar42 ar43 ar44 ar49 ar52 ar54  hm_mo hf_mo) cV_X11_run wg_1706 ⟨Nat.le_of_ble_eq_true rfl, Nat.le_of_ble_eq_true rfl⟩ hG hE hA hPm hDm hS hm_mo hf_mo rfl rfl hl.1 (As := []) (rest := [.int r1]) rfl (Nat.le_of_ble_eq_true rfl) dL_law_512 ⟨Nat.le_of_ble_eq_true rfl, Nat.le_of_ble_eq_true rfl⟩) hA hDm hS (fun r3 L2 f2 H locs hp4 hP2 hD2 hS => ?_)
  refine lv_icmp_eq (tgt := 1361) hx hb dL_law_515 (by decide) (fun c5 => ?_) (fun c5 => absurd (hp2.trans hp4.symm) c5)
  exact law_end l hCE (Nat.le_of_ble_eq_true rfl) (Nat.le_of_ble_eq_true rfl) hS (lv_sub hl [0, 4] rfl)

set_option maxHeartbeats 4000000 in
theorem law_c9 {p : Program} {e : Env} {s : State} {m : MethodId} {below : List Frame} {meth : Method} {c : Code} (l : Launch) {b : Nat} {xs : Nat → Int32} (C0 : lw_At p s m meth c b 6 xs) (htr : l.stackTraces = false) {g : GG} (hG : GK g s) (hE : SW g (fun q : Nat => s.heap.size ≤ q) s s.heap) {Lx Lm : List Nat} {f : HP} {x t tb dr co ot dp pa pn pl pb ch fr nw n0 n1 n2 n3 n4 n5 n6 n7 n8 kp tr ac ah se tx rf mo ar1 ar7 ar10 ar11 ar24 ar26 ar27 ar28 ar29 ar30 ar31 ar32 ar33 ar34 ar35 ar41 ar42 ar43 ar44 ar49 ar52 ar54 o : Nat} {H : Heap} {locs : List Loc} (hPx : va_P g.1 vwCl (va_pl Lx f) H) (hDx : va_D (fun q : Nat => s.heap.size ≤ q) (va_pl Lx f)) (hPm : va_P g.1 vwCl (va_pl Lm f) H) (hDm : va_D (fun q : Nat => s.heap.size ≤ q) (va_pl Lm f)) (hdis : ∀ a, a ∈ Lm → a ∉ Lx) (hS : va_S (fun q : Nat => s.heap.size ≤ q) s.heap H locs) (hX : FX g f Lx x t tb dr co ot dp pa pn pl pb ch fr nw n0 n1 n2 n3 n4 n5 n6 n7 n8 kp tr ac ah se tx rf) (hM : FM g f Lm mo ar1 ar7 ar10 ar11 ar24 ar26 ar27 ar28 ar29 ar30 ar31 ar32 ar33 ar34 ar35 ar41 ar42 ar43 ar44 ar49 ar52 ar54) {ls : Array Slot} (hl : lv_has ls 7 [(4, .int 0), (3, .ref o), (2, .ref mo), (1, .ref x), (0, .ref b)]) : W p l e room_1 s m #[Value.ref b] below meth c H locs 1000 200000 (lw_Z below #[Value.ref b] s) (F0 m 520 ls []) := by
  obtain ⟨hx, hb, hr, hml, hown, hts0, hXs, hbl, hlocks, hgv⟩ := C0
  have hown : s.vm.findClass "RulerWordLaw" = some m.cls := hown
  have hts := hts1 hts0
  have hA : ∀ q, s.heap.size ≤ q → (fun q : Nat => s.heap.size ≤ q) q := fun _ h => h
  have hbA : ¬ (fun q : Nat => s.heap.size ≤ q) b := Nat.not_le.mpr hbl
  have hCE : lw_At p s m meth c b 6 xs := ⟨hx, hb, hr, hml, hown, hts0, hXs, hbl, hlocks, hgv⟩
  obtain ⟨hm_x, hf_x, hm_t, hf_t, hm_tb, hf_tb, hm_dr, hf_dr, hm_co, hf_co, hm_dp, hf_dp, hm_pa, hf_pa, hm_pn, hf_pn, hm_pl, hf_pl, hm_nw, hf_nw, hm_ac, hf_ac, hm_rf, hf_rf⟩ := hX
  obtain ⟨hm_mo, hf_mo, hm_ar1, hf_ar1, hm_ar7, hf_ar7, hm_ar11, hf_ar11, hm_ar49, hf_ar49⟩ := hM
  refine lv_aload_n hx hb dL_law_520 rfl (lv_at hl 3 rfl) ?_
  refine lv_aload_n hx hb dL_law_521 rfl (lv_at hl 4 rfl) ?_
  refine lv_iload hx hb dL_law_522 (lv_at hl 0 rfl) ?_
  refine lv_iconst (v := 1) hx hb dL_law_524 (by decide) ?_
  refine lv_iadd hx hb dL_law_525 ?_
  refine lv_topi (fun x1 ex1 => ?_)
  obtain rfl : x1 = 1 := ex1.trans (by decide)
  refine va_sld hx hb hXs hbl hbA hS (i := 1) (by unfold vp_in; decide) dL_law_526 ?_
  refine lv_topi (fun x2 ex2 => ?_)
  obtain rfl : x2 = xs 1 := ex2
  refine lv_aload_n hx hb dL_law_527 rfl (lv_at hl 4 rfl) ?_
  refine lv_iload hx hb dL_law_528 (lv_at hl 0 rfl) ?_
  refine lv_iconst (v := 2) hx hb dL_law_530 (by decide) ?_
  refine lv_iadd hx hb dL_law_531 ?_
  refine lv_topi (fun x3 ex3 => ?_)
  obtain rfl : x3 = 2 := ex3.trans (by decide)
  refine va_sld hx hb hXs hbl hbA hS (i := 2) (by unfold vp_in; decide) dL_law_532 ?_
  refine lv_topi (fun x4 ex4 => ?_)
  obtain rfl : x4 = xs 2 := ex4
  refine lv_aload_n hx hb dL_law_533 rfl (lv_at hl 4 rfl) ?_
  refine lv_iload hx hb dL_law_534 (lv_at hl 0 rfl) ?_
  refine lv_iconst (v := 3) hx hb dL_law_536 (by decide) ?_
  refine lv_iadd hx hb dL_law_537 ?_
  refine lv_topi (fun x5 ex5 => ?_)
  obtain rfl : x5 = 3 := ex5.trans (by decide)
  refine va_sld hx hb hXs hbl hbA hS (i := 3) (by unfold vp_in; decide) dL_law_538 ?_
  refine lv_topi (fun x6 ex6 => ?_)
  obtain rfl : x6 = xs 3 := ex6
  refine lv_aload_n hx hb dL_law_539 rfl (lv_at hl 4 rfl) ?_
  refine lv_iload hx hb dL_law_540 (lv_at hl 0 rfl) ?_
  refine lv_iconst (v := 4) hx hb dL_law_542 (by decide) ?_
  refine lv_iadd hx hb dL_law_543 ?_
  refine lv_topi (fun x7 ex7 => ?_)
  obtain rfl : x7 = 4 := ex7.trans (by decide)
  refine va_sld hx hb hXs hbl hbA hS (i := 4) (by unfold vp_in; decide) dL_law_544 ?_
  refine lv_topi (fun x8 ex8 => ?_)
  obtain rfl : x8 = xs 4 := ex8
  refine lv_aload_n hx hb dL_law_545 rfl (lv_at hl 4 rfl) ?_
  refine lv_iload hx hb dL_law_546 (lv_at hl 0 rfl) ?_
  refine lv_iconst (v := 5) hx hb dL_law_548 (by decide) ?_
  refine lv_iadd hx hb dL_law_549 ?_
  refine lv_topi (fun x9 ex9 => ?_)
  obtain rfl : x9 = 5 := ex9.trans (by decide)
  refine va_sld hx hb hXs hbl hbA hS (i := 5) (by unfold vp_in; decide) dL_law_550 ?_
  refine lv_topi (fun x10 ex10 => ?_)
  obtain rfl : x10 = xs 5 := ex10
  refine call_k (run_V (rm := { frames := 1, cells := 0, slots := 0, locals := 25 }) hx hb hml hown hts (k_X10_say l g _ _ _ x t dr co ot dp pn ch fr nw kp tr ac se tx rf (xs 1) (xs 2) (xs 3) (xs 4) (xs 5) hm_x hf_x hm_rf hf_rf) cV_X10_say wg_885 ⟨Nat.le_of_ble_eq_true rfl, Nat.le_of_ble_eq_true rfl⟩ hG hE hA hPx hDx hS hm_x hf_x rfl rfl hl.1 (As := [.int (xs 1), .int (xs 2), .int (xs 3), .int (xs 4), .int (xs 5)]) (rest := []) rfl (Nat.le_of_ble_eq_true rfl) dL_law_551 ⟨Nat.le_of_ble_eq_true rfl, Nat.le_of_ble_eq_true rfl⟩) hA hDx hS hPm hdis (fun r11 u1 H locs hp12 hPm hS => ?_)
  refine lv_aload_n hx hb dL_law_554 rfl (lv_at hl 2 rfl) ?_
  refine lv_aload_n hx hb dL_law_555 rfl (lv_at hl 4 rfl) ?_
  refine lv_iload hx hb dL_law_556 (lv_at hl 0 rfl) ?_
  refine lv_iconst (v := 1) hx hb dL_law_558 (by decide) ?_
  refine lv_iadd hx hb dL_law_559 ?_
  refine lv_topi (fun x13 ex13 => ?_)
  obtain rfl : x13 = 1 := ex13.trans (by decide)
  refine va_sld hx hb hXs hbl hbA hS (i := 1) (by unfold vp_in; decide) dL_law_560 ?_
  refine lv_topi (fun x14 ex14 => ?_)
  obtain rfl : x14 = xs 1 := ex14
  refine lv_aload_n hx hb dL_law_561 rfl (lv_at hl 4 rfl) ?_
  refine lv_iload hx hb dL_law_562 (lv_at hl 0 rfl) ?_
  refine lv_iconst (v := 2) hx hb dL_law_564 (by decide) ?_
  refine lv_iadd hx hb dL_law_565 ?_
  refine lv_topi (fun x15 ex15 => ?_)
  obtain rfl : x15 = 2 := ex15.trans (by decide)
  refine va_sld hx hb hXs hbl hbA hS (i := 2) (by unfold vp_in; decide) dL_law_566 ?_
  refine lv_topi (fun x16 ex16 => ?_)
  obtain rfl : x16 = xs 2 := ex16
  refine lv_aload_n hx hb dL_law_567 rfl (lv_at hl 4 rfl) ?_
  refine lv_iload hx hb dL_law_568 (lv_at hl 0 rfl) ?_
  refine lv_iconst (v := 3) hx hb dL_law_570 (by decide) ?_
  refine lv_iadd hx hb dL_law_571 ?_
  refine lv_topi (fun x17 ex17 => ?_)
  obtain rfl : x17 = 3 := ex17.trans (by decide)
  refine va_sld hx hb hXs hbl hbA hS (i := 3) (by unfold vp_in; decide) dL_law_572 ?_
  refine lv_topi (fun x18 ex18 => ?_)
  obtain rfl : x18 = xs 3 := ex18
  refine lv_aload_n hx hb dL_law_573 rfl (lv_at hl 4 rfl) ?_
  refine lv_iload hx hb dL_law_574 (lv_at hl 0 rfl) ?_
  refine lv_iconst (v := 4) hx hb dL_law_576 (by decide) ?_
  refine lv_iadd hx hb dL_law_577 ?_
  refine lv_topi (fun x19 ex19 => ?_)
  obtain rfl : x19 = 4 := ex19.trans (by decide)
  refine va_sld hx hb hXs hbl hbA hS (i := 4) (by unfold vp_in; decide) dL_law_578 ?_
  refine lv_topi (fun x20 ex20 => ?_)
  obtain rfl : x20 = xs 4 := ex20
  refine lv_aload_n hx hb dL_law_579 rfl (lv_at hl 4 rfl) ?_
  refine lv_iload hx hb dL_law_580 (lv_at hl 0 rfl) ?_
  refine lv_iconst (v := 5) hx hb dL_law_582 (by decide) ?_
  refine lv_iadd hx hb dL_law_583 ?_
  refine lv_topi (fun x21 ex21 => ?_)
  obtain rfl : x21 = 5 := ex21.trans (by decide)
  refine va_sld hx hb hXs hbl hbA hS (i := 5) (by unfold vp_in; decide) dL_law_584 ?_
  refine lv_topi (fun x22 ex22 => ?_)
  obtain rfl : x22 = xs 5 := ex22
  refine call_i (run_V (rm := { frames := 1, cells := 0, slots := 0, locals := 21 }) hx hb hml hown hts (k_X11_say l g _ _ _ mo ar1 ar7 ar10 ar11 ar24 ar26 ar27 ar28 ar29 ar30 ar31 ar32 ar33 ar34 ar35 ar41 ar42 ar43 ar44 ar49 ar52 ar54 (xs 1) (xs 2) (xs 3) (xs 4) (xs 5) hm_mo hf_mo hm_ar49 hf_ar49) cV_X11_say wg_1710 ⟨Nat.le_of_ble_eq_true rfl, Nat.le_of_ble_eq_true rfl⟩ hG hE hA hPm hDm hS hm_mo hf_mo rfl rfl hl.1 (As := [.int (xs 1), .int (xs 2), .int (xs 3), .int (xs 4), .int (xs 5)]) (rest := [.int r11]) rfl (Nat.le_of_ble_eq_true rfl) dL_law_585 ⟨Nat.le_of_ble_eq_true rfl, Nat.le_of_ble_eq_true rfl⟩) hA hDm hS (fun r23 L2 f2 H locs hp24 hP2 hD2 hS => ?_)
  refine lv_icmp_eq (tgt := 1361) hx hb dL_law_588 (by decide) (fun c25 => ?_) (fun c25 => absurd (hp12.trans hp24.symm) c25)
  exact law_end l hCE (Nat.le_of_ble_eq_true rfl) (Nat.le_of_ble_eq_true rfl) hS (lv_sub hl [0, 4] rfl)

set_option maxHeartbeats 4000000 in
theorem law_c10 {p : Program} {e : Env} {s : State} {m : MethodId} {below : List Frame} {meth : Method} {c : Code} (l : Launch) {b : Nat} {xs : Nat → Int32} (C0 : lw_At p s m meth c b 6 xs) (htr : l.stackTraces = false) {g : GG} (hG : GK g s) (hE : SW g (fun q : Nat => s.heap.size ≤ q) s s.heap) {Lx Lm : List Nat} {f : HP} {x t tb dr co ot dp pa pn pl pb ch fr nw n0 n1 n2 n3 n4 n5 n6 n7 n8 kp tr ac ah se tx rf mo ar1 ar7 ar10 ar11 ar24 ar26 ar27 ar28 ar29 ar30 ar31 ar32 ar33 ar34 ar35 ar41 ar42 ar43 ar44 ar49 ar52 ar54 o : Nat} {H : Heap} {locs : List Loc} (hPx : va_P g.1 vwCl (va_pl Lx f) H) (hDx : va_D (fun q : Nat => s.heap.size ≤ q) (va_pl Lx f)) (hPm : va_P g.1 vwCl (va_pl Lm f) H) (hDm : va_D (fun q : Nat => s.heap.size ≤ q) (va_pl Lm f)) (hdis : ∀ a, a ∈ Lm → a ∉ Lx) (hS : va_S (fun q : Nat => s.heap.size ≤ q) s.heap H locs) (hX : FX g f Lx x t tb dr co ot dp pa pn pl pb ch fr nw n0 n1 n2 n3 n4 n5 n6 n7 n8 kp tr ac ah se tx rf) (hM : FM g f Lm mo ar1 ar7 ar10 ar11 ar24 ar26 ar27 ar28 ar29 ar30 ar31 ar32 ar33 ar34 ar35 ar41 ar42 ar43 ar44 ar49 ar52 ar54) {ls : Array Slot} (hl : lv_has ls 7 [(4, .int 0), (3, .ref o), (2, .ref mo), (1, .ref x), (0, .ref b)]) : W p l e room_1 s m #[Value.ref b] below meth c H locs 1000 200000 (lw_Z below #[Value.ref b] s) (F0 m 593 ls []) := by
  obtain ⟨hx, hb, hr, hml, hown, hts0, hXs, hbl, hlocks, hgv⟩ := C0
  have hown : s.vm.findClass "RulerWordLaw" = some m.cls := hown
  have hts := hts1 hts0
  have hA : ∀ q, s.heap.size ≤ q → (fun q : Nat => s.heap.size ≤ q) q := fun _ h => h
  have hbA : ¬ (fun q : Nat => s.heap.size ≤ q) b := Nat.not_le.mpr hbl
  have hCE : lw_At p s m meth c b 6 xs := ⟨hx, hb, hr, hml, hown, hts0, hXs, hbl, hlocks, hgv⟩
  obtain ⟨hm_x, hf_x, hm_t, hf_t, hm_tb, hf_tb, hm_dr, hf_dr, hm_co, hf_co, hm_dp, hf_dp, hm_pa, hf_pa, hm_pn, hf_pn, hm_pl, hf_pl, hm_nw, hf_nw, hm_ac, hf_ac, hm_rf, hf_rf⟩ := hX
  obtain ⟨hm_mo, hf_mo, hm_ar1, hf_ar1, hm_ar7, hf_ar7, hm_ar11, hf_ar11, hm_ar49, hf_ar49⟩ := hM
  refine lv_aload_n hx hb dL_law_593 rfl (lv_at hl 3 rfl) ?_
  refine lv_aload_n hx hb dL_law_594 rfl (lv_at hl 4 rfl) ?_
  refine lv_iload hx hb dL_law_595 (lv_at hl 0 rfl) ?_
  refine lv_iconst (v := 1) hx hb dL_law_597 (by decide) ?_
  refine lv_iadd hx hb dL_law_598 ?_
  refine lv_topi (fun x1 ex1 => ?_)
  obtain rfl : x1 = 1 := ex1.trans (by decide)
  refine va_sld hx hb hXs hbl hbA hS (i := 1) (by unfold vp_in; decide) dL_law_599 ?_
  refine lv_topi (fun x2 ex2 => ?_)
  obtain rfl : x2 = xs 1 := ex2
  refine call_k (run_V (rm := { frames := 1, cells := 0, slots := 0, locals := 22 }) hx hb hml hown hts (k_X10_starts l g _ _ _ x t dr co ot dp pn ch fr nw kp tr ac se tx rf (xs 1) hm_x hf_x hm_co hf_co hm_rf hf_rf) cV_X10_starts wg_914 ⟨Nat.le_of_ble_eq_true rfl, Nat.le_of_ble_eq_true rfl⟩ hG hE hA hPx hDx hS hm_x hf_x rfl rfl hl.1 (As := [.int (xs 1)]) (rest := []) rfl (Nat.le_of_ble_eq_true rfl) dL_law_600 ⟨Nat.le_of_ble_eq_true rfl, Nat.le_of_ble_eq_true rfl⟩) hA hDx hS hPm hdis (fun r3 u1 H locs hp4 hPm hS => ?_)
  refine lv_aload_n hx hb dL_law_603 rfl (lv_at hl 2 rfl) ?_
  refine lv_aload_n hx hb dL_law_604 rfl (lv_at hl 4 rfl) ?_
  refine lv_iload hx hb dL_law_605 (lv_at hl 0 rfl) ?_
  refine lv_iconst (v := 1) hx hb dL_law_607 (by decide) ?_
  refine lv_iadd hx hb dL_law_608 ?_
  refine lv_topi (fun x5 ex5 => ?_)
  obtain rfl : x5 = 1 := ex5.trans (by decide)
  refine va_sld hx hb hXs hbl hbA hS (i := 1) (by unfold vp_in; decide) dL_law_609 ?_
  refine lv_topi (fun x6 ex6 => ?_)
  obtain rfl : x6 = xs 1 := ex6
  refine call_i (run_V (rm := { frames := 1, cells := 0, slots := 0, locals := 21 }) hx hb hml hown hts (k_X11_starts_ l g _ _ _ mo ar1 ar7 ar10 ar11 ar24 ar26 ar27 ar28 ar29 ar30 ar31 ar32 ar33 ar34 ar35 ar41 ar42 ar43 ar44 ar49 ar52 ar54 (xs 1) hm_mo hf_mo hm_ar49 hf_ar49) cV_X11_starts_ wg_1727 ⟨Nat.le_of_ble_eq_true rfl, Nat.le_of_ble_eq_true rfl⟩ hG hE hA hPm hDm hS hm_mo hf_mo rfl rfl hl.1 (As := [.int (xs 1)]) (rest := [.int r3]) rfl (Nat.le_of_ble_eq_true rfl) dL_law_610 ⟨Nat.le_of_ble_eq_true rfl, Nat.le_of_ble_eq_true rfl⟩) hA hDm hS (fun r7 L2 f2 H locs hp8 hP2 hD2 hS => ?_)
  refine lv_icmp_eq (tgt := 1361) hx hb dL_law_613 (by decide) (fun c9 => ?_) (fun c9 => absurd (hp4.trans hp8.symm) c9)
  exact law_end l hCE (Nat.le_of_ble_eq_true rfl) (Nat.le_of_ble_eq_true rfl) hS (lv_sub hl [0, 4] rfl)

set_option maxHeartbeats 4000000 in
theorem law_c11 {p : Program} {e : Env} {s : State} {m : MethodId} {below : List Frame} {meth : Method} {c : Code} (l : Launch) {b : Nat} {xs : Nat → Int32} (C0 : lw_At p s m meth c b 6 xs) (htr : l.stackTraces = false) {g : GG} (hG : GK g s) (hE : SW g (fun q : Nat => s.heap.size ≤ q) s s.heap) {Lx Lm : List Nat} {f : HP} {x t tb dr co ot dp pa pn pl pb ch fr nw n0 n1 n2 n3 n4 n5 n6 n7 n8 kp tr ac ah se tx rf mo ar1 ar7 ar10 ar11 ar24 ar26 ar27 ar28 ar29 ar30 ar31 ar32 ar33 ar34 ar35 ar41 ar42 ar43 ar44 ar49 ar52 ar54 o : Nat} {H : Heap} {locs : List Loc} (hPx : va_P g.1 vwCl (va_pl Lx f) H) (hDx : va_D (fun q : Nat => s.heap.size ≤ q) (va_pl Lx f)) (hPm : va_P g.1 vwCl (va_pl Lm f) H) (hDm : va_D (fun q : Nat => s.heap.size ≤ q) (va_pl Lm f)) (hdis : ∀ a, a ∈ Lm → a ∉ Lx) (hS : va_S (fun q : Nat => s.heap.size ≤ q) s.heap H locs) (hX : FX g f Lx x t tb dr co ot dp pa pn pl pb ch fr nw n0 n1 n2 n3 n4 n5 n6 n7 n8 kp tr ac ah se tx rf) (hM : FM g f Lm mo ar1 ar7 ar10 ar11 ar24 ar26 ar27 ar28 ar29 ar30 ar31 ar32 ar33 ar34 ar35 ar41 ar42 ar43 ar44 ar49 ar52 ar54) {ls : Array Slot} (hl : lv_has ls 7 [(4, .int 0), (3, .ref o), (2, .ref mo), (1, .ref x), (0, .ref b)]) : W p l e room_1 s m #[Value.ref b] below meth c H locs 1000 200000 (lw_Z below #[Value.ref b] s) (F0 m 618 ls []) := by
  obtain ⟨hx, hb, hr, hml, hown, hts0, hXs, hbl, hlocks, hgv⟩ := C0
  have hown : s.vm.findClass "RulerWordLaw" = some m.cls := hown
  have hts := hts1 hts0
  have hA : ∀ q, s.heap.size ≤ q → (fun q : Nat => s.heap.size ≤ q) q := fun _ h => h
  have hbA : ¬ (fun q : Nat => s.heap.size ≤ q) b := Nat.not_le.mpr hbl
  have hCE : lw_At p s m meth c b 6 xs := ⟨hx, hb, hr, hml, hown, hts0, hXs, hbl, hlocks, hgv⟩
  obtain ⟨hm_x, hf_x, hm_t, hf_t, hm_tb, hf_tb, hm_dr, hf_dr, hm_co, hf_co, hm_dp, hf_dp, hm_pa, hf_pa, hm_pn, hf_pn, hm_pl, hf_pl, hm_nw, hf_nw, hm_ac, hf_ac, hm_rf, hf_rf⟩ := hX
  obtain ⟨hm_mo, hf_mo, hm_ar1, hf_ar1, hm_ar7, hf_ar7, hm_ar11, hf_ar11, hm_ar49, hf_ar49⟩ := hM
  refine lv_aload_n hx hb dL_law_618 rfl (lv_at hl 3 rfl) ?_
  refine lv_aload_n hx hb dL_law_619 rfl (lv_at hl 4 rfl) ?_
  refine lv_iload hx hb dL_law_620 (lv_at hl 0 rfl) ?_
  refine lv_iconst (v := 1) hx hb dL_law_622 (by decide) ?_
  refine lv_iadd hx hb dL_law_623 ?_
  refine lv_topi (fun x1 ex1 => ?_)
  obtain rfl : x1 = 1 := ex1.trans (by decide)
  refine va_sld hx hb hXs hbl hbA hS (i := 1) (by unfold vp_in; decide) dL_law_624 ?_
  refine lv_topi (fun x2 ex2 => ?_)
  obtain rfl : x2 = xs 1 := ex2
  refine call_k (run_V (rm := { frames := 1, cells := 0, slots := 0, locals := 22 }) hx hb hml hown hts (k_X10_falseOnes l g _ _ _ x t dr co ot dp pn ch fr nw kp tr ac se tx rf (xs 1) hm_x hf_x hm_co hf_co hm_rf hf_rf) cV_X10_falseOnes wg_926 ⟨Nat.le_of_ble_eq_true rfl, Nat.le_of_ble_eq_true rfl⟩ hG hE hA hPx hDx hS hm_x hf_x rfl rfl hl.1 (As := [.int (xs 1)]) (rest := []) rfl (Nat.le_of_ble_eq_true rfl) dL_law_625 ⟨Nat.le_of_ble_eq_true rfl, Nat.le_of_ble_eq_true rfl⟩) hA hDx hS hPm hdis (fun r3 u1 H locs hp4 hPm hS => ?_)
  refine lv_aload_n hx hb dL_law_628 rfl (lv_at hl 2 rfl) ?_
  refine lv_aload_n hx hb dL_law_629 rfl (lv_at hl 4 rfl) ?_
  refine lv_iload hx hb dL_law_630 (lv_at hl 0 rfl) ?_
  refine lv_iconst (v := 1) hx hb dL_law_632 (by decide) ?_
  refine lv_iadd hx hb dL_law_633 ?_
  refine lv_topi (fun x5 ex5 => ?_)
  obtain rfl : x5 = 1 := ex5.trans (by decide)
  refine va_sld hx hb hXs hbl hbA hS (i := 1) (by unfold vp_in; decide) dL_law_634 ?_
  refine lv_topi (fun x6 ex6 => ?_)
  obtain rfl : x6 = xs 1 := ex6
  refine call_i (run_V (rm := { frames := 1, cells := 0, slots := 0, locals := 21 }) hx hb hml hown hts (k_X11_falseOnes l g _ _ _ mo ar1 ar7 ar10 ar11 ar24 ar26 ar27 ar28 ar29 ar30 ar31 ar32 ar33 ar34 ar35 ar41 ar42 ar43 ar44 ar49 ar52 ar54 (xs 1) hm_mo hf_mo hm_ar49 hf_ar49) cV_X11_falseOnes wg_1731 ⟨Nat.le_of_ble_eq_true rfl, Nat.le_of_ble_eq_true rfl⟩ hG hE hA hPm hDm hS hm_mo hf_mo rfl rfl hl.1 (As := [.int (xs 1)]) (rest := [.int r3]) rfl (Nat.le_of_ble_eq_true rfl) dL_law_635 ⟨Nat.le_of_ble_eq_true rfl, Nat.le_of_ble_eq_true rfl⟩) hA hDm hS (fun r7 L2 f2 H locs hp8 hP2 hD2 hS => ?_)
  refine lv_icmp_eq (tgt := 1361) hx hb dL_law_638 (by decide) (fun c9 => ?_) (fun c9 => absurd (hp4.trans hp8.symm) c9)
  exact law_end l hCE (Nat.le_of_ble_eq_true rfl) (Nat.le_of_ble_eq_true rfl) hS (lv_sub hl [0, 4] rfl)

set_option maxHeartbeats 4000000 in
theorem law_c12 {p : Program} {e : Env} {s : State} {m : MethodId} {below : List Frame} {meth : Method} {c : Code} (l : Launch) {b : Nat} {xs : Nat → Int32} (C0 : lw_At p s m meth c b 6 xs) (htr : l.stackTraces = false) {g : GG} (hG : GK g s) (hE : SW g (fun q : Nat => s.heap.size ≤ q) s s.heap) {Lx Lm : List Nat} {f : HP} {x t tb dr co ot dp pa pn pl pb ch fr nw n0 n1 n2 n3 n4 n5 n6 n7 n8 kp tr ac ah se tx rf mo ar1 ar7 ar10 ar11 ar24 ar26 ar27 ar28 ar29 ar30 ar31 ar32 ar33 ar34 ar35 ar41 ar42 ar43 ar44 ar49 ar52 ar54 o : Nat} {H : Heap} {locs : List Loc} (hPx : va_P g.1 vwCl (va_pl Lx f) H) (hDx : va_D (fun q : Nat => s.heap.size ≤ q) (va_pl Lx f)) (hPm : va_P g.1 vwCl (va_pl Lm f) H) (hDm : va_D (fun q : Nat => s.heap.size ≤ q) (va_pl Lm f)) (hdis : ∀ a, a ∈ Lm → a ∉ Lx) (hS : va_S (fun q : Nat => s.heap.size ≤ q) s.heap H locs) (hX : FX g f Lx x t tb dr co ot dp pa pn pl pb ch fr nw n0 n1 n2 n3 n4 n5 n6 n7 n8 kp tr ac ah se tx rf) (hM : FM g f Lm mo ar1 ar7 ar10 ar11 ar24 ar26 ar27 ar28 ar29 ar30 ar31 ar32 ar33 ar34 ar35 ar41 ar42 ar43 ar44 ar49 ar52 ar54) {ls : Array Slot} (hl : lv_has ls 7 [(4, .int 0), (3, .ref o), (2, .ref mo), (1, .ref x), (0, .ref b)]) : W p l e room_1 s m #[Value.ref b] below meth c H locs 1000 200000 (lw_Z below #[Value.ref b] s) (F0 m 643 ls []) := by
  obtain ⟨hx, hb, hr, hml, hown, hts0, hXs, hbl, hlocks, hgv⟩ := C0
  have hown : s.vm.findClass "RulerWordLaw" = some m.cls := hown
  have hts := hts1 hts0
  have hA : ∀ q, s.heap.size ≤ q → (fun q : Nat => s.heap.size ≤ q) q := fun _ h => h
  have hbA : ¬ (fun q : Nat => s.heap.size ≤ q) b := Nat.not_le.mpr hbl
  have hCE : lw_At p s m meth c b 6 xs := ⟨hx, hb, hr, hml, hown, hts0, hXs, hbl, hlocks, hgv⟩
  obtain ⟨hm_x, hf_x, hm_t, hf_t, hm_tb, hf_tb, hm_dr, hf_dr, hm_co, hf_co, hm_dp, hf_dp, hm_pa, hf_pa, hm_pn, hf_pn, hm_pl, hf_pl, hm_nw, hf_nw, hm_ac, hf_ac, hm_rf, hf_rf⟩ := hX
  obtain ⟨hm_mo, hf_mo, hm_ar1, hf_ar1, hm_ar7, hf_ar7, hm_ar11, hf_ar11, hm_ar49, hf_ar49⟩ := hM
  refine lv_aload_n hx hb dL_law_643 rfl (lv_at hl 3 rfl) ?_
  refine lv_aload_n hx hb dL_law_644 rfl (lv_at hl 4 rfl) ?_
  refine lv_iload hx hb dL_law_645 (lv_at hl 0 rfl) ?_
  refine lv_iconst (v := 1) hx hb dL_law_647 (by decide) ?_
  refine lv_iadd hx hb dL_law_648 ?_
  refine lv_topi (fun x1 ex1 => ?_)
  obtain rfl : x1 = 1 := ex1.trans (by decide)
  refine va_sld hx hb hXs hbl hbA hS (i := 1) (by unfold vp_in; decide) dL_law_649 ?_
  refine lv_topi (fun x2 ex2 => ?_)
  obtain rfl : x2 = xs 1 := ex2
  refine lv_aload_n hx hb dL_law_650 rfl (lv_at hl 4 rfl) ?_
  refine lv_iload hx hb dL_law_651 (lv_at hl 0 rfl) ?_
  refine lv_iconst (v := 2) hx hb dL_law_653 (by decide) ?_
  refine lv_iadd hx hb dL_law_654 ?_
  refine lv_topi (fun x3 ex3 => ?_)
  obtain rfl : x3 = 2 := ex3.trans (by decide)
  refine va_sld hx hb hXs hbl hbA hS (i := 2) (by unfold vp_in; decide) dL_law_655 ?_
  refine lv_topi (fun x4 ex4 => ?_)
  obtain rfl : x4 = xs 2 := ex4
  refine lv_aload_n hx hb dL_law_656 rfl (lv_at hl 4 rfl) ?_
  refine lv_iload hx hb dL_law_657 (lv_at hl 0 rfl) ?_
  refine lv_iconst (v := 3) hx hb dL_law_659 (by decide) ?_
  refine lv_iadd hx hb dL_law_660 ?_
  refine lv_topi (fun x5 ex5 => ?_)
  obtain rfl : x5 = 3 := ex5.trans (by decide)
  refine va_sld hx hb hXs hbl hbA hS (i := 3) (by unfold vp_in; decide) dL_law_661 ?_
  refine lv_topi (fun x6 ex6 => ?_)
  obtain rfl : x6 = xs 3 := ex6
  refine lv_aload_n hx hb dL_law_662 rfl (lv_at hl 4 rfl) ?_
  refine lv_iload hx hb dL_law_663 (lv_at hl 0 rfl) ?_
  refine lv_iconst (v := 4) hx hb dL_law_665 (by decide) ?_
  refine lv_iadd hx hb dL_law_666 ?_
  refine lv_topi (fun x7 ex7 => ?_)
  obtain rfl : x7 = 4 := ex7.trans (by decide)
  refine va_sld hx hb hXs hbl hbA hS (i := 4) (by unfold vp_in; decide) dL_law_667 ?_
  refine lv_topi (fun x8 ex8 => ?_)
  obtain rfl : x8 = xs 4 := ex8
  refine call_k (run_V (rm := { frames := 1, cells := 0, slots := 0, locals := 21 }) hx hb hml hown hts (k_X10_heard l g _ _ _ x t dr co ot dp pn ch fr nw kp tr ac se tx rf (xs 1) (xs 2) (xs 3) (xs 4) hm_x hf_x) cV_X10_heard wg_934 ⟨Nat.le_of_ble_eq_true rfl, Nat.le_of_ble_eq_true rfl⟩ hG hE hA hPx hDx hS hm_x hf_x rfl rfl hl.1 (As := [.int (xs 1), .int (xs 2), .int (xs 3), .int (xs 4)]) (rest := []) rfl (Nat.le_of_ble_eq_true rfl) dL_law_668 ⟨Nat.le_of_ble_eq_true rfl, Nat.le_of_ble_eq_true rfl⟩) hA hDx hS hPm hdis (fun r9 u1 H locs hp10 hPm hS => ?_)
  refine lv_aload_n hx hb dL_law_671 rfl (lv_at hl 2 rfl) ?_
  refine lv_aload_n hx hb dL_law_672 rfl (lv_at hl 4 rfl) ?_
  refine lv_iload hx hb dL_law_673 (lv_at hl 0 rfl) ?_
  refine lv_iconst (v := 1) hx hb dL_law_675 (by decide) ?_
  refine lv_iadd hx hb dL_law_676 ?_
  refine lv_topi (fun x11 ex11 => ?_)
  obtain rfl : x11 = 1 := ex11.trans (by decide)
  refine va_sld hx hb hXs hbl hbA hS (i := 1) (by unfold vp_in; decide) dL_law_677 ?_
  refine lv_topi (fun x12 ex12 => ?_)
  obtain rfl : x12 = xs 1 := ex12
  refine lv_aload_n hx hb dL_law_678 rfl (lv_at hl 4 rfl) ?_
  refine lv_iload hx hb dL_law_679 (lv_at hl 0 rfl) ?_
  refine lv_iconst (v := 2) hx hb dL_law_681 (by decide) ?_
  refine lv_iadd hx hb dL_law_682 ?_
  refine lv_topi (fun x13 ex13 => ?_)
  obtain rfl : x13 = 2 := ex13.trans (by decide)
  refine va_sld hx hb hXs hbl hbA hS (i := 2) (by unfold vp_in; decide) dL_law_683 ?_
  refine lv_topi (fun x14 ex14 => ?_)
  obtain rfl : x14 = xs 2 := ex14
  refine lv_aload_n hx hb dL_law_684 rfl (lv_at hl 4 rfl) ?_
  refine lv_iload hx hb dL_law_685 (lv_at hl 0 rfl) ?_
  refine lv_iconst (v := 3) hx hb dL_law_687 (by decide) ?_
  refine lv_iadd hx hb dL_law_688 ?_
  refine lv_topi (fun x15 ex15 => ?_)
  obtain rfl : x15 = 3 := ex15.trans (by decide)
  refine va_sld hx hb hXs hbl hbA hS (i := 3) (by unfold vp_in; decide) dL_law_689 ?_
  refine lv_topi (fun x16 ex16 => ?_)
  obtain rfl : x16 = xs 3 := ex16
  refine lv_aload_n hx hb dL_law_690 rfl (lv_at hl 4 rfl) ?_
  refine lv_iload hx hb dL_law_691 (lv_at hl 0 rfl) ?_
  refine lv_iconst (v := 4) hx hb dL_law_693 (by decide) ?_
  refine lv_iadd hx hb dL_law_694 ?_
  refine lv_topi (fun x17 ex17 => ?_)
  obtain rfl : x17 = 4 := ex17.trans (by decide)
  refine va_sld hx hb hXs hbl hbA hS (i := 4) (by unfold vp_in; decide) dL_law_695 ?_
  refine lv_topi (fun x18 ex18 => ?_)
  obtain rfl : x18 = xs 4 := ex18
  refine call_i (run_V (rm := { frames := 1, cells := 0, slots := 0, locals := 22 }) hx hb hml hown hts (k_X11_heard l g _ _ _ mo ar1 ar7 ar10 ar11 ar24 ar26 ar27 ar28 ar29 ar30 ar31 ar32 ar33 ar34 ar35 ar41 ar42 ar43 ar44 ar49 ar52 ar54 (xs 1) (xs 2) (xs 3) (xs 4) hm_mo hf_mo) cV_X11_heard wg_1761 ⟨Nat.le_of_ble_eq_true rfl, Nat.le_of_ble_eq_true rfl⟩ hG hE hA hPm hDm hS hm_mo hf_mo rfl rfl hl.1 (As := [.int (xs 1), .int (xs 2), .int (xs 3), .int (xs 4)]) (rest := [.int r9]) rfl (Nat.le_of_ble_eq_true rfl) dL_law_696 ⟨Nat.le_of_ble_eq_true rfl, Nat.le_of_ble_eq_true rfl⟩) hA hDm hS (fun r19 L2 f2 H locs hp20 hP2 hD2 hS => ?_)
  refine lv_icmp_eq (tgt := 1361) hx hb dL_law_699 (by decide) (fun c21 => ?_) (fun c21 => absurd (hp10.trans hp20.symm) c21)
  exact law_end l hCE (Nat.le_of_ble_eq_true rfl) (Nat.le_of_ble_eq_true rfl) hS (lv_sub hl [0, 4] rfl)

set_option maxHeartbeats 4000000 in
theorem law_c13 {p : Program} {e : Env} {s : State} {m : MethodId} {below : List Frame} {meth : Method} {c : Code} (l : Launch) {b : Nat} {xs : Nat → Int32} (C0 : lw_At p s m meth c b 6 xs) (htr : l.stackTraces = false) {g : GG} (hG : GK g s) (hE : SW g (fun q : Nat => s.heap.size ≤ q) s s.heap) {Lx Lm : List Nat} {f : HP} {x t tb dr co ot dp pa pn pl pb ch fr nw n0 n1 n2 n3 n4 n5 n6 n7 n8 kp tr ac ah se tx rf mo ar1 ar7 ar10 ar11 ar24 ar26 ar27 ar28 ar29 ar30 ar31 ar32 ar33 ar34 ar35 ar41 ar42 ar43 ar44 ar49 ar52 ar54 o : Nat} {H : Heap} {locs : List Loc} (hPx : va_P g.1 vwCl (va_pl Lx f) H) (hDx : va_D (fun q : Nat => s.heap.size ≤ q) (va_pl Lx f)) (hPm : va_P g.1 vwCl (va_pl Lm f) H) (hDm : va_D (fun q : Nat => s.heap.size ≤ q) (va_pl Lm f)) (hdis : ∀ a, a ∈ Lm → a ∉ Lx) (hS : va_S (fun q : Nat => s.heap.size ≤ q) s.heap H locs) (hX : FX g f Lx x t tb dr co ot dp pa pn pl pb ch fr nw n0 n1 n2 n3 n4 n5 n6 n7 n8 kp tr ac ah se tx rf) (hM : FM g f Lm mo ar1 ar7 ar10 ar11 ar24 ar26 ar27 ar28 ar29 ar30 ar31 ar32 ar33 ar34 ar35 ar41 ar42 ar43 ar44 ar49 ar52 ar54) {ls : Array Slot} (hl : lv_has ls 7 [(4, .int 0), (3, .ref o), (2, .ref mo), (1, .ref x), (0, .ref b)]) : W p l e room_1 s m #[Value.ref b] below meth c H locs 1000 200000 (lw_Z below #[Value.ref b] s) (F0 m 704 ls []) := by
  obtain ⟨hx, hb, hr, hml, hown, hts0, hXs, hbl, hlocks, hgv⟩ := C0
  have hown : s.vm.findClass "RulerWordLaw" = some m.cls := hown
  have hts := hts1 hts0
  have hA : ∀ q, s.heap.size ≤ q → (fun q : Nat => s.heap.size ≤ q) q := fun _ h => h
  have hbA : ¬ (fun q : Nat => s.heap.size ≤ q) b := Nat.not_le.mpr hbl
  have hCE : lw_At p s m meth c b 6 xs := ⟨hx, hb, hr, hml, hown, hts0, hXs, hbl, hlocks, hgv⟩
  obtain ⟨hm_x, hf_x, hm_t, hf_t, hm_tb, hf_tb, hm_dr, hf_dr, hm_co, hf_co, hm_dp, hf_dp, hm_pa, hf_pa, hm_pn, hf_pn, hm_pl, hf_pl, hm_nw, hf_nw, hm_ac, hf_ac, hm_rf, hf_rf⟩ := hX
  obtain ⟨hm_mo, hf_mo, hm_ar1, hf_ar1, hm_ar7, hf_ar7, hm_ar11, hf_ar11, hm_ar49, hf_ar49⟩ := hM
  refine lv_aload_n hx hb dL_law_704 rfl (lv_at hl 3 rfl) ?_
  refine lv_aload_n hx hb dL_law_705 rfl (lv_at hl 4 rfl) ?_
  refine lv_iload hx hb dL_law_706 (lv_at hl 0 rfl) ?_
  refine lv_iconst (v := 1) hx hb dL_law_708 (by decide) ?_
  refine lv_iadd hx hb dL_law_709 ?_
  refine lv_topi (fun x1 ex1 => ?_)
  obtain rfl : x1 = 1 := ex1.trans (by decide)
  refine va_sld hx hb hXs hbl hbA hS (i := 1) (by unfold vp_in; decide) dL_law_710 ?_
  refine lv_topi (fun x2 ex2 => ?_)
  obtain rfl : x2 = xs 1 := ex2
  refine lv_aload_n hx hb dL_law_711 rfl (lv_at hl 4 rfl) ?_
  refine lv_iload hx hb dL_law_712 (lv_at hl 0 rfl) ?_
  refine lv_iconst (v := 2) hx hb dL_law_714 (by decide) ?_
  refine lv_iadd hx hb dL_law_715 ?_
  refine lv_topi (fun x3 ex3 => ?_)
  obtain rfl : x3 = 2 := ex3.trans (by decide)
  refine va_sld hx hb hXs hbl hbA hS (i := 2) (by unfold vp_in; decide) dL_law_716 ?_
  refine lv_topi (fun x4 ex4 => ?_)
  obtain rfl : x4 = xs 2 := ex4
  refine call_k (run_V (rm := { frames := 1, cells := 0, slots := 0, locals := 21 }) hx hb hml hown hts (k_X10_peer l g _ _ _ x t dr co ot dp pn ch fr nw kp tr ac se tx rf (xs 1) (xs 2) hm_x hf_x) cV_X10_peer wg_940 ⟨Nat.le_of_ble_eq_true rfl, Nat.le_of_ble_eq_true rfl⟩ hG hE hA hPx hDx hS hm_x hf_x rfl rfl hl.1 (As := [.int (xs 1), .int (xs 2)]) (rest := []) rfl (Nat.le_of_ble_eq_true rfl) dL_law_717 ⟨Nat.le_of_ble_eq_true rfl, Nat.le_of_ble_eq_true rfl⟩) hA hDx hS hPm hdis (fun r5 u1 H locs hp6 hPm hS => ?_)
  refine lv_aload_n hx hb dL_law_720 rfl (lv_at hl 2 rfl) ?_
  refine lv_aload_n hx hb dL_law_721 rfl (lv_at hl 4 rfl) ?_
  refine lv_iload hx hb dL_law_722 (lv_at hl 0 rfl) ?_
  refine lv_iconst (v := 1) hx hb dL_law_724 (by decide) ?_
  refine lv_iadd hx hb dL_law_725 ?_
  refine lv_topi (fun x7 ex7 => ?_)
  obtain rfl : x7 = 1 := ex7.trans (by decide)
  refine va_sld hx hb hXs hbl hbA hS (i := 1) (by unfold vp_in; decide) dL_law_726 ?_
  refine lv_topi (fun x8 ex8 => ?_)
  obtain rfl : x8 = xs 1 := ex8
  refine lv_aload_n hx hb dL_law_727 rfl (lv_at hl 4 rfl) ?_
  refine lv_iload hx hb dL_law_728 (lv_at hl 0 rfl) ?_
  refine lv_iconst (v := 2) hx hb dL_law_730 (by decide) ?_
  refine lv_iadd hx hb dL_law_731 ?_
  refine lv_topi (fun x9 ex9 => ?_)
  obtain rfl : x9 = 2 := ex9.trans (by decide)
  refine va_sld hx hb hXs hbl hbA hS (i := 2) (by unfold vp_in; decide) dL_law_732 ?_
  refine lv_topi (fun x10 ex10 => ?_)
  obtain rfl : x10 = xs 2 := ex10
  refine call_i (run_V (rm := { frames := 1, cells := 0, slots := 0, locals := 21 }) hx hb hml hown hts (k_X11_peer l g _ _ _ mo ar1 ar7 ar10 ar11 ar24 ar26 ar27 ar28 ar29 ar30 ar31 ar32 ar33 ar34 ar35 ar41 ar42 ar43 ar44 ar49 ar52 ar54 (xs 1) (xs 2) hm_mo hf_mo) cV_X11_peer wg_1765 ⟨Nat.le_of_ble_eq_true rfl, Nat.le_of_ble_eq_true rfl⟩ hG hE hA hPm hDm hS hm_mo hf_mo rfl rfl hl.1 (As := [.int (xs 1), .int (xs 2)]) (rest := [.int r5]) rfl (Nat.le_of_ble_eq_true rfl) dL_law_733 ⟨Nat.le_of_ble_eq_true rfl, Nat.le_of_ble_eq_true rfl⟩) hA hDm hS (fun r11 L2 f2 H locs hp12 hP2 hD2 hS => ?_)
  refine lv_icmp_eq (tgt := 1361) hx hb dL_law_736 (by decide) (fun c13 => ?_) (fun c13 => absurd (hp6.trans hp12.symm) c13)
  exact law_end l hCE (Nat.le_of_ble_eq_true rfl) (Nat.le_of_ble_eq_true rfl) hS (lv_sub hl [0, 4] rfl)

set_option maxHeartbeats 4000000 in
theorem law_c14 {p : Program} {e : Env} {s : State} {m : MethodId} {below : List Frame} {meth : Method} {c : Code} (l : Launch) {b : Nat} {xs : Nat → Int32} (C0 : lw_At p s m meth c b 6 xs) (htr : l.stackTraces = false) {g : GG} (hG : GK g s) (hE : SW g (fun q : Nat => s.heap.size ≤ q) s s.heap) {Lx Lm : List Nat} {f : HP} {x t tb dr co ot dp pa pn pl pb ch fr nw n0 n1 n2 n3 n4 n5 n6 n7 n8 kp tr ac ah se tx rf mo ar1 ar7 ar10 ar11 ar24 ar26 ar27 ar28 ar29 ar30 ar31 ar32 ar33 ar34 ar35 ar41 ar42 ar43 ar44 ar49 ar52 ar54 o : Nat} {H : Heap} {locs : List Loc} (hPx : va_P g.1 vwCl (va_pl Lx f) H) (hDx : va_D (fun q : Nat => s.heap.size ≤ q) (va_pl Lx f)) (hPm : va_P g.1 vwCl (va_pl Lm f) H) (hDm : va_D (fun q : Nat => s.heap.size ≤ q) (va_pl Lm f)) (hdis : ∀ a, a ∈ Lm → a ∉ Lx) (hS : va_S (fun q : Nat => s.heap.size ≤ q) s.heap H locs) (hX : FX g f Lx x t tb dr co ot dp pa pn pl pb ch fr nw n0 n1 n2 n3 n4 n5 n6 n7 n8 kp tr ac ah se tx rf) (hM : FM g f Lm mo ar1 ar7 ar10 ar11 ar24 ar26 ar27 ar28 ar29 ar30 ar31 ar32 ar33 ar34 ar35 ar41 ar42 ar43 ar44 ar49 ar52 ar54) {ls : Array Slot} (hl : lv_has ls 7 [(4, .int 0), (3, .ref o), (2, .ref mo), (1, .ref x), (0, .ref b)]) : W p l e room_1 s m #[Value.ref b] below meth c H locs 1000 200000 (lw_Z below #[Value.ref b] s) (F0 m 741 ls []) := by
  obtain ⟨hx, hb, hr, hml, hown, hts0, hXs, hbl, hlocks, hgv⟩ := C0
  have hown : s.vm.findClass "RulerWordLaw" = some m.cls := hown
  have hts := hts1 hts0
  have hA : ∀ q, s.heap.size ≤ q → (fun q : Nat => s.heap.size ≤ q) q := fun _ h => h
  have hbA : ¬ (fun q : Nat => s.heap.size ≤ q) b := Nat.not_le.mpr hbl
  have hCE : lw_At p s m meth c b 6 xs := ⟨hx, hb, hr, hml, hown, hts0, hXs, hbl, hlocks, hgv⟩
  obtain ⟨hm_x, hf_x, hm_t, hf_t, hm_tb, hf_tb, hm_dr, hf_dr, hm_co, hf_co, hm_dp, hf_dp, hm_pa, hf_pa, hm_pn, hf_pn, hm_pl, hf_pl, hm_nw, hf_nw, hm_ac, hf_ac, hm_rf, hf_rf⟩ := hX
  obtain ⟨hm_mo, hf_mo, hm_ar1, hf_ar1, hm_ar7, hf_ar7, hm_ar11, hf_ar11, hm_ar49, hf_ar49⟩ := hM
  refine lv_aload_n hx hb dL_law_741 rfl (lv_at hl 3 rfl) ?_
  refine lv_aload_n hx hb dL_law_742 rfl (lv_at hl 4 rfl) ?_
  refine lv_iload hx hb dL_law_743 (lv_at hl 0 rfl) ?_
  refine lv_iconst (v := 1) hx hb dL_law_745 (by decide) ?_
  refine lv_iadd hx hb dL_law_746 ?_
  refine lv_topi (fun x1 ex1 => ?_)
  obtain rfl : x1 = 1 := ex1.trans (by decide)
  refine va_sld hx hb hXs hbl hbA hS (i := 1) (by unfold vp_in; decide) dL_law_747 ?_
  refine lv_topi (fun x2 ex2 => ?_)
  obtain rfl : x2 = xs 1 := ex2
  refine lv_aload_n hx hb dL_law_748 rfl (lv_at hl 4 rfl) ?_
  refine lv_iload hx hb dL_law_749 (lv_at hl 0 rfl) ?_
  refine lv_iconst (v := 2) hx hb dL_law_751 (by decide) ?_
  refine lv_iadd hx hb dL_law_752 ?_
  refine lv_topi (fun x3 ex3 => ?_)
  obtain rfl : x3 = 2 := ex3.trans (by decide)
  refine va_sld hx hb hXs hbl hbA hS (i := 2) (by unfold vp_in; decide) dL_law_753 ?_
  refine lv_topi (fun x4 ex4 => ?_)
  obtain rfl : x4 = xs 2 := ex4
  refine lv_aload_n hx hb dL_law_754 rfl (lv_at hl 4 rfl) ?_
  refine lv_iload hx hb dL_law_755 (lv_at hl 0 rfl) ?_
  refine lv_iconst (v := 3) hx hb dL_law_757 (by decide) ?_
  refine lv_iadd hx hb dL_law_758 ?_
  refine lv_topi (fun x5 ex5 => ?_)
  obtain rfl : x5 = 3 := ex5.trans (by decide)
  refine va_sld hx hb hXs hbl hbA hS (i := 3) (by unfold vp_in; decide) dL_law_759 ?_
  refine lv_topi (fun x6 ex6 => ?_)
  obtain rfl : x6 = xs 3 := ex6
  refine call_k (run_V (rm := { frames := 1, cells := 0, slots := 0, locals := 21 }) hx hb hml hown hts (k_X10_told l g _ _ _ x t dr co ot dp pn ch fr nw kp tr ac se tx rf (xs 1) (xs 2) (xs 3) hm_x hf_x) cV_X10_told wg_948 ⟨Nat.le_of_ble_eq_true rfl, Nat.le_of_ble_eq_true rfl⟩ hG hE hA hPx hDx hS hm_x hf_x rfl rfl hl.1 (As := [.int (xs 1), .int (xs 2), .int (xs 3)]) (rest := []) rfl (Nat.le_of_ble_eq_true rfl) dL_law_760 ⟨Nat.le_of_ble_eq_true rfl, Nat.le_of_ble_eq_true rfl⟩) hA hDx hS hPm hdis (fun r7 u1 H locs hp8 hPm hS => ?_)
  refine lv_aload_n hx hb dL_law_763 rfl (lv_at hl 2 rfl) ?_
  refine lv_aload_n hx hb dL_law_764 rfl (lv_at hl 4 rfl) ?_
  refine lv_iload hx hb dL_law_765 (lv_at hl 0 rfl) ?_
  refine lv_iconst (v := 1) hx hb dL_law_767 (by decide) ?_
  refine lv_iadd hx hb dL_law_768 ?_
  refine lv_topi (fun x9 ex9 => ?_)
  obtain rfl : x9 = 1 := ex9.trans (by decide)
  refine va_sld hx hb hXs hbl hbA hS (i := 1) (by unfold vp_in; decide) dL_law_769 ?_
  refine lv_topi (fun x10 ex10 => ?_)
  obtain rfl : x10 = xs 1 := ex10
  refine lv_aload_n hx hb dL_law_770 rfl (lv_at hl 4 rfl) ?_
  refine lv_iload hx hb dL_law_771 (lv_at hl 0 rfl) ?_
  refine lv_iconst (v := 2) hx hb dL_law_773 (by decide) ?_
  refine lv_iadd hx hb dL_law_774 ?_
  refine lv_topi (fun x11 ex11 => ?_)
  obtain rfl : x11 = 2 := ex11.trans (by decide)
  refine va_sld hx hb hXs hbl hbA hS (i := 2) (by unfold vp_in; decide) dL_law_775 ?_
  refine lv_topi (fun x12 ex12 => ?_)
  obtain rfl : x12 = xs 2 := ex12
  refine lv_aload_n hx hb dL_law_776 rfl (lv_at hl 4 rfl) ?_
  refine lv_iload hx hb dL_law_777 (lv_at hl 0 rfl) ?_
  refine lv_iconst (v := 3) hx hb dL_law_779 (by decide) ?_
  refine lv_iadd hx hb dL_law_780 ?_
  refine lv_topi (fun x13 ex13 => ?_)
  obtain rfl : x13 = 3 := ex13.trans (by decide)
  refine va_sld hx hb hXs hbl hbA hS (i := 3) (by unfold vp_in; decide) dL_law_781 ?_
  refine lv_topi (fun x14 ex14 => ?_)
  obtain rfl : x14 = xs 3 := ex14
  refine call_i (run_V (rm := { frames := 1, cells := 0, slots := 0, locals := 21 }) hx hb hml hown hts (k_X11_told l g _ _ _ mo ar1 ar7 ar10 ar11 ar24 ar26 ar27 ar28 ar29 ar30 ar31 ar32 ar33 ar34 ar35 ar41 ar42 ar43 ar44 ar49 ar52 ar54 (xs 1) (xs 2) (xs 3) hm_mo hf_mo) cV_X11_told wg_1769 ⟨Nat.le_of_ble_eq_true rfl, Nat.le_of_ble_eq_true rfl⟩ hG hE hA hPm hDm hS hm_mo hf_mo rfl rfl hl.1 (As := [.int (xs 1), .int (xs 2), .int (xs 3)]) (rest := [.int r7]) rfl (Nat.le_of_ble_eq_true rfl) dL_law_782 ⟨Nat.le_of_ble_eq_true rfl, Nat.le_of_ble_eq_true rfl⟩) hA hDm hS (fun r15 L2 f2 H locs hp16 hP2 hD2 hS => ?_)
  refine lv_icmp_eq (tgt := 1361) hx hb dL_law_785 (by decide) (fun c17 => ?_) (fun c17 => absurd (hp8.trans hp16.symm) c17)
  exact law_end l hCE (Nat.le_of_ble_eq_true rfl) (Nat.le_of_ble_eq_true rfl) hS (lv_sub hl [0, 4] rfl)

set_option maxHeartbeats 4000000 in
theorem law_c15 {p : Program} {e : Env} {s : State} {m : MethodId} {below : List Frame} {meth : Method} {c : Code} (l : Launch) {b : Nat} {xs : Nat → Int32} (C0 : lw_At p s m meth c b 6 xs) (htr : l.stackTraces = false) {g : GG} (hG : GK g s) (hE : SW g (fun q : Nat => s.heap.size ≤ q) s s.heap) {Lx Lm : List Nat} {f : HP} {x t tb dr co ot dp pa pn pl pb ch fr nw n0 n1 n2 n3 n4 n5 n6 n7 n8 kp tr ac ah se tx rf mo ar1 ar7 ar10 ar11 ar24 ar26 ar27 ar28 ar29 ar30 ar31 ar32 ar33 ar34 ar35 ar41 ar42 ar43 ar44 ar49 ar52 ar54 o : Nat} {H : Heap} {locs : List Loc} (hPx : va_P g.1 vwCl (va_pl Lx f) H) (hDx : va_D (fun q : Nat => s.heap.size ≤ q) (va_pl Lx f)) (hPm : va_P g.1 vwCl (va_pl Lm f) H) (hDm : va_D (fun q : Nat => s.heap.size ≤ q) (va_pl Lm f)) (hdis : ∀ a, a ∈ Lm → a ∉ Lx) (hS : va_S (fun q : Nat => s.heap.size ≤ q) s.heap H locs) (hX : FX g f Lx x t tb dr co ot dp pa pn pl pb ch fr nw n0 n1 n2 n3 n4 n5 n6 n7 n8 kp tr ac ah se tx rf) (hM : FM g f Lm mo ar1 ar7 ar10 ar11 ar24 ar26 ar27 ar28 ar29 ar30 ar31 ar32 ar33 ar34 ar35 ar41 ar42 ar43 ar44 ar49 ar52 ar54) {ls : Array Slot} (hl : lv_has ls 7 [(4, .int 0), (3, .ref o), (2, .ref mo), (1, .ref x), (0, .ref b)]) : W p l e room_1 s m #[Value.ref b] below meth c H locs 1000 200000 (lw_Z below #[Value.ref b] s) (F0 m 790 ls []) := by
  obtain ⟨hx, hb, hr, hml, hown, hts0, hXs, hbl, hlocks, hgv⟩ := C0
  have hown : s.vm.findClass "RulerWordLaw" = some m.cls := hown
  have hts := hts1 hts0
  have hA : ∀ q, s.heap.size ≤ q → (fun q : Nat => s.heap.size ≤ q) q := fun _ h => h
  have hbA : ¬ (fun q : Nat => s.heap.size ≤ q) b := Nat.not_le.mpr hbl
  have hCE : lw_At p s m meth c b 6 xs := ⟨hx, hb, hr, hml, hown, hts0, hXs, hbl, hlocks, hgv⟩
  obtain ⟨hm_x, hf_x, hm_t, hf_t, hm_tb, hf_tb, hm_dr, hf_dr, hm_co, hf_co, hm_dp, hf_dp, hm_pa, hf_pa, hm_pn, hf_pn, hm_pl, hf_pl, hm_nw, hf_nw, hm_ac, hf_ac, hm_rf, hf_rf⟩ := hX
  obtain ⟨hm_mo, hf_mo, hm_ar1, hf_ar1, hm_ar7, hf_ar7, hm_ar11, hf_ar11, hm_ar49, hf_ar49⟩ := hM
  refine lv_aload_n hx hb dL_law_790 rfl (lv_at hl 3 rfl) ?_
  refine call_k (run_V (rm := { frames := 3, cells := 0, slots := 0, locals := 64 }) hx hb hml hown hts (k_X10_agreed l g _ _ _ x t dr co ot dp pn ch fr nw kp tr ac se tx rf n0 n1 n2 n3 n4 n5 n6 n7 n8  hm_x hf_x hm_nw hf_nw hm_co hf_co) cV_X10_agreed wg_964 ⟨Nat.le_of_ble_eq_true rfl, Nat.le_of_ble_eq_true rfl⟩ hG hE hA hPx hDx hS hm_x hf_x rfl rfl hl.1 (As := []) (rest := []) rfl (Nat.le_of_ble_eq_true rfl) dL_law_791 ⟨Nat.le_of_ble_eq_true rfl, Nat.le_of_ble_eq_true rfl⟩) hA hDx hS hPm hdis (fun r1 u1 H locs hp2 hPm hS => ?_)
  refine lv_aload_n hx hb dL_law_794 rfl (lv_at hl 2 rfl) ?_
  refine call_i (run_V (rm := { frames := 1, cells := 0, slots := 0, locals := 20 }) hx hb hml hown hts (k_X11_agreed l g _ _ _ mo ar1 ar7 ar10 ar11 ar24 ar26 ar27 ar28 ar29 ar30 ar31 ar32 ar33 ar34 ar35 ar41 ar42 ar43 ar44 ar49 ar52 ar54  hm_mo hf_mo) cV_X11_agreed wg_1778 ⟨Nat.le_of_ble_eq_true rfl, Nat.le_of_ble_eq_true rfl⟩ hG hE hA hPm hDm hS hm_mo hf_mo rfl rfl hl.1 (As := []) (rest := [.int r1]) rfl (Nat.le_of_ble_eq_true rfl) dL_law_795 ⟨Nat.le_of_ble_eq_true rfl, Nat.le_of_ble_eq_true rfl⟩) hA hDm hS (fun r3 L2 f2 H locs hp4 hP2 hD2 hS => ?_)
  refine lv_icmp_eq (tgt := 1361) hx hb dL_law_798 (by decide) (fun c5 => ?_) (fun c5 => absurd (hp2.trans hp4.symm) c5)
  exact law_end l hCE (Nat.le_of_ble_eq_true rfl) (Nat.le_of_ble_eq_true rfl) hS (lv_sub hl [0, 4] rfl)

set_option maxHeartbeats 4000000 in
theorem law_c16 {p : Program} {e : Env} {s : State} {m : MethodId} {below : List Frame} {meth : Method} {c : Code} (l : Launch) {b : Nat} {xs : Nat → Int32} (C0 : lw_At p s m meth c b 6 xs) (htr : l.stackTraces = false) {g : GG} (hG : GK g s) (hE : SW g (fun q : Nat => s.heap.size ≤ q) s s.heap) {Lx Lm : List Nat} {f : HP} {x t tb dr co ot dp pa pn pl pb ch fr nw n0 n1 n2 n3 n4 n5 n6 n7 n8 kp tr ac ah se tx rf mo ar1 ar7 ar10 ar11 ar24 ar26 ar27 ar28 ar29 ar30 ar31 ar32 ar33 ar34 ar35 ar41 ar42 ar43 ar44 ar49 ar52 ar54 o : Nat} {H : Heap} {locs : List Loc} (hPx : va_P g.1 vwCl (va_pl Lx f) H) (hDx : va_D (fun q : Nat => s.heap.size ≤ q) (va_pl Lx f)) (hPm : va_P g.1 vwCl (va_pl Lm f) H) (hDm : va_D (fun q : Nat => s.heap.size ≤ q) (va_pl Lm f)) (hdis : ∀ a, a ∈ Lm → a ∉ Lx) (hS : va_S (fun q : Nat => s.heap.size ≤ q) s.heap H locs) (hX : FX g f Lx x t tb dr co ot dp pa pn pl pb ch fr nw n0 n1 n2 n3 n4 n5 n6 n7 n8 kp tr ac ah se tx rf) (hM : FM g f Lm mo ar1 ar7 ar10 ar11 ar24 ar26 ar27 ar28 ar29 ar30 ar31 ar32 ar33 ar34 ar35 ar41 ar42 ar43 ar44 ar49 ar52 ar54) {ls : Array Slot} (hl : lv_has ls 7 [(4, .int 0), (3, .ref o), (2, .ref mo), (1, .ref x), (0, .ref b)]) : W p l e room_1 s m #[Value.ref b] below meth c H locs 1000 200000 (lw_Z below #[Value.ref b] s) (F0 m 803 ls []) := by
  obtain ⟨hx, hb, hr, hml, hown, hts0, hXs, hbl, hlocks, hgv⟩ := C0
  have hown : s.vm.findClass "RulerWordLaw" = some m.cls := hown
  have hts := hts1 hts0
  have hA : ∀ q, s.heap.size ≤ q → (fun q : Nat => s.heap.size ≤ q) q := fun _ h => h
  have hbA : ¬ (fun q : Nat => s.heap.size ≤ q) b := Nat.not_le.mpr hbl
  have hCE : lw_At p s m meth c b 6 xs := ⟨hx, hb, hr, hml, hown, hts0, hXs, hbl, hlocks, hgv⟩
  obtain ⟨hm_x, hf_x, hm_t, hf_t, hm_tb, hf_tb, hm_dr, hf_dr, hm_co, hf_co, hm_dp, hf_dp, hm_pa, hf_pa, hm_pn, hf_pn, hm_pl, hf_pl, hm_nw, hf_nw, hm_ac, hf_ac, hm_rf, hf_rf⟩ := hX
  obtain ⟨hm_mo, hf_mo, hm_ar1, hf_ar1, hm_ar7, hf_ar7, hm_ar11, hf_ar11, hm_ar49, hf_ar49⟩ := hM
  refine lv_aload_n hx hb dL_law_803 rfl (lv_at hl 3 rfl) ?_
  refine lv_aload_n hx hb dL_law_804 rfl (lv_at hl 4 rfl) ?_
  refine lv_iload hx hb dL_law_805 (lv_at hl 0 rfl) ?_
  refine lv_iconst (v := 1) hx hb dL_law_807 (by decide) ?_
  refine lv_iadd hx hb dL_law_808 ?_
  refine lv_topi (fun x1 ex1 => ?_)
  obtain rfl : x1 = 1 := ex1.trans (by decide)
  refine va_sld hx hb hXs hbl hbA hS (i := 1) (by unfold vp_in; decide) dL_law_809 ?_
  refine lv_topi (fun x2 ex2 => ?_)
  obtain rfl : x2 = xs 1 := ex2
  refine call_k (run_V (rm := { frames := 0, cells := 0, slots := 0, locals := 0 }) hx hb hml hown hts (k_X10_state l g _ _ _ x t dr co ot dp pn ch fr nw kp tr ac se tx rf (xs 1) hm_x hf_x) cV_X10_state wg_981 ⟨Nat.le_of_ble_eq_true rfl, Nat.le_of_ble_eq_true rfl⟩ hG hE hA hPx hDx hS hm_x hf_x rfl rfl hl.1 (As := [.int (xs 1)]) (rest := []) rfl (Nat.le_of_ble_eq_true rfl) dL_law_810 ⟨Nat.le_of_ble_eq_true rfl, Nat.le_of_ble_eq_true rfl⟩) hA hDx hS hPm hdis (fun r3 u1 H locs hp4 hPm hS => ?_)
  refine lv_aload_n hx hb dL_law_813 rfl (lv_at hl 2 rfl) ?_
  refine lv_aload_n hx hb dL_law_814 rfl (lv_at hl 4 rfl) ?_
  refine lv_iload hx hb dL_law_815 (lv_at hl 0 rfl) ?_
  refine lv_iconst (v := 1) hx hb dL_law_817 (by decide) ?_
  refine lv_iadd hx hb dL_law_818 ?_
  refine lv_topi (fun x5 ex5 => ?_)
  obtain rfl : x5 = 1 := ex5.trans (by decide)
  refine va_sld hx hb hXs hbl hbA hS (i := 1) (by unfold vp_in; decide) dL_law_819 ?_
  refine lv_topi (fun x6 ex6 => ?_)
  obtain rfl : x6 = xs 1 := ex6
  refine call_i (run_V (rm := { frames := 0, cells := 0, slots := 0, locals := 0 }) hx hb hml hown hts (k_X11_state l g _ _ _ mo ar1 ar7 ar10 ar11 ar24 ar26 ar27 ar28 ar29 ar30 ar31 ar32 ar33 ar34 ar35 ar41 ar42 ar43 ar44 ar49 ar52 ar54 (xs 1) hm_mo hf_mo) cV_X11_state wg_1794 ⟨Nat.le_of_ble_eq_true rfl, Nat.le_of_ble_eq_true rfl⟩ hG hE hA hPm hDm hS hm_mo hf_mo rfl rfl hl.1 (As := [.int (xs 1)]) (rest := [.int r3]) rfl (Nat.le_of_ble_eq_true rfl) dL_law_820 ⟨Nat.le_of_ble_eq_true rfl, Nat.le_of_ble_eq_true rfl⟩) hA hDm hS (fun r7 L2 f2 H locs hp8 hP2 hD2 hS => ?_)
  refine lv_icmp_eq (tgt := 1361) hx hb dL_law_823 (by decide) (fun c9 => ?_) (fun c9 => absurd (hp4.trans hp8.symm) c9)
  exact law_end l hCE (Nat.le_of_ble_eq_true rfl) (Nat.le_of_ble_eq_true rfl) hS (lv_sub hl [0, 4] rfl)

set_option maxHeartbeats 4000000 in
theorem law_c17 {p : Program} {e : Env} {s : State} {m : MethodId} {below : List Frame} {meth : Method} {c : Code} (l : Launch) {b : Nat} {xs : Nat → Int32} (C0 : lw_At p s m meth c b 6 xs) (htr : l.stackTraces = false) {g : GG} (hG : GK g s) (hE : SW g (fun q : Nat => s.heap.size ≤ q) s s.heap) {Lx Lm : List Nat} {f : HP} {x t tb dr co ot dp pa pn pl pb ch fr nw n0 n1 n2 n3 n4 n5 n6 n7 n8 kp tr ac ah se tx rf mo ar1 ar7 ar10 ar11 ar24 ar26 ar27 ar28 ar29 ar30 ar31 ar32 ar33 ar34 ar35 ar41 ar42 ar43 ar44 ar49 ar52 ar54 o : Nat} {H : Heap} {locs : List Loc} (hPx : va_P g.1 vwCl (va_pl Lx f) H) (hDx : va_D (fun q : Nat => s.heap.size ≤ q) (va_pl Lx f)) (hPm : va_P g.1 vwCl (va_pl Lm f) H) (hDm : va_D (fun q : Nat => s.heap.size ≤ q) (va_pl Lm f)) (hdis : ∀ a, a ∈ Lm → a ∉ Lx) (hS : va_S (fun q : Nat => s.heap.size ≤ q) s.heap H locs) (hX : FX g f Lx x t tb dr co ot dp pa pn pl pb ch fr nw n0 n1 n2 n3 n4 n5 n6 n7 n8 kp tr ac ah se tx rf) (hM : FM g f Lm mo ar1 ar7 ar10 ar11 ar24 ar26 ar27 ar28 ar29 ar30 ar31 ar32 ar33 ar34 ar35 ar41 ar42 ar43 ar44 ar49 ar52 ar54) {ls : Array Slot} (hl : lv_has ls 7 [(4, .int 0), (3, .ref o), (2, .ref mo), (1, .ref x), (0, .ref b)]) : W p l e room_1 s m #[Value.ref b] below meth c H locs 1000 200000 (lw_Z below #[Value.ref b] s) (F0 m 828 ls []) := by
  obtain ⟨hx, hb, hr, hml, hown, hts0, hXs, hbl, hlocks, hgv⟩ := C0
  have hown : s.vm.findClass "RulerWordLaw" = some m.cls := hown
  have hts := hts1 hts0
  have hA : ∀ q, s.heap.size ≤ q → (fun q : Nat => s.heap.size ≤ q) q := fun _ h => h
  have hbA : ¬ (fun q : Nat => s.heap.size ≤ q) b := Nat.not_le.mpr hbl
  have hCE : lw_At p s m meth c b 6 xs := ⟨hx, hb, hr, hml, hown, hts0, hXs, hbl, hlocks, hgv⟩
  obtain ⟨hm_x, hf_x, hm_t, hf_t, hm_tb, hf_tb, hm_dr, hf_dr, hm_co, hf_co, hm_dp, hf_dp, hm_pa, hf_pa, hm_pn, hf_pn, hm_pl, hf_pl, hm_nw, hf_nw, hm_ac, hf_ac, hm_rf, hf_rf⟩ := hX
  obtain ⟨hm_mo, hf_mo, hm_ar1, hf_ar1, hm_ar7, hf_ar7, hm_ar11, hf_ar11, hm_ar49, hf_ar49⟩ := hM
  refine lv_aload_n hx hb dL_law_828 rfl (lv_at hl 3 rfl) ?_
  refine lv_aload_n hx hb dL_law_829 rfl (lv_at hl 4 rfl) ?_
  refine lv_iload hx hb dL_law_830 (lv_at hl 0 rfl) ?_
  refine lv_iconst (v := 1) hx hb dL_law_832 (by decide) ?_
  refine lv_iadd hx hb dL_law_833 ?_
  refine lv_topi (fun x1 ex1 => ?_)
  obtain rfl : x1 = 1 := ex1.trans (by decide)
  refine va_sld hx hb hXs hbl hbA hS (i := 1) (by unfold vp_in; decide) dL_law_834 ?_
  refine lv_topi (fun x2 ex2 => ?_)
  obtain rfl : x2 = xs 1 := ex2
  refine call_k (run_V (rm := { frames := 0, cells := 0, slots := 0, locals := 0 }) hx hb hml hown hts (k_X10_letters l g _ _ _ x t dr co ot dp pn ch fr nw kp tr ac se tx rf (xs 1) hm_x hf_x) cV_X10_letters wg_997 ⟨Nat.le_of_ble_eq_true rfl, Nat.le_of_ble_eq_true rfl⟩ hG hE hA hPx hDx hS hm_x hf_x rfl rfl hl.1 (As := [.int (xs 1)]) (rest := []) rfl (Nat.le_of_ble_eq_true rfl) dL_law_835 ⟨Nat.le_of_ble_eq_true rfl, Nat.le_of_ble_eq_true rfl⟩) hA hDx hS hPm hdis (fun r3 u1 H locs hp4 hPm hS => ?_)
  refine lv_aload_n hx hb dL_law_838 rfl (lv_at hl 2 rfl) ?_
  refine lv_aload_n hx hb dL_law_839 rfl (lv_at hl 4 rfl) ?_
  refine lv_iload hx hb dL_law_840 (lv_at hl 0 rfl) ?_
  refine lv_iconst (v := 1) hx hb dL_law_842 (by decide) ?_
  refine lv_iadd hx hb dL_law_843 ?_
  refine lv_topi (fun x5 ex5 => ?_)
  obtain rfl : x5 = 1 := ex5.trans (by decide)
  refine va_sld hx hb hXs hbl hbA hS (i := 1) (by unfold vp_in; decide) dL_law_844 ?_
  refine lv_topi (fun x6 ex6 => ?_)
  obtain rfl : x6 = xs 1 := ex6
  refine call_i (run_V (rm := { frames := 0, cells := 0, slots := 0, locals := 0 }) hx hb hml hown hts (k_X11_letters l g _ _ _ mo ar1 ar7 ar10 ar11 ar24 ar26 ar27 ar28 ar29 ar30 ar31 ar32 ar33 ar34 ar35 ar41 ar42 ar43 ar44 ar49 ar52 ar54 (xs 1) hm_mo hf_mo) cV_X11_letters wg_1806 ⟨Nat.le_of_ble_eq_true rfl, Nat.le_of_ble_eq_true rfl⟩ hG hE hA hPm hDm hS hm_mo hf_mo rfl rfl hl.1 (As := [.int (xs 1)]) (rest := [.int r3]) rfl (Nat.le_of_ble_eq_true rfl) dL_law_845 ⟨Nat.le_of_ble_eq_true rfl, Nat.le_of_ble_eq_true rfl⟩) hA hDm hS (fun r7 L2 f2 H locs hp8 hP2 hD2 hS => ?_)
  refine lv_icmp_eq (tgt := 1361) hx hb dL_law_848 (by decide) (fun c9 => ?_) (fun c9 => absurd (hp4.trans hp8.symm) c9)
  exact law_end l hCE (Nat.le_of_ble_eq_true rfl) (Nat.le_of_ble_eq_true rfl) hS (lv_sub hl [0, 4] rfl)

set_option maxHeartbeats 4000000 in
theorem law_c18 {p : Program} {e : Env} {s : State} {m : MethodId} {below : List Frame} {meth : Method} {c : Code} (l : Launch) {b : Nat} {xs : Nat → Int32} (C0 : lw_At p s m meth c b 6 xs) (htr : l.stackTraces = false) {g : GG} (hG : GK g s) (hE : SW g (fun q : Nat => s.heap.size ≤ q) s s.heap) {Lx Lm : List Nat} {f : HP} {x t tb dr co ot dp pa pn pl pb ch fr nw n0 n1 n2 n3 n4 n5 n6 n7 n8 kp tr ac ah se tx rf mo ar1 ar7 ar10 ar11 ar24 ar26 ar27 ar28 ar29 ar30 ar31 ar32 ar33 ar34 ar35 ar41 ar42 ar43 ar44 ar49 ar52 ar54 o : Nat} {H : Heap} {locs : List Loc} (hPx : va_P g.1 vwCl (va_pl Lx f) H) (hDx : va_D (fun q : Nat => s.heap.size ≤ q) (va_pl Lx f)) (hPm : va_P g.1 vwCl (va_pl Lm f) H) (hDm : va_D (fun q : Nat => s.heap.size ≤ q) (va_pl Lm f)) (hdis : ∀ a, a ∈ Lm → a ∉ Lx) (hS : va_S (fun q : Nat => s.heap.size ≤ q) s.heap H locs) (hX : FX g f Lx x t tb dr co ot dp pa pn pl pb ch fr nw n0 n1 n2 n3 n4 n5 n6 n7 n8 kp tr ac ah se tx rf) (hM : FM g f Lm mo ar1 ar7 ar10 ar11 ar24 ar26 ar27 ar28 ar29 ar30 ar31 ar32 ar33 ar34 ar35 ar41 ar42 ar43 ar44 ar49 ar52 ar54) {ls : Array Slot} (hl : lv_has ls 7 [(4, .int 0), (3, .ref o), (2, .ref mo), (1, .ref x), (0, .ref b)]) : W p l e room_1 s m #[Value.ref b] below meth c H locs 1000 200000 (lw_Z below #[Value.ref b] s) (F0 m 853 ls []) := by
  obtain ⟨hx, hb, hr, hml, hown, hts0, hXs, hbl, hlocks, hgv⟩ := C0
  have hown : s.vm.findClass "RulerWordLaw" = some m.cls := hown
  have hts := hts1 hts0
  have hA : ∀ q, s.heap.size ≤ q → (fun q : Nat => s.heap.size ≤ q) q := fun _ h => h
  have hbA : ¬ (fun q : Nat => s.heap.size ≤ q) b := Nat.not_le.mpr hbl
  have hCE : lw_At p s m meth c b 6 xs := ⟨hx, hb, hr, hml, hown, hts0, hXs, hbl, hlocks, hgv⟩
  obtain ⟨hm_x, hf_x, hm_t, hf_t, hm_tb, hf_tb, hm_dr, hf_dr, hm_co, hf_co, hm_dp, hf_dp, hm_pa, hf_pa, hm_pn, hf_pn, hm_pl, hf_pl, hm_nw, hf_nw, hm_ac, hf_ac, hm_rf, hf_rf⟩ := hX
  obtain ⟨hm_mo, hf_mo, hm_ar1, hf_ar1, hm_ar7, hf_ar7, hm_ar11, hf_ar11, hm_ar49, hf_ar49⟩ := hM
  refine lv_aload_n hx hb dL_law_853 rfl (lv_at hl 3 rfl) ?_
  refine call_k (run_V (rm := { frames := 0, cells := 0, slots := 0, locals := 0 }) hx hb hml hown hts (k_X10_trueRuler l g _ _ _ x t dr co ot dp pn ch fr nw kp tr ac se tx rf  hm_x hf_x) cV_X10_trueRuler wg_1005 ⟨Nat.le_of_ble_eq_true rfl, Nat.le_of_ble_eq_true rfl⟩ hG hE hA hPx hDx hS hm_x hf_x rfl rfl hl.1 (As := []) (rest := []) rfl (Nat.le_of_ble_eq_true rfl) dL_law_854 ⟨Nat.le_of_ble_eq_true rfl, Nat.le_of_ble_eq_true rfl⟩) hA hDx hS hPm hdis (fun r1 u1 H locs hp2 hPm hS => ?_)
  refine lv_aload_n hx hb dL_law_857 rfl (lv_at hl 2 rfl) ?_
  refine call_i (run_V (rm := { frames := 0, cells := 0, slots := 0, locals := 0 }) hx hb hml hown hts (k_X11_trueRuler l g _ _ _ mo ar1 ar7 ar10 ar11 ar24 ar26 ar27 ar28 ar29 ar30 ar31 ar32 ar33 ar34 ar35 ar41 ar42 ar43 ar44 ar49 ar52 ar54  hm_mo hf_mo) cV_X11_trueRuler wg_1814 ⟨Nat.le_of_ble_eq_true rfl, Nat.le_of_ble_eq_true rfl⟩ hG hE hA hPm hDm hS hm_mo hf_mo rfl rfl hl.1 (As := []) (rest := [.int r1]) rfl (Nat.le_of_ble_eq_true rfl) dL_law_858 ⟨Nat.le_of_ble_eq_true rfl, Nat.le_of_ble_eq_true rfl⟩) hA hDm hS (fun r3 L2 f2 H locs hp4 hP2 hD2 hS => ?_)
  refine lv_icmp_eq (tgt := 1361) hx hb dL_law_861 (by decide) (fun c5 => ?_) (fun c5 => absurd (hp2.trans hp4.symm) c5)
  exact law_end l hCE (Nat.le_of_ble_eq_true rfl) (Nat.le_of_ble_eq_true rfl) hS (lv_sub hl [0, 4] rfl)

set_option maxHeartbeats 4000000 in
theorem law_c19 {p : Program} {e : Env} {s : State} {m : MethodId} {below : List Frame} {meth : Method} {c : Code} (l : Launch) {b : Nat} {xs : Nat → Int32} (C0 : lw_At p s m meth c b 6 xs) (htr : l.stackTraces = false) {g : GG} (hG : GK g s) (hE : SW g (fun q : Nat => s.heap.size ≤ q) s s.heap) {Lx Lm : List Nat} {f : HP} {x t tb dr co ot dp pa pn pl pb ch fr nw n0 n1 n2 n3 n4 n5 n6 n7 n8 kp tr ac ah se tx rf mo ar1 ar7 ar10 ar11 ar24 ar26 ar27 ar28 ar29 ar30 ar31 ar32 ar33 ar34 ar35 ar41 ar42 ar43 ar44 ar49 ar52 ar54 o : Nat} {H : Heap} {locs : List Loc} (hPx : va_P g.1 vwCl (va_pl Lx f) H) (hDx : va_D (fun q : Nat => s.heap.size ≤ q) (va_pl Lx f)) (hPm : va_P g.1 vwCl (va_pl Lm f) H) (hDm : va_D (fun q : Nat => s.heap.size ≤ q) (va_pl Lm f)) (hdis : ∀ a, a ∈ Lm → a ∉ Lx) (hS : va_S (fun q : Nat => s.heap.size ≤ q) s.heap H locs) (hX : FX g f Lx x t tb dr co ot dp pa pn pl pb ch fr nw n0 n1 n2 n3 n4 n5 n6 n7 n8 kp tr ac ah se tx rf) (hM : FM g f Lm mo ar1 ar7 ar10 ar11 ar24 ar26 ar27 ar28 ar29 ar30 ar31 ar32 ar33 ar34 ar35 ar41 ar42 ar43 ar44 ar49 ar52 ar54) {ls : Array Slot} (hl : lv_has ls 7 [(4, .int 0), (3, .ref o), (2, .ref mo), (1, .ref x), (0, .ref b)]) : W p l e room_1 s m #[Value.ref b] below meth c H locs 1000 200000 (lw_Z below #[Value.ref b] s) (F0 m 866 ls []) := by
  obtain ⟨hx, hb, hr, hml, hown, hts0, hXs, hbl, hlocks, hgv⟩ := C0
  have hown : s.vm.findClass "RulerWordLaw" = some m.cls := hown
  have hts := hts1 hts0
  have hA : ∀ q, s.heap.size ≤ q → (fun q : Nat => s.heap.size ≤ q) q := fun _ h => h
  have hbA : ¬ (fun q : Nat => s.heap.size ≤ q) b := Nat.not_le.mpr hbl
  have hCE : lw_At p s m meth c b 6 xs := ⟨hx, hb, hr, hml, hown, hts0, hXs, hbl, hlocks, hgv⟩
  obtain ⟨hm_x, hf_x, hm_t, hf_t, hm_tb, hf_tb, hm_dr, hf_dr, hm_co, hf_co, hm_dp, hf_dp, hm_pa, hf_pa, hm_pn, hf_pn, hm_pl, hf_pl, hm_nw, hf_nw, hm_ac, hf_ac, hm_rf, hf_rf⟩ := hX
  obtain ⟨hm_mo, hf_mo, hm_ar1, hf_ar1, hm_ar7, hf_ar7, hm_ar11, hf_ar11, hm_ar49, hf_ar49⟩ := hM
  refine lv_aload_n hx hb dL_law_866 rfl (lv_at hl 3 rfl) ?_
  refine lv_aload_n hx hb dL_law_867 rfl (lv_at hl 4 rfl) ?_
  refine lv_iload hx hb dL_law_868 (lv_at hl 0 rfl) ?_
  refine lv_iconst (v := 1) hx hb dL_law_870 (by decide) ?_
  refine lv_iadd hx hb dL_law_871 ?_
  refine lv_topi (fun x1 ex1 => ?_)
  obtain rfl : x1 = 1 := ex1.trans (by decide)
  refine va_sld hx hb hXs hbl hbA hS (i := 1) (by unfold vp_in; decide) dL_law_872 ?_
  refine lv_topi (fun x2 ex2 => ?_)
  obtain rfl : x2 = xs 1 := ex2
  refine lv_aload_n hx hb dL_law_873 rfl (lv_at hl 4 rfl) ?_
  refine lv_iload hx hb dL_law_874 (lv_at hl 0 rfl) ?_
  refine lv_iconst (v := 2) hx hb dL_law_876 (by decide) ?_
  refine lv_iadd hx hb dL_law_877 ?_
  refine lv_topi (fun x3 ex3 => ?_)
  obtain rfl : x3 = 2 := ex3.trans (by decide)
  refine va_sld hx hb hXs hbl hbA hS (i := 2) (by unfold vp_in; decide) dL_law_878 ?_
  refine lv_topi (fun x4 ex4 => ?_)
  obtain rfl : x4 = xs 2 := ex4
  refine call_k (run_V (rm := { frames := 1, cells := 0, slots := 0, locals := 21 }) hx hb hml hown hts (k_X10_greatest l g _ _ _ x (xs 1) (xs 2) ) cV_X10_greatest wg_1009 ⟨Nat.le_of_ble_eq_true rfl, Nat.le_of_ble_eq_true rfl⟩ hG hE hA hPx hDx hS hm_x hf_x rfl rfl hl.1 (As := [.int (xs 1), .int (xs 2)]) (rest := []) rfl (Nat.le_of_ble_eq_true rfl) dL_law_879 ⟨Nat.le_of_ble_eq_true rfl, Nat.le_of_ble_eq_true rfl⟩) hA hDx hS hPm hdis (fun r5 u1 H locs hp6 hPm hS => ?_)
  refine lv_aload_n hx hb dL_law_882 rfl (lv_at hl 2 rfl) ?_
  refine lv_aload_n hx hb dL_law_883 rfl (lv_at hl 4 rfl) ?_
  refine lv_iload hx hb dL_law_884 (lv_at hl 0 rfl) ?_
  refine lv_iconst (v := 1) hx hb dL_law_886 (by decide) ?_
  refine lv_iadd hx hb dL_law_887 ?_
  refine lv_topi (fun x7 ex7 => ?_)
  obtain rfl : x7 = 1 := ex7.trans (by decide)
  refine va_sld hx hb hXs hbl hbA hS (i := 1) (by unfold vp_in; decide) dL_law_888 ?_
  refine lv_topi (fun x8 ex8 => ?_)
  obtain rfl : x8 = xs 1 := ex8
  refine lv_aload_n hx hb dL_law_889 rfl (lv_at hl 4 rfl) ?_
  refine lv_iload hx hb dL_law_890 (lv_at hl 0 rfl) ?_
  refine lv_iconst (v := 2) hx hb dL_law_892 (by decide) ?_
  refine lv_iadd hx hb dL_law_893 ?_
  refine lv_topi (fun x9 ex9 => ?_)
  obtain rfl : x9 = 2 := ex9.trans (by decide)
  refine va_sld hx hb hXs hbl hbA hS (i := 2) (by unfold vp_in; decide) dL_law_894 ?_
  refine lv_topi (fun x10 ex10 => ?_)
  obtain rfl : x10 = xs 2 := ex10
  refine call_i (run_V (rm := { frames := 1, cells := 0, slots := 0, locals := 25 }) hx hb hml hown hts (k_X11_greatest l g _ _ _ mo ar1 ar7 ar10 ar11 ar24 ar26 ar27 ar28 ar29 ar30 ar31 ar32 ar33 ar34 ar35 ar41 ar42 ar43 ar44 ar49 ar52 ar54 (xs 1) (xs 2) hm_mo hf_mo) cV_X11_greatest wg_1818 ⟨Nat.le_of_ble_eq_true rfl, Nat.le_of_ble_eq_true rfl⟩ hG hE hA hPm hDm hS hm_mo hf_mo rfl rfl hl.1 (As := [.int (xs 1), .int (xs 2)]) (rest := [.int r5]) rfl (Nat.le_of_ble_eq_true rfl) dL_law_895 ⟨Nat.le_of_ble_eq_true rfl, Nat.le_of_ble_eq_true rfl⟩) hA hDm hS (fun r11 L2 f2 H locs hp12 hP2 hD2 hS => ?_)
  refine lv_icmp_eq (tgt := 1361) hx hb dL_law_898 (by decide) (fun c13 => ?_) (fun c13 => absurd (hp6.trans ((grMV _ _).trans hp12.symm)) c13)
  exact law_end l hCE (Nat.le_of_ble_eq_true rfl) (Nat.le_of_ble_eq_true rfl) hS (lv_sub hl [0, 4] rfl)

set_option maxHeartbeats 4000000 in
theorem law_c20 {p : Program} {e : Env} {s : State} {m : MethodId} {below : List Frame} {meth : Method} {c : Code} (l : Launch) {b : Nat} {xs : Nat → Int32} (C0 : lw_At p s m meth c b 6 xs) (htr : l.stackTraces = false) {g : GG} (hG : GK g s) (hE : SW g (fun q : Nat => s.heap.size ≤ q) s s.heap) {Lx Lm : List Nat} {f : HP} {x t tb dr co ot dp pa pn pl pb ch fr nw n0 n1 n2 n3 n4 n5 n6 n7 n8 kp tr ac ah se tx rf mo ar1 ar7 ar10 ar11 ar24 ar26 ar27 ar28 ar29 ar30 ar31 ar32 ar33 ar34 ar35 ar41 ar42 ar43 ar44 ar49 ar52 ar54 o : Nat} {H : Heap} {locs : List Loc} (hPx : va_P g.1 vwCl (va_pl Lx f) H) (hDx : va_D (fun q : Nat => s.heap.size ≤ q) (va_pl Lx f)) (hPm : va_P g.1 vwCl (va_pl Lm f) H) (hDm : va_D (fun q : Nat => s.heap.size ≤ q) (va_pl Lm f)) (hdis : ∀ a, a ∈ Lm → a ∉ Lx) (hS : va_S (fun q : Nat => s.heap.size ≤ q) s.heap H locs) (hX : FX g f Lx x t tb dr co ot dp pa pn pl pb ch fr nw n0 n1 n2 n3 n4 n5 n6 n7 n8 kp tr ac ah se tx rf) (hM : FM g f Lm mo ar1 ar7 ar10 ar11 ar24 ar26 ar27 ar28 ar29 ar30 ar31 ar32 ar33 ar34 ar35 ar41 ar42 ar43 ar44 ar49 ar52 ar54) {ls : Array Slot} (hl : lv_has ls 7 [(4, .int 0), (3, .ref o), (2, .ref mo), (1, .ref x), (0, .ref b)]) : W p l e room_1 s m #[Value.ref b] below meth c H locs 1000 200000 (lw_Z below #[Value.ref b] s) (F0 m 903 ls []) := by
  obtain ⟨hx, hb, hr, hml, hown, hts0, hXs, hbl, hlocks, hgv⟩ := C0
  have hown : s.vm.findClass "RulerWordLaw" = some m.cls := hown
  have hts := hts1 hts0
  have hA : ∀ q, s.heap.size ≤ q → (fun q : Nat => s.heap.size ≤ q) q := fun _ h => h
  have hbA : ¬ (fun q : Nat => s.heap.size ≤ q) b := Nat.not_le.mpr hbl
  have hCE : lw_At p s m meth c b 6 xs := ⟨hx, hb, hr, hml, hown, hts0, hXs, hbl, hlocks, hgv⟩
  obtain ⟨hm_x, hf_x, hm_t, hf_t, hm_tb, hf_tb, hm_dr, hf_dr, hm_co, hf_co, hm_dp, hf_dp, hm_pa, hf_pa, hm_pn, hf_pn, hm_pl, hf_pl, hm_nw, hf_nw, hm_ac, hf_ac, hm_rf, hf_rf⟩ := hX
  obtain ⟨hm_mo, hf_mo, hm_ar1, hf_ar1, hm_ar7, hf_ar7, hm_ar11, hf_ar11, hm_ar49, hf_ar49⟩ := hM
  refine lv_aload_n hx hb dL_law_903 rfl (lv_at hl 3 rfl) ?_
  refine call_k (run_V (rm := { frames := 0, cells := 0, slots := 0, locals := 0 }) hx hb hml hown hts (k_X10_free l g _ _ _ x t dr co ot dp pn ch fr nw kp tr ac se tx rf  hm_x hf_x) cV_X10_free wg_1014 ⟨Nat.le_of_ble_eq_true rfl, Nat.le_of_ble_eq_true rfl⟩ hG hE hA hPx hDx hS hm_x hf_x rfl rfl hl.1 (As := []) (rest := []) rfl (Nat.le_of_ble_eq_true rfl) dL_law_904 ⟨Nat.le_of_ble_eq_true rfl, Nat.le_of_ble_eq_true rfl⟩) hA hDx hS hPm hdis (fun r1 u1 H locs hp2 hPm hS => ?_)
  refine lv_aload_n hx hb dL_law_907 rfl (lv_at hl 2 rfl) ?_
  refine call_i (run_V (rm := { frames := 0, cells := 0, slots := 0, locals := 0 }) hx hb hml hown hts (k_X11_free l g _ _ _ mo ar1 ar7 ar10 ar11 ar24 ar26 ar27 ar28 ar29 ar30 ar31 ar32 ar33 ar34 ar35 ar41 ar42 ar43 ar44 ar49 ar52 ar54  hm_mo hf_mo) cV_X11_free wg_1823 ⟨Nat.le_of_ble_eq_true rfl, Nat.le_of_ble_eq_true rfl⟩ hG hE hA hPm hDm hS hm_mo hf_mo rfl rfl hl.1 (As := []) (rest := [.int r1]) rfl (Nat.le_of_ble_eq_true rfl) dL_law_908 ⟨Nat.le_of_ble_eq_true rfl, Nat.le_of_ble_eq_true rfl⟩) hA hDm hS (fun r3 L2 f2 H locs hp4 hP2 hD2 hS => ?_)
  refine lv_icmp_eq (tgt := 1361) hx hb dL_law_911 (by decide) (fun c5 => ?_) (fun c5 => absurd (hp2.trans hp4.symm) c5)
  exact law_end l hCE (Nat.le_of_ble_eq_true rfl) (Nat.le_of_ble_eq_true rfl) hS (lv_sub hl [0, 4] rfl)

set_option maxHeartbeats 4000000 in
theorem law_c21 {p : Program} {e : Env} {s : State} {m : MethodId} {below : List Frame} {meth : Method} {c : Code} (l : Launch) {b : Nat} {xs : Nat → Int32} (C0 : lw_At p s m meth c b 6 xs) (htr : l.stackTraces = false) {g : GG} (hG : GK g s) (hE : SW g (fun q : Nat => s.heap.size ≤ q) s s.heap) {Lx Lm : List Nat} {f : HP} {x t tb dr co ot dp pa pn pl pb ch fr nw n0 n1 n2 n3 n4 n5 n6 n7 n8 kp tr ac ah se tx rf mo ar1 ar7 ar10 ar11 ar24 ar26 ar27 ar28 ar29 ar30 ar31 ar32 ar33 ar34 ar35 ar41 ar42 ar43 ar44 ar49 ar52 ar54 o : Nat} {H : Heap} {locs : List Loc} (hPx : va_P g.1 vwCl (va_pl Lx f) H) (hDx : va_D (fun q : Nat => s.heap.size ≤ q) (va_pl Lx f)) (hPm : va_P g.1 vwCl (va_pl Lm f) H) (hDm : va_D (fun q : Nat => s.heap.size ≤ q) (va_pl Lm f)) (hdis : ∀ a, a ∈ Lm → a ∉ Lx) (hS : va_S (fun q : Nat => s.heap.size ≤ q) s.heap H locs) (hX : FX g f Lx x t tb dr co ot dp pa pn pl pb ch fr nw n0 n1 n2 n3 n4 n5 n6 n7 n8 kp tr ac ah se tx rf) (hM : FM g f Lm mo ar1 ar7 ar10 ar11 ar24 ar26 ar27 ar28 ar29 ar30 ar31 ar32 ar33 ar34 ar35 ar41 ar42 ar43 ar44 ar49 ar52 ar54) {ls : Array Slot} (hl : lv_has ls 7 [(4, .int 0), (3, .ref o), (2, .ref mo), (1, .ref x), (0, .ref b)]) : W p l e room_1 s m #[Value.ref b] below meth c H locs 1000 200000 (lw_Z below #[Value.ref b] s) (F0 m 916 ls []) := by
  obtain ⟨hx, hb, hr, hml, hown, hts0, hXs, hbl, hlocks, hgv⟩ := C0
  have hown : s.vm.findClass "RulerWordLaw" = some m.cls := hown
  have hts := hts1 hts0
  have hA : ∀ q, s.heap.size ≤ q → (fun q : Nat => s.heap.size ≤ q) q := fun _ h => h
  have hbA : ¬ (fun q : Nat => s.heap.size ≤ q) b := Nat.not_le.mpr hbl
  have hCE : lw_At p s m meth c b 6 xs := ⟨hx, hb, hr, hml, hown, hts0, hXs, hbl, hlocks, hgv⟩
  obtain ⟨hm_x, hf_x, hm_t, hf_t, hm_tb, hf_tb, hm_dr, hf_dr, hm_co, hf_co, hm_dp, hf_dp, hm_pa, hf_pa, hm_pn, hf_pn, hm_pl, hf_pl, hm_nw, hf_nw, hm_ac, hf_ac, hm_rf, hf_rf⟩ := hX
  obtain ⟨hm_mo, hf_mo, hm_ar1, hf_ar1, hm_ar7, hf_ar7, hm_ar11, hf_ar11, hm_ar49, hf_ar49⟩ := hM
  refine lv_aload_n hx hb dL_law_916 rfl (lv_at hl 3 rfl) ?_
  refine call_k (run_V (rm := { frames := 1, cells := 0, slots := 0, locals := 21 }) hx hb hml hown hts (k_X10_broken l g _ _ _ x t dr co ot dp pn ch fr nw kp tr ac se tx rf n0 n1 n2 n3 n4 n5 n6 n7 n8  hm_x hf_x hm_nw hf_nw) cV_X10_broken wg_1028 ⟨Nat.le_of_ble_eq_true rfl, Nat.le_of_ble_eq_true rfl⟩ hG hE hA hPx hDx hS hm_x hf_x rfl rfl hl.1 (As := []) (rest := []) rfl (Nat.le_of_ble_eq_true rfl) dL_law_917 ⟨Nat.le_of_ble_eq_true rfl, Nat.le_of_ble_eq_true rfl⟩) hA hDx hS hPm hdis (fun r1 u1 H locs hp2 hPm hS => ?_)
  refine lv_aload_n hx hb dL_law_920 rfl (lv_at hl 2 rfl) ?_
  refine call_i (run_V (rm := { frames := 1, cells := 0, slots := 0, locals := 20 }) hx hb hml hown hts (k_X11_broken l g _ _ _ mo ar1 ar7 ar10 ar11 ar24 ar26 ar27 ar28 ar29 ar30 ar31 ar32 ar33 ar34 ar35 ar41 ar42 ar43 ar44 ar49 ar52 ar54  hm_mo hf_mo) cV_X11_broken wg_1834 ⟨Nat.le_of_ble_eq_true rfl, Nat.le_of_ble_eq_true rfl⟩ hG hE hA hPm hDm hS hm_mo hf_mo rfl rfl hl.1 (As := []) (rest := [.int r1]) rfl (Nat.le_of_ble_eq_true rfl) dL_law_921 ⟨Nat.le_of_ble_eq_true rfl, Nat.le_of_ble_eq_true rfl⟩) hA hDm hS (fun r3 L2 f2 H locs hp4 hP2 hD2 hS => ?_)
  refine lv_icmp_eq (tgt := 1361) hx hb dL_law_924 (by decide) (fun c5 => ?_) (fun c5 => absurd (hp2.trans hp4.symm) c5)
  exact law_end l hCE (Nat.le_of_ble_eq_true rfl) (Nat.le_of_ble_eq_true rfl) hS (lv_sub hl [0, 4] rfl)

set_option maxHeartbeats 4000000 in
theorem law_c22 {p : Program} {e : Env} {s : State} {m : MethodId} {below : List Frame} {meth : Method} {c : Code} (l : Launch) {b : Nat} {xs : Nat → Int32} (C0 : lw_At p s m meth c b 6 xs) (htr : l.stackTraces = false) {g : GG} (hG : GK g s) (hE : SW g (fun q : Nat => s.heap.size ≤ q) s s.heap) {Lx Lm : List Nat} {f : HP} {x t tb dr co ot dp pa pn pl pb ch fr nw n0 n1 n2 n3 n4 n5 n6 n7 n8 kp tr ac ah se tx rf mo ar1 ar7 ar10 ar11 ar24 ar26 ar27 ar28 ar29 ar30 ar31 ar32 ar33 ar34 ar35 ar41 ar42 ar43 ar44 ar49 ar52 ar54 o : Nat} {H : Heap} {locs : List Loc} (hPx : va_P g.1 vwCl (va_pl Lx f) H) (hDx : va_D (fun q : Nat => s.heap.size ≤ q) (va_pl Lx f)) (hPm : va_P g.1 vwCl (va_pl Lm f) H) (hDm : va_D (fun q : Nat => s.heap.size ≤ q) (va_pl Lm f)) (hdis : ∀ a, a ∈ Lm → a ∉ Lx) (hS : va_S (fun q : Nat => s.heap.size ≤ q) s.heap H locs) (hX : FX g f Lx x t tb dr co ot dp pa pn pl pb ch fr nw n0 n1 n2 n3 n4 n5 n6 n7 n8 kp tr ac ah se tx rf) (hM : FM g f Lm mo ar1 ar7 ar10 ar11 ar24 ar26 ar27 ar28 ar29 ar30 ar31 ar32 ar33 ar34 ar35 ar41 ar42 ar43 ar44 ar49 ar52 ar54) {ls : Array Slot} (hl : lv_has ls 7 [(4, .int 0), (3, .ref o), (2, .ref mo), (1, .ref x), (0, .ref b)]) : W p l e room_1 s m #[Value.ref b] below meth c H locs 1000 200000 (lw_Z below #[Value.ref b] s) (F0 m 929 ls []) := by
  obtain ⟨hx, hb, hr, hml, hown, hts0, hXs, hbl, hlocks, hgv⟩ := C0
  have hown : s.vm.findClass "RulerWordLaw" = some m.cls := hown
  have hts := hts1 hts0
  have hA : ∀ q, s.heap.size ≤ q → (fun q : Nat => s.heap.size ≤ q) q := fun _ h => h
  have hbA : ¬ (fun q : Nat => s.heap.size ≤ q) b := Nat.not_le.mpr hbl
  have hCE : lw_At p s m meth c b 6 xs := ⟨hx, hb, hr, hml, hown, hts0, hXs, hbl, hlocks, hgv⟩
  obtain ⟨hm_x, hf_x, hm_t, hf_t, hm_tb, hf_tb, hm_dr, hf_dr, hm_co, hf_co, hm_dp, hf_dp, hm_pa, hf_pa, hm_pn, hf_pn, hm_pl, hf_pl, hm_nw, hf_nw, hm_ac, hf_ac, hm_rf, hf_rf⟩ := hX
  obtain ⟨hm_mo, hf_mo, hm_ar1, hf_ar1, hm_ar7, hf_ar7, hm_ar11, hf_ar11, hm_ar49, hf_ar49⟩ := hM
  refine lv_aload_n hx hb dL_law_929 rfl (lv_at hl 3 rfl) ?_
  refine lv_aload_n hx hb dL_law_930 rfl (lv_at hl 4 rfl) ?_
  refine lv_iload hx hb dL_law_931 (lv_at hl 0 rfl) ?_
  refine lv_iconst (v := 1) hx hb dL_law_933 (by decide) ?_
  refine lv_iadd hx hb dL_law_934 ?_
  refine lv_topi (fun x1 ex1 => ?_)
  obtain rfl : x1 = 1 := ex1.trans (by decide)
  refine va_sld hx hb hXs hbl hbA hS (i := 1) (by unfold vp_in; decide) dL_law_935 ?_
  refine lv_topi (fun x2 ex2 => ?_)
  obtain rfl : x2 = xs 1 := ex2
  refine call_k (run_V (rm := { frames := 1, cells := 0, slots := 0, locals := 21 }) hx hb hml hown hts (k_X10_brokenStarts l g _ _ _ x t dr co ot dp pn ch fr nw kp tr ac se tx rf n0 n1 n2 n3 n4 n5 n6 n7 n8 (xs 1) hm_x hf_x hm_nw hf_nw) cV_X10_brokenStarts wg_1102 ⟨Nat.le_of_ble_eq_true rfl, Nat.le_of_ble_eq_true rfl⟩ hG hE hA hPx hDx hS hm_x hf_x rfl rfl hl.1 (As := [.int (xs 1)]) (rest := []) rfl (Nat.le_of_ble_eq_true rfl) dL_law_936 ⟨Nat.le_of_ble_eq_true rfl, Nat.le_of_ble_eq_true rfl⟩) hA hDx hS hPm hdis (fun r3 u1 H locs hp4 hPm hS => ?_)
  refine lv_aload_n hx hb dL_law_939 rfl (lv_at hl 2 rfl) ?_
  refine lv_aload_n hx hb dL_law_940 rfl (lv_at hl 4 rfl) ?_
  refine lv_iload hx hb dL_law_941 (lv_at hl 0 rfl) ?_
  refine lv_iconst (v := 1) hx hb dL_law_943 (by decide) ?_
  refine lv_iadd hx hb dL_law_944 ?_
  refine lv_topi (fun x5 ex5 => ?_)
  obtain rfl : x5 = 1 := ex5.trans (by decide)
  refine va_sld hx hb hXs hbl hbA hS (i := 1) (by unfold vp_in; decide) dL_law_945 ?_
  refine lv_topi (fun x6 ex6 => ?_)
  obtain rfl : x6 = xs 1 := ex6
  refine call_i (run_V (rm := { frames := 1, cells := 0, slots := 0, locals := 25 }) hx hb hml hown hts (k_X11_brokenStarts l g _ _ _ mo ar1 ar7 ar10 ar11 ar24 ar26 ar27 ar28 ar29 ar30 ar31 ar32 ar33 ar34 ar35 ar41 ar42 ar43 ar44 ar49 ar52 ar54 (xs 1) hm_mo hf_mo) cV_X11_brokenStarts wg_1854 ⟨Nat.le_of_ble_eq_true rfl, Nat.le_of_ble_eq_true rfl⟩ hG hE hA hPm hDm hS hm_mo hf_mo rfl rfl hl.1 (As := [.int (xs 1)]) (rest := [.int r3]) rfl (Nat.le_of_ble_eq_true rfl) dL_law_946 ⟨Nat.le_of_ble_eq_true rfl, Nat.le_of_ble_eq_true rfl⟩) hA hDm hS (fun r7 L2 f2 H locs hp8 hP2 hD2 hS => ?_)
  refine lv_icmp_eq (tgt := 1361) hx hb dL_law_949 (by decide) (fun c9 => ?_) (fun c9 => absurd (hp4.trans hp8.symm) c9)
  exact law_end l hCE (Nat.le_of_ble_eq_true rfl) (Nat.le_of_ble_eq_true rfl) hS (lv_sub hl [0, 4] rfl)

set_option maxHeartbeats 4000000 in
theorem law_c23 {p : Program} {e : Env} {s : State} {m : MethodId} {below : List Frame} {meth : Method} {c : Code} (l : Launch) {b : Nat} {xs : Nat → Int32} (C0 : lw_At p s m meth c b 6 xs) (htr : l.stackTraces = false) {g : GG} (hG : GK g s) (hE : SW g (fun q : Nat => s.heap.size ≤ q) s s.heap) {Lx Lm : List Nat} {f : HP} {x t tb dr co ot dp pa pn pl pb ch fr nw n0 n1 n2 n3 n4 n5 n6 n7 n8 kp tr ac ah se tx rf mo ar1 ar7 ar10 ar11 ar24 ar26 ar27 ar28 ar29 ar30 ar31 ar32 ar33 ar34 ar35 ar41 ar42 ar43 ar44 ar49 ar52 ar54 o : Nat} {H : Heap} {locs : List Loc} (hPx : va_P g.1 vwCl (va_pl Lx f) H) (hDx : va_D (fun q : Nat => s.heap.size ≤ q) (va_pl Lx f)) (hPm : va_P g.1 vwCl (va_pl Lm f) H) (hDm : va_D (fun q : Nat => s.heap.size ≤ q) (va_pl Lm f)) (hdis : ∀ a, a ∈ Lm → a ∉ Lx) (hS : va_S (fun q : Nat => s.heap.size ≤ q) s.heap H locs) (hX : FX g f Lx x t tb dr co ot dp pa pn pl pb ch fr nw n0 n1 n2 n3 n4 n5 n6 n7 n8 kp tr ac ah se tx rf) (hM : FM g f Lm mo ar1 ar7 ar10 ar11 ar24 ar26 ar27 ar28 ar29 ar30 ar31 ar32 ar33 ar34 ar35 ar41 ar42 ar43 ar44 ar49 ar52 ar54) {ls : Array Slot} (hl : lv_has ls 7 [(4, .int 0), (3, .ref o), (2, .ref mo), (1, .ref x), (0, .ref b)]) : W p l e room_1 s m #[Value.ref b] below meth c H locs 1000 200000 (lw_Z below #[Value.ref b] s) (F0 m 954 ls []) := by
  obtain ⟨hx, hb, hr, hml, hown, hts0, hXs, hbl, hlocks, hgv⟩ := C0
  have hown : s.vm.findClass "RulerWordLaw" = some m.cls := hown
  have hts := hts1 hts0
  have hA : ∀ q, s.heap.size ≤ q → (fun q : Nat => s.heap.size ≤ q) q := fun _ h => h
  have hbA : ¬ (fun q : Nat => s.heap.size ≤ q) b := Nat.not_le.mpr hbl
  have hCE : lw_At p s m meth c b 6 xs := ⟨hx, hb, hr, hml, hown, hts0, hXs, hbl, hlocks, hgv⟩
  obtain ⟨hm_x, hf_x, hm_t, hf_t, hm_tb, hf_tb, hm_dr, hf_dr, hm_co, hf_co, hm_dp, hf_dp, hm_pa, hf_pa, hm_pn, hf_pn, hm_pl, hf_pl, hm_nw, hf_nw, hm_ac, hf_ac, hm_rf, hf_rf⟩ := hX
  obtain ⟨hm_mo, hf_mo, hm_ar1, hf_ar1, hm_ar7, hf_ar7, hm_ar11, hf_ar11, hm_ar49, hf_ar49⟩ := hM
  refine lv_aload_n hx hb dL_law_954 rfl (lv_at hl 3 rfl) ?_
  refine lv_aload_n hx hb dL_law_955 rfl (lv_at hl 4 rfl) ?_
  refine lv_iload hx hb dL_law_956 (lv_at hl 0 rfl) ?_
  refine lv_iconst (v := 1) hx hb dL_law_958 (by decide) ?_
  refine lv_iadd hx hb dL_law_959 ?_
  refine lv_topi (fun x1 ex1 => ?_)
  obtain rfl : x1 = 1 := ex1.trans (by decide)
  refine va_sld hx hb hXs hbl hbA hS (i := 1) (by unfold vp_in; decide) dL_law_960 ?_
  refine lv_topi (fun x2 ex2 => ?_)
  obtain rfl : x2 = xs 1 := ex2
  refine call_k (run_V (rm := { frames := 0, cells := 0, slots := 0, locals := 0 }) hx hb hml hown hts (k_X10_canBreak l g _ _ _ x t dr co ot dp pn ch fr nw kp tr ac se tx rf (xs 1) hm_x hf_x) cV_X10_canBreak wg_1118 ⟨Nat.le_of_ble_eq_true rfl, Nat.le_of_ble_eq_true rfl⟩ hG hE hA hPx hDx hS hm_x hf_x rfl rfl hl.1 (As := [.int (xs 1)]) (rest := []) rfl (Nat.le_of_ble_eq_true rfl) dL_law_961 ⟨Nat.le_of_ble_eq_true rfl, Nat.le_of_ble_eq_true rfl⟩) hA hDx hS hPm hdis (fun r3 u1 H locs hp4 hPm hS => ?_)
  refine lv_aload_n hx hb dL_law_964 rfl (lv_at hl 2 rfl) ?_
  refine lv_aload_n hx hb dL_law_965 rfl (lv_at hl 4 rfl) ?_
  refine lv_iload hx hb dL_law_966 (lv_at hl 0 rfl) ?_
  refine lv_iconst (v := 1) hx hb dL_law_968 (by decide) ?_
  refine lv_iadd hx hb dL_law_969 ?_
  refine lv_topi (fun x5 ex5 => ?_)
  obtain rfl : x5 = 1 := ex5.trans (by decide)
  refine va_sld hx hb hXs hbl hbA hS (i := 1) (by unfold vp_in; decide) dL_law_970 ?_
  refine lv_topi (fun x6 ex6 => ?_)
  obtain rfl : x6 = xs 1 := ex6
  refine call_i (run_V (rm := { frames := 1, cells := 0, slots := 0, locals := 25 }) hx hb hml hown hts (k_X11_canBreak l g _ _ _ mo ar1 ar7 ar10 ar11 ar24 ar26 ar27 ar28 ar29 ar30 ar31 ar32 ar33 ar34 ar35 ar41 ar42 ar43 ar44 ar49 ar52 ar54 (xs 1) hm_mo hf_mo) cV_X11_canBreak wg_1862 ⟨Nat.le_of_ble_eq_true rfl, Nat.le_of_ble_eq_true rfl⟩ hG hE hA hPm hDm hS hm_mo hf_mo rfl rfl hl.1 (As := [.int (xs 1)]) (rest := [.int r3]) rfl (Nat.le_of_ble_eq_true rfl) dL_law_971 ⟨Nat.le_of_ble_eq_true rfl, Nat.le_of_ble_eq_true rfl⟩) hA hDm hS (fun r7 L2 f2 H locs hp8 hP2 hD2 hS => ?_)
  refine lv_icmp_eq (tgt := 1361) hx hb dL_law_974 (by decide) (fun c9 => ?_) (fun c9 => absurd (hp4.trans hp8.symm) c9)
  exact law_end l hCE (Nat.le_of_ble_eq_true rfl) (Nat.le_of_ble_eq_true rfl) hS (lv_sub hl [0, 4] rfl)

set_option maxHeartbeats 4000000 in
theorem law_c24 {p : Program} {e : Env} {s : State} {m : MethodId} {below : List Frame} {meth : Method} {c : Code} (l : Launch) {b : Nat} {xs : Nat → Int32} (C0 : lw_At p s m meth c b 6 xs) (htr : l.stackTraces = false) {g : GG} (hG : GK g s) (hE : SW g (fun q : Nat => s.heap.size ≤ q) s s.heap) {Lx Lm : List Nat} {f : HP} {x t tb dr co ot dp pa pn pl pb ch fr nw n0 n1 n2 n3 n4 n5 n6 n7 n8 kp tr ac ah se tx rf mo ar1 ar7 ar10 ar11 ar24 ar26 ar27 ar28 ar29 ar30 ar31 ar32 ar33 ar34 ar35 ar41 ar42 ar43 ar44 ar49 ar52 ar54 o : Nat} {H : Heap} {locs : List Loc} (hPx : va_P g.1 vwCl (va_pl Lx f) H) (hDx : va_D (fun q : Nat => s.heap.size ≤ q) (va_pl Lx f)) (hPm : va_P g.1 vwCl (va_pl Lm f) H) (hDm : va_D (fun q : Nat => s.heap.size ≤ q) (va_pl Lm f)) (hdis : ∀ a, a ∈ Lm → a ∉ Lx) (hS : va_S (fun q : Nat => s.heap.size ≤ q) s.heap H locs) (hX : FX g f Lx x t tb dr co ot dp pa pn pl pb ch fr nw n0 n1 n2 n3 n4 n5 n6 n7 n8 kp tr ac ah se tx rf) (hM : FM g f Lm mo ar1 ar7 ar10 ar11 ar24 ar26 ar27 ar28 ar29 ar30 ar31 ar32 ar33 ar34 ar35 ar41 ar42 ar43 ar44 ar49 ar52 ar54) {ls : Array Slot} (hl : lv_has ls 7 [(4, .int 0), (3, .ref o), (2, .ref mo), (1, .ref x), (0, .ref b)]) : W p l e room_1 s m #[Value.ref b] below meth c H locs 1000 200000 (lw_Z below #[Value.ref b] s) (F0 m 979 ls []) := by
  obtain ⟨hx, hb, hr, hml, hown, hts0, hXs, hbl, hlocks, hgv⟩ := C0
  have hown : s.vm.findClass "RulerWordLaw" = some m.cls := hown
  have hts := hts1 hts0
  have hA : ∀ q, s.heap.size ≤ q → (fun q : Nat => s.heap.size ≤ q) q := fun _ h => h
  have hbA : ¬ (fun q : Nat => s.heap.size ≤ q) b := Nat.not_le.mpr hbl
  have hCE : lw_At p s m meth c b 6 xs := ⟨hx, hb, hr, hml, hown, hts0, hXs, hbl, hlocks, hgv⟩
  obtain ⟨hm_x, hf_x, hm_t, hf_t, hm_tb, hf_tb, hm_dr, hf_dr, hm_co, hf_co, hm_dp, hf_dp, hm_pa, hf_pa, hm_pn, hf_pn, hm_pl, hf_pl, hm_nw, hf_nw, hm_ac, hf_ac, hm_rf, hf_rf⟩ := hX
  obtain ⟨hm_mo, hf_mo, hm_ar1, hf_ar1, hm_ar7, hf_ar7, hm_ar11, hf_ar11, hm_ar49, hf_ar49⟩ := hM
  refine lv_aload_n hx hb dL_law_979 rfl (lv_at hl 3 rfl) ?_
  refine lv_aload_n hx hb dL_law_980 rfl (lv_at hl 4 rfl) ?_
  refine lv_iload hx hb dL_law_981 (lv_at hl 0 rfl) ?_
  refine lv_iconst (v := 1) hx hb dL_law_983 (by decide) ?_
  refine lv_iadd hx hb dL_law_984 ?_
  refine lv_topi (fun x1 ex1 => ?_)
  obtain rfl : x1 = 1 := ex1.trans (by decide)
  refine va_sld hx hb hXs hbl hbA hS (i := 1) (by unfold vp_in; decide) dL_law_985 ?_
  refine lv_topi (fun x2 ex2 => ?_)
  obtain rfl : x2 = xs 1 := ex2
  refine call_k (run_V (rm := { frames := 2, cells := 0, slots := 0, locals := 41 }) hx hb hml hown hts (k_X10_brokenPlan l g _ _ _ x t dr co ot dp pn ch fr nw kp tr ac se tx rf n0 n1 n2 n3 n4 n5 n6 n7 n8 (xs 1) hm_x hf_x hm_nw hf_nw) cV_X10_brokenPlan wg_1122 ⟨Nat.le_of_ble_eq_true rfl, Nat.le_of_ble_eq_true rfl⟩ hG hE hA hPx hDx hS hm_x hf_x rfl rfl hl.1 (As := [.int (xs 1)]) (rest := []) rfl (Nat.le_of_ble_eq_true rfl) dL_law_986 ⟨Nat.le_of_ble_eq_true rfl, Nat.le_of_ble_eq_true rfl⟩) hA hDx hS hPm hdis (fun r3 u1 H locs hp4 hPm hS => ?_)
  refine lv_aload_n hx hb dL_law_989 rfl (lv_at hl 2 rfl) ?_
  refine lv_aload_n hx hb dL_law_990 rfl (lv_at hl 4 rfl) ?_
  refine lv_iload hx hb dL_law_991 (lv_at hl 0 rfl) ?_
  refine lv_iconst (v := 1) hx hb dL_law_993 (by decide) ?_
  refine lv_iadd hx hb dL_law_994 ?_
  refine lv_topi (fun x5 ex5 => ?_)
  obtain rfl : x5 = 1 := ex5.trans (by decide)
  refine va_sld hx hb hXs hbl hbA hS (i := 1) (by unfold vp_in; decide) dL_law_995 ?_
  refine lv_topi (fun x6 ex6 => ?_)
  obtain rfl : x6 = xs 1 := ex6
  refine call_i (run_V (rm := { frames := 1, cells := 0, slots := 0, locals := 20 }) hx hb hml hown hts (k_X11_brokenPlan l g _ _ _ mo ar1 ar7 ar10 ar11 ar24 ar26 ar27 ar28 ar29 ar30 ar31 ar32 ar33 ar34 ar35 ar41 ar42 ar43 ar44 ar49 ar52 ar54 (xs 1) hm_mo hf_mo) cV_X11_brokenPlan wg_1870 ⟨Nat.le_of_ble_eq_true rfl, Nat.le_of_ble_eq_true rfl⟩ hG hE hA hPm hDm hS hm_mo hf_mo rfl rfl hl.1 (As := [.int (xs 1)]) (rest := [.int r3]) rfl (Nat.le_of_ble_eq_true rfl) dL_law_996 ⟨Nat.le_of_ble_eq_true rfl, Nat.le_of_ble_eq_true rfl⟩) hA hDm hS (fun r7 L2 f2 H locs hp8 hP2 hD2 hS => ?_)
  refine lv_icmp_eq (tgt := 1361) hx hb dL_law_999 (by decide) (fun c9 => ?_) (fun c9 => absurd (hp4.trans hp8.symm) c9)
  exact law_end l hCE (Nat.le_of_ble_eq_true rfl) (Nat.le_of_ble_eq_true rfl) hS (lv_sub hl [0, 4] rfl)

set_option maxHeartbeats 4000000 in
theorem law_c25 {p : Program} {e : Env} {s : State} {m : MethodId} {below : List Frame} {meth : Method} {c : Code} (l : Launch) {b : Nat} {xs : Nat → Int32} (C0 : lw_At p s m meth c b 6 xs) (htr : l.stackTraces = false) {g : GG} (hG : GK g s) (hE : SW g (fun q : Nat => s.heap.size ≤ q) s s.heap) {Lx Lm : List Nat} {f : HP} {x t tb dr co ot dp pa pn pl pb ch fr nw n0 n1 n2 n3 n4 n5 n6 n7 n8 kp tr ac ah se tx rf mo ar1 ar7 ar10 ar11 ar24 ar26 ar27 ar28 ar29 ar30 ar31 ar32 ar33 ar34 ar35 ar41 ar42 ar43 ar44 ar49 ar52 ar54 o : Nat} {H : Heap} {locs : List Loc} (hPx : va_P g.1 vwCl (va_pl Lx f) H) (hDx : va_D (fun q : Nat => s.heap.size ≤ q) (va_pl Lx f)) (hPm : va_P g.1 vwCl (va_pl Lm f) H) (hDm : va_D (fun q : Nat => s.heap.size ≤ q) (va_pl Lm f)) (hdis : ∀ a, a ∈ Lm → a ∉ Lx) (hS : va_S (fun q : Nat => s.heap.size ≤ q) s.heap H locs) (hX : FX g f Lx x t tb dr co ot dp pa pn pl pb ch fr nw n0 n1 n2 n3 n4 n5 n6 n7 n8 kp tr ac ah se tx rf) (hM : FM g f Lm mo ar1 ar7 ar10 ar11 ar24 ar26 ar27 ar28 ar29 ar30 ar31 ar32 ar33 ar34 ar35 ar41 ar42 ar43 ar44 ar49 ar52 ar54) {ls : Array Slot} (hl : lv_has ls 7 [(4, .int 0), (3, .ref o), (2, .ref mo), (1, .ref x), (0, .ref b)]) : W p l e room_1 s m #[Value.ref b] below meth c H locs 1000 200000 (lw_Z below #[Value.ref b] s) (F0 m 1004 ls []) := by
  obtain ⟨hx, hb, hr, hml, hown, hts0, hXs, hbl, hlocks, hgv⟩ := C0
  have hown : s.vm.findClass "RulerWordLaw" = some m.cls := hown
  have hts := hts1 hts0
  have hA : ∀ q, s.heap.size ≤ q → (fun q : Nat => s.heap.size ≤ q) q := fun _ h => h
  have hbA : ¬ (fun q : Nat => s.heap.size ≤ q) b := Nat.not_le.mpr hbl
  have hCE : lw_At p s m meth c b 6 xs := ⟨hx, hb, hr, hml, hown, hts0, hXs, hbl, hlocks, hgv⟩
  obtain ⟨hm_x, hf_x, hm_t, hf_t, hm_tb, hf_tb, hm_dr, hf_dr, hm_co, hf_co, hm_dp, hf_dp, hm_pa, hf_pa, hm_pn, hf_pn, hm_pl, hf_pl, hm_nw, hf_nw, hm_ac, hf_ac, hm_rf, hf_rf⟩ := hX
  obtain ⟨hm_mo, hf_mo, hm_ar1, hf_ar1, hm_ar7, hf_ar7, hm_ar11, hf_ar11, hm_ar49, hf_ar49⟩ := hM
  refine lv_aload_n hx hb dL_law_1004 rfl (lv_at hl 3 rfl) ?_
  refine call_k (run_V (rm := { frames := 0, cells := 0, slots := 0, locals := 0 }) hx hb hml hown hts (k_X10_weakest l g _ _ _ x t dr co ot dp pn ch fr nw kp tr ac se tx rf  hm_x hf_x) cV_X10_weakest wg_1153 ⟨Nat.le_of_ble_eq_true rfl, Nat.le_of_ble_eq_true rfl⟩ hG hE hA hPx hDx hS hm_x hf_x rfl rfl hl.1 (As := []) (rest := []) rfl (Nat.le_of_ble_eq_true rfl) dL_law_1005 ⟨Nat.le_of_ble_eq_true rfl, Nat.le_of_ble_eq_true rfl⟩) hA hDx hS hPm hdis (fun r1 u1 H locs hp2 hPm hS => ?_)
  refine lv_aload_n hx hb dL_law_1008 rfl (lv_at hl 2 rfl) ?_
  refine call_i (run_V (rm := { frames := 0, cells := 0, slots := 0, locals := 0 }) hx hb hml hown hts (k_X11_weakest l g _ _ _ mo ar1 ar7 ar10 ar11 ar24 ar26 ar27 ar28 ar29 ar30 ar31 ar32 ar33 ar34 ar35 ar41 ar42 ar43 ar44 ar49 ar52 ar54  hm_mo hf_mo) cV_X11_weakest wg_1892 ⟨Nat.le_of_ble_eq_true rfl, Nat.le_of_ble_eq_true rfl⟩ hG hE hA hPm hDm hS hm_mo hf_mo rfl rfl hl.1 (As := []) (rest := [.int r1]) rfl (Nat.le_of_ble_eq_true rfl) dL_law_1009 ⟨Nat.le_of_ble_eq_true rfl, Nat.le_of_ble_eq_true rfl⟩) hA hDm hS (fun r3 L2 f2 H locs hp4 hP2 hD2 hS => ?_)
  refine lv_icmp_eq (tgt := 1361) hx hb dL_law_1012 (by decide) (fun c5 => ?_) (fun c5 => absurd (hp2.trans hp4.symm) c5)
  exact law_end l hCE (Nat.le_of_ble_eq_true rfl) (Nat.le_of_ble_eq_true rfl) hS (lv_sub hl [0, 4] rfl)

set_option maxHeartbeats 4000000 in
theorem law_c26 {p : Program} {e : Env} {s : State} {m : MethodId} {below : List Frame} {meth : Method} {c : Code} (l : Launch) {b : Nat} {xs : Nat → Int32} (C0 : lw_At p s m meth c b 6 xs) (htr : l.stackTraces = false) {g : GG} (hG : GK g s) (hE : SW g (fun q : Nat => s.heap.size ≤ q) s s.heap) {Lx Lm : List Nat} {f : HP} {x t tb dr co ot dp pa pn pl pb ch fr nw n0 n1 n2 n3 n4 n5 n6 n7 n8 kp tr ac ah se tx rf mo ar1 ar7 ar10 ar11 ar24 ar26 ar27 ar28 ar29 ar30 ar31 ar32 ar33 ar34 ar35 ar41 ar42 ar43 ar44 ar49 ar52 ar54 o : Nat} {H : Heap} {locs : List Loc} (hPx : va_P g.1 vwCl (va_pl Lx f) H) (hDx : va_D (fun q : Nat => s.heap.size ≤ q) (va_pl Lx f)) (hPm : va_P g.1 vwCl (va_pl Lm f) H) (hDm : va_D (fun q : Nat => s.heap.size ≤ q) (va_pl Lm f)) (hdis : ∀ a, a ∈ Lm → a ∉ Lx) (hS : va_S (fun q : Nat => s.heap.size ≤ q) s.heap H locs) (hX : FX g f Lx x t tb dr co ot dp pa pn pl pb ch fr nw n0 n1 n2 n3 n4 n5 n6 n7 n8 kp tr ac ah se tx rf) (hM : FM g f Lm mo ar1 ar7 ar10 ar11 ar24 ar26 ar27 ar28 ar29 ar30 ar31 ar32 ar33 ar34 ar35 ar41 ar42 ar43 ar44 ar49 ar52 ar54) {ls : Array Slot} (hl : lv_has ls 7 [(4, .int 0), (3, .ref o), (2, .ref mo), (1, .ref x), (0, .ref b)]) : W p l e room_1 s m #[Value.ref b] below meth c H locs 1000 200000 (lw_Z below #[Value.ref b] s) (F0 m 1017 ls []) := by
  obtain ⟨hx, hb, hr, hml, hown, hts0, hXs, hbl, hlocks, hgv⟩ := C0
  have hown : s.vm.findClass "RulerWordLaw" = some m.cls := hown
  have hts := hts1 hts0
  have hA : ∀ q, s.heap.size ≤ q → (fun q : Nat => s.heap.size ≤ q) q := fun _ h => h
  have hbA : ¬ (fun q : Nat => s.heap.size ≤ q) b := Nat.not_le.mpr hbl
  have hCE : lw_At p s m meth c b 6 xs := ⟨hx, hb, hr, hml, hown, hts0, hXs, hbl, hlocks, hgv⟩
  obtain ⟨hm_x, hf_x, hm_t, hf_t, hm_tb, hf_tb, hm_dr, hf_dr, hm_co, hf_co, hm_dp, hf_dp, hm_pa, hf_pa, hm_pn, hf_pn, hm_pl, hf_pl, hm_nw, hf_nw, hm_ac, hf_ac, hm_rf, hf_rf⟩ := hX
  obtain ⟨hm_mo, hf_mo, hm_ar1, hf_ar1, hm_ar7, hf_ar7, hm_ar11, hf_ar11, hm_ar49, hf_ar49⟩ := hM
  refine lv_aload_n hx hb dL_law_1017 rfl (lv_at hl 3 rfl) ?_
  refine lv_aload_n hx hb dL_law_1018 rfl (lv_at hl 4 rfl) ?_
  refine lv_iload hx hb dL_law_1019 (lv_at hl 0 rfl) ?_
  refine lv_iconst (v := 1) hx hb dL_law_1021 (by decide) ?_
  refine lv_iadd hx hb dL_law_1022 ?_
  refine lv_topi (fun x1 ex1 => ?_)
  obtain rfl : x1 = 1 := ex1.trans (by decide)
  refine va_sld hx hb hXs hbl hbA hS (i := 1) (by unfold vp_in; decide) dL_law_1023 ?_
  refine lv_topi (fun x2 ex2 => ?_)
  obtain rfl : x2 = xs 1 := ex2
  refine lv_aload_n hx hb dL_law_1024 rfl (lv_at hl 4 rfl) ?_
  refine lv_iload hx hb dL_law_1025 (lv_at hl 0 rfl) ?_
  refine lv_iconst (v := 2) hx hb dL_law_1027 (by decide) ?_
  refine lv_iadd hx hb dL_law_1028 ?_
  refine lv_topi (fun x3 ex3 => ?_)
  obtain rfl : x3 = 2 := ex3.trans (by decide)
  refine va_sld hx hb hXs hbl hbA hS (i := 2) (by unfold vp_in; decide) dL_law_1029 ?_
  refine lv_topi (fun x4 ex4 => ?_)
  obtain rfl : x4 = xs 2 := ex4
  refine call_k (run_V (rm := { frames := 1, cells := 0, slots := 0, locals := 21 }) hx hb hml hown hts (k_X10_ruled l g _ _ _ x t dr co ot dp pn ch fr nw kp tr ac se tx rf (xs 1) (xs 2) hm_x hf_x) cV_X10_ruled wg_1157 ⟨Nat.le_of_ble_eq_true rfl, Nat.le_of_ble_eq_true rfl⟩ hG hE hA hPx hDx hS hm_x hf_x rfl rfl hl.1 (As := [.int (xs 1), .int (xs 2)]) (rest := []) rfl (Nat.le_of_ble_eq_true rfl) dL_law_1030 ⟨Nat.le_of_ble_eq_true rfl, Nat.le_of_ble_eq_true rfl⟩) hA hDx hS hPm hdis (fun r5 u1 H locs hp6 hPm hS => ?_)
  refine lv_aload_n hx hb dL_law_1033 rfl (lv_at hl 2 rfl) ?_
  refine lv_aload_n hx hb dL_law_1034 rfl (lv_at hl 4 rfl) ?_
  refine lv_iload hx hb dL_law_1035 (lv_at hl 0 rfl) ?_
  refine lv_iconst (v := 1) hx hb dL_law_1037 (by decide) ?_
  refine lv_iadd hx hb dL_law_1038 ?_
  refine lv_topi (fun x7 ex7 => ?_)
  obtain rfl : x7 = 1 := ex7.trans (by decide)
  refine va_sld hx hb hXs hbl hbA hS (i := 1) (by unfold vp_in; decide) dL_law_1039 ?_
  refine lv_topi (fun x8 ex8 => ?_)
  obtain rfl : x8 = xs 1 := ex8
  refine lv_aload_n hx hb dL_law_1040 rfl (lv_at hl 4 rfl) ?_
  refine lv_iload hx hb dL_law_1041 (lv_at hl 0 rfl) ?_
  refine lv_iconst (v := 2) hx hb dL_law_1043 (by decide) ?_
  refine lv_iadd hx hb dL_law_1044 ?_
  refine lv_topi (fun x9 ex9 => ?_)
  obtain rfl : x9 = 2 := ex9.trans (by decide)
  refine va_sld hx hb hXs hbl hbA hS (i := 2) (by unfold vp_in; decide) dL_law_1045 ?_
  refine lv_topi (fun x10 ex10 => ?_)
  obtain rfl : x10 = xs 2 := ex10
  refine call_i (run_V (rm := { frames := 1, cells := 0, slots := 0, locals := 21 }) hx hb hml hown hts (k_X11_ruled l g _ _ _ mo ar1 ar7 ar10 ar11 ar24 ar26 ar27 ar28 ar29 ar30 ar31 ar32 ar33 ar34 ar35 ar41 ar42 ar43 ar44 ar49 ar52 ar54 (xs 1) (xs 2) hm_mo hf_mo) cV_X11_ruled wg_1896 ⟨Nat.le_of_ble_eq_true rfl, Nat.le_of_ble_eq_true rfl⟩ hG hE hA hPm hDm hS hm_mo hf_mo rfl rfl hl.1 (As := [.int (xs 1), .int (xs 2)]) (rest := [.int r5]) rfl (Nat.le_of_ble_eq_true rfl) dL_law_1046 ⟨Nat.le_of_ble_eq_true rfl, Nat.le_of_ble_eq_true rfl⟩) hA hDm hS (fun r11 L2 f2 H locs hp12 hP2 hD2 hS => ?_)
  refine lv_icmp_eq (tgt := 1361) hx hb dL_law_1049 (by decide) (fun c13 => ?_) (fun c13 => absurd (hp6.trans hp12.symm) c13)
  exact law_end l hCE (Nat.le_of_ble_eq_true rfl) (Nat.le_of_ble_eq_true rfl) hS (lv_sub hl [0, 4] rfl)

set_option maxHeartbeats 4000000 in
theorem law_c27 {p : Program} {e : Env} {s : State} {m : MethodId} {below : List Frame} {meth : Method} {c : Code} (l : Launch) {b : Nat} {xs : Nat → Int32} (C0 : lw_At p s m meth c b 6 xs) (htr : l.stackTraces = false) {g : GG} (hG : GK g s) (hE : SW g (fun q : Nat => s.heap.size ≤ q) s s.heap) {Lx Lm : List Nat} {f : HP} {x t tb dr co ot dp pa pn pl pb ch fr nw n0 n1 n2 n3 n4 n5 n6 n7 n8 kp tr ac ah se tx rf mo ar1 ar7 ar10 ar11 ar24 ar26 ar27 ar28 ar29 ar30 ar31 ar32 ar33 ar34 ar35 ar41 ar42 ar43 ar44 ar49 ar52 ar54 o : Nat} {H : Heap} {locs : List Loc} (hPx : va_P g.1 vwCl (va_pl Lx f) H) (hDx : va_D (fun q : Nat => s.heap.size ≤ q) (va_pl Lx f)) (hPm : va_P g.1 vwCl (va_pl Lm f) H) (hDm : va_D (fun q : Nat => s.heap.size ≤ q) (va_pl Lm f)) (hdis : ∀ a, a ∈ Lm → a ∉ Lx) (hS : va_S (fun q : Nat => s.heap.size ≤ q) s.heap H locs) (hX : FX g f Lx x t tb dr co ot dp pa pn pl pb ch fr nw n0 n1 n2 n3 n4 n5 n6 n7 n8 kp tr ac ah se tx rf) (hM : FM g f Lm mo ar1 ar7 ar10 ar11 ar24 ar26 ar27 ar28 ar29 ar30 ar31 ar32 ar33 ar34 ar35 ar41 ar42 ar43 ar44 ar49 ar52 ar54) {ls : Array Slot} (hl : lv_has ls 7 [(4, .int 0), (3, .ref o), (2, .ref mo), (1, .ref x), (0, .ref b)]) : W p l e room_1 s m #[Value.ref b] below meth c H locs 1000 200000 (lw_Z below #[Value.ref b] s) (F0 m 1054 ls []) := by
  obtain ⟨hx, hb, hr, hml, hown, hts0, hXs, hbl, hlocks, hgv⟩ := C0
  have hown : s.vm.findClass "RulerWordLaw" = some m.cls := hown
  have hts := hts1 hts0
  have hA : ∀ q, s.heap.size ≤ q → (fun q : Nat => s.heap.size ≤ q) q := fun _ h => h
  have hbA : ¬ (fun q : Nat => s.heap.size ≤ q) b := Nat.not_le.mpr hbl
  have hCE : lw_At p s m meth c b 6 xs := ⟨hx, hb, hr, hml, hown, hts0, hXs, hbl, hlocks, hgv⟩
  obtain ⟨hm_x, hf_x, hm_t, hf_t, hm_tb, hf_tb, hm_dr, hf_dr, hm_co, hf_co, hm_dp, hf_dp, hm_pa, hf_pa, hm_pn, hf_pn, hm_pl, hf_pl, hm_nw, hf_nw, hm_ac, hf_ac, hm_rf, hf_rf⟩ := hX
  obtain ⟨hm_mo, hf_mo, hm_ar1, hf_ar1, hm_ar7, hf_ar7, hm_ar11, hf_ar11, hm_ar49, hf_ar49⟩ := hM
  refine lv_aload_n hx hb dL_law_1054 rfl (lv_at hl 3 rfl) ?_
  refine lv_aload_n hx hb dL_law_1055 rfl (lv_at hl 4 rfl) ?_
  refine lv_iload hx hb dL_law_1056 (lv_at hl 0 rfl) ?_
  refine lv_iconst (v := 1) hx hb dL_law_1058 (by decide) ?_
  refine lv_iadd hx hb dL_law_1059 ?_
  refine lv_topi (fun x1 ex1 => ?_)
  obtain rfl : x1 = 1 := ex1.trans (by decide)
  refine va_sld hx hb hXs hbl hbA hS (i := 1) (by unfold vp_in; decide) dL_law_1060 ?_
  refine lv_topi (fun x2 ex2 => ?_)
  obtain rfl : x2 = xs 1 := ex2
  refine lv_aload_n hx hb dL_law_1061 rfl (lv_at hl 4 rfl) ?_
  refine lv_iload hx hb dL_law_1062 (lv_at hl 0 rfl) ?_
  refine lv_iconst (v := 2) hx hb dL_law_1064 (by decide) ?_
  refine lv_iadd hx hb dL_law_1065 ?_
  refine lv_topi (fun x3 ex3 => ?_)
  obtain rfl : x3 = 2 := ex3.trans (by decide)
  refine va_sld hx hb hXs hbl hbA hS (i := 2) (by unfold vp_in; decide) dL_law_1066 ?_
  refine lv_topi (fun x4 ex4 => ?_)
  obtain rfl : x4 = xs 2 := ex4
  refine call_k (run_V (rm := { frames := 1, cells := 0, slots := 0, locals := 21 }) hx hb hml hown hts (k_X10_held l g _ _ _ x t dr co ot dp pn ch fr nw kp tr ac se tx rf n0 n1 n2 n3 n4 n5 n6 n7 n8 (xs 1) (xs 2) hm_x hf_x hm_nw hf_nw) cV_X10_held wg_1173 ⟨Nat.le_of_ble_eq_true rfl, Nat.le_of_ble_eq_true rfl⟩ hG hE hA hPx hDx hS hm_x hf_x rfl rfl hl.1 (As := [.int (xs 1), .int (xs 2)]) (rest := []) rfl (Nat.le_of_ble_eq_true rfl) dL_law_1067 ⟨Nat.le_of_ble_eq_true rfl, Nat.le_of_ble_eq_true rfl⟩) hA hDx hS hPm hdis (fun r5 u1 H locs hp6 hPm hS => ?_)
  refine lv_aload_n hx hb dL_law_1070 rfl (lv_at hl 2 rfl) ?_
  refine lv_aload_n hx hb dL_law_1071 rfl (lv_at hl 4 rfl) ?_
  refine lv_iload hx hb dL_law_1072 (lv_at hl 0 rfl) ?_
  refine lv_iconst (v := 1) hx hb dL_law_1074 (by decide) ?_
  refine lv_iadd hx hb dL_law_1075 ?_
  refine lv_topi (fun x7 ex7 => ?_)
  obtain rfl : x7 = 1 := ex7.trans (by decide)
  refine va_sld hx hb hXs hbl hbA hS (i := 1) (by unfold vp_in; decide) dL_law_1076 ?_
  refine lv_topi (fun x8 ex8 => ?_)
  obtain rfl : x8 = xs 1 := ex8
  refine lv_aload_n hx hb dL_law_1077 rfl (lv_at hl 4 rfl) ?_
  refine lv_iload hx hb dL_law_1078 (lv_at hl 0 rfl) ?_
  refine lv_iconst (v := 2) hx hb dL_law_1080 (by decide) ?_
  refine lv_iadd hx hb dL_law_1081 ?_
  refine lv_topi (fun x9 ex9 => ?_)
  obtain rfl : x9 = 2 := ex9.trans (by decide)
  refine va_sld hx hb hXs hbl hbA hS (i := 2) (by unfold vp_in; decide) dL_law_1082 ?_
  refine lv_topi (fun x10 ex10 => ?_)
  obtain rfl : x10 = xs 2 := ex10
  refine call_i (run_V (rm := { frames := 1, cells := 0, slots := 0, locals := 20 }) hx hb hml hown hts (k_X11_held l g _ _ _ mo ar1 ar7 ar10 ar11 ar24 ar26 ar27 ar28 ar29 ar30 ar31 ar32 ar33 ar34 ar35 ar41 ar42 ar43 ar44 ar49 ar52 ar54 (xs 1) (xs 2) hm_mo hf_mo) cV_X11_held wg_1904 ⟨Nat.le_of_ble_eq_true rfl, Nat.le_of_ble_eq_true rfl⟩ hG hE hA hPm hDm hS hm_mo hf_mo rfl rfl hl.1 (As := [.int (xs 1), .int (xs 2)]) (rest := [.int r5]) rfl (Nat.le_of_ble_eq_true rfl) dL_law_1083 ⟨Nat.le_of_ble_eq_true rfl, Nat.le_of_ble_eq_true rfl⟩) hA hDm hS (fun r11 L2 f2 H locs hp12 hP2 hD2 hS => ?_)
  refine lv_icmp_eq (tgt := 1361) hx hb dL_law_1086 (by decide) (fun c13 => ?_) (fun c13 => absurd (hp6.trans hp12.symm) c13)
  exact law_end l hCE (Nat.le_of_ble_eq_true rfl) (Nat.le_of_ble_eq_true rfl) hS (lv_sub hl [0, 4] rfl)

set_option maxHeartbeats 4000000 in
theorem law_c28 {p : Program} {e : Env} {s : State} {m : MethodId} {below : List Frame} {meth : Method} {c : Code} (l : Launch) {b : Nat} {xs : Nat → Int32} (C0 : lw_At p s m meth c b 6 xs) (htr : l.stackTraces = false) {g : GG} (hG : GK g s) (hE : SW g (fun q : Nat => s.heap.size ≤ q) s s.heap) {Lx Lm : List Nat} {f : HP} {x t tb dr co ot dp pa pn pl pb ch fr nw n0 n1 n2 n3 n4 n5 n6 n7 n8 kp tr ac ah se tx rf mo ar1 ar7 ar10 ar11 ar24 ar26 ar27 ar28 ar29 ar30 ar31 ar32 ar33 ar34 ar35 ar41 ar42 ar43 ar44 ar49 ar52 ar54 o : Nat} {H : Heap} {locs : List Loc} (hPx : va_P g.1 vwCl (va_pl Lx f) H) (hDx : va_D (fun q : Nat => s.heap.size ≤ q) (va_pl Lx f)) (hPm : va_P g.1 vwCl (va_pl Lm f) H) (hDm : va_D (fun q : Nat => s.heap.size ≤ q) (va_pl Lm f)) (hdis : ∀ a, a ∈ Lm → a ∉ Lx) (hS : va_S (fun q : Nat => s.heap.size ≤ q) s.heap H locs) (hX : FX g f Lx x t tb dr co ot dp pa pn pl pb ch fr nw n0 n1 n2 n3 n4 n5 n6 n7 n8 kp tr ac ah se tx rf) (hM : FM g f Lm mo ar1 ar7 ar10 ar11 ar24 ar26 ar27 ar28 ar29 ar30 ar31 ar32 ar33 ar34 ar35 ar41 ar42 ar43 ar44 ar49 ar52 ar54) {ls : Array Slot} (hl : lv_has ls 7 [(4, .int 0), (3, .ref o), (2, .ref mo), (1, .ref x), (0, .ref b)]) : W p l e room_1 s m #[Value.ref b] below meth c H locs 1000 200000 (lw_Z below #[Value.ref b] s) (F0 m 1091 ls []) := by
  obtain ⟨hx, hb, hr, hml, hown, hts0, hXs, hbl, hlocks, hgv⟩ := C0
  have hown : s.vm.findClass "RulerWordLaw" = some m.cls := hown
  have hts := hts1 hts0
  have hA : ∀ q, s.heap.size ≤ q → (fun q : Nat => s.heap.size ≤ q) q := fun _ h => h
  have hbA : ¬ (fun q : Nat => s.heap.size ≤ q) b := Nat.not_le.mpr hbl
  have hCE : lw_At p s m meth c b 6 xs := ⟨hx, hb, hr, hml, hown, hts0, hXs, hbl, hlocks, hgv⟩
  obtain ⟨hm_x, hf_x, hm_t, hf_t, hm_tb, hf_tb, hm_dr, hf_dr, hm_co, hf_co, hm_dp, hf_dp, hm_pa, hf_pa, hm_pn, hf_pn, hm_pl, hf_pl, hm_nw, hf_nw, hm_ac, hf_ac, hm_rf, hf_rf⟩ := hX
  obtain ⟨hm_mo, hf_mo, hm_ar1, hf_ar1, hm_ar7, hf_ar7, hm_ar11, hf_ar11, hm_ar49, hf_ar49⟩ := hM
  refine lv_aload_n hx hb dL_law_1091 rfl (lv_at hl 3 rfl) ?_
  refine call_k (run_V (rm := { frames := 0, cells := 0, slots := 0, locals := 0 }) hx hb hml hown hts (k_X10_needed l g _ _ _ x t dr co ot dp pn ch fr nw kp tr ac se tx rf  hm_x hf_x) cV_X10_needed wg_1181 ⟨Nat.le_of_ble_eq_true rfl, Nat.le_of_ble_eq_true rfl⟩ hG hE hA hPx hDx hS hm_x hf_x rfl rfl hl.1 (As := []) (rest := []) rfl (Nat.le_of_ble_eq_true rfl) dL_law_1092 ⟨Nat.le_of_ble_eq_true rfl, Nat.le_of_ble_eq_true rfl⟩) hA hDx hS hPm hdis (fun r1 u1 H locs hp2 hPm hS => ?_)
  refine lv_aload_n hx hb dL_law_1095 rfl (lv_at hl 2 rfl) ?_
  refine call_i (run_V (rm := { frames := 0, cells := 0, slots := 0, locals := 0 }) hx hb hml hown hts (k_X11_needed l g _ _ _ mo ar1 ar7 ar10 ar11 ar24 ar26 ar27 ar28 ar29 ar30 ar31 ar32 ar33 ar34 ar35 ar41 ar42 ar43 ar44 ar49 ar52 ar54  hm_mo hf_mo) cV_X11_needed wg_1908 ⟨Nat.le_of_ble_eq_true rfl, Nat.le_of_ble_eq_true rfl⟩ hG hE hA hPm hDm hS hm_mo hf_mo rfl rfl hl.1 (As := []) (rest := [.int r1]) rfl (Nat.le_of_ble_eq_true rfl) dL_law_1096 ⟨Nat.le_of_ble_eq_true rfl, Nat.le_of_ble_eq_true rfl⟩) hA hDm hS (fun r3 L2 f2 H locs hp4 hP2 hD2 hS => ?_)
  refine lv_icmp_eq (tgt := 1361) hx hb dL_law_1099 (by decide) (fun c5 => ?_) (fun c5 => absurd (hp2.trans hp4.symm) c5)
  exact law_end l hCE (Nat.le_of_ble_eq_true rfl) (Nat.le_of_ble_eq_true rfl) hS (lv_sub hl [0, 4] rfl)

set_option maxHeartbeats 4000000 in
theorem law_c29 {p : Program} {e : Env} {s : State} {m : MethodId} {below : List Frame} {meth : Method} {c : Code} (l : Launch) {b : Nat} {xs : Nat → Int32} (C0 : lw_At p s m meth c b 6 xs) (htr : l.stackTraces = false) {g : GG} (hG : GK g s) (hE : SW g (fun q : Nat => s.heap.size ≤ q) s s.heap) {Lx Lm : List Nat} {f : HP} {x t tb dr co ot dp pa pn pl pb ch fr nw n0 n1 n2 n3 n4 n5 n6 n7 n8 kp tr ac ah se tx rf mo ar1 ar7 ar10 ar11 ar24 ar26 ar27 ar28 ar29 ar30 ar31 ar32 ar33 ar34 ar35 ar41 ar42 ar43 ar44 ar49 ar52 ar54 o : Nat} {H : Heap} {locs : List Loc} (hPx : va_P g.1 vwCl (va_pl Lx f) H) (hDx : va_D (fun q : Nat => s.heap.size ≤ q) (va_pl Lx f)) (hPm : va_P g.1 vwCl (va_pl Lm f) H) (hDm : va_D (fun q : Nat => s.heap.size ≤ q) (va_pl Lm f)) (hdis : ∀ a, a ∈ Lm → a ∉ Lx) (hS : va_S (fun q : Nat => s.heap.size ≤ q) s.heap H locs) (hX : FX g f Lx x t tb dr co ot dp pa pn pl pb ch fr nw n0 n1 n2 n3 n4 n5 n6 n7 n8 kp tr ac ah se tx rf) (hM : FM g f Lm mo ar1 ar7 ar10 ar11 ar24 ar26 ar27 ar28 ar29 ar30 ar31 ar32 ar33 ar34 ar35 ar41 ar42 ar43 ar44 ar49 ar52 ar54) {ls : Array Slot} (hl : lv_has ls 7 [(4, .int 0), (3, .ref o), (2, .ref mo), (1, .ref x), (0, .ref b)]) : W p l e room_1 s m #[Value.ref b] below meth c H locs 1000 200000 (lw_Z below #[Value.ref b] s) (F0 m 1104 ls []) := by
  obtain ⟨hx, hb, hr, hml, hown, hts0, hXs, hbl, hlocks, hgv⟩ := C0
  have hown : s.vm.findClass "RulerWordLaw" = some m.cls := hown
  have hts := hts1 hts0
  have hA : ∀ q, s.heap.size ≤ q → (fun q : Nat => s.heap.size ≤ q) q := fun _ h => h
  have hbA : ¬ (fun q : Nat => s.heap.size ≤ q) b := Nat.not_le.mpr hbl
  have hCE : lw_At p s m meth c b 6 xs := ⟨hx, hb, hr, hml, hown, hts0, hXs, hbl, hlocks, hgv⟩
  obtain ⟨hm_x, hf_x, hm_t, hf_t, hm_tb, hf_tb, hm_dr, hf_dr, hm_co, hf_co, hm_dp, hf_dp, hm_pa, hf_pa, hm_pn, hf_pn, hm_pl, hf_pl, hm_nw, hf_nw, hm_ac, hf_ac, hm_rf, hf_rf⟩ := hX
  obtain ⟨hm_mo, hf_mo, hm_ar1, hf_ar1, hm_ar7, hf_ar7, hm_ar11, hf_ar11, hm_ar49, hf_ar49⟩ := hM
  refine lv_aload_n hx hb dL_law_1104 rfl (lv_at hl 3 rfl) ?_
  refine lv_aload_n hx hb dL_law_1105 rfl (lv_at hl 4 rfl) ?_
  refine lv_iload hx hb dL_law_1106 (lv_at hl 0 rfl) ?_
  refine lv_iconst (v := 1) hx hb dL_law_1108 (by decide) ?_
  refine lv_iadd hx hb dL_law_1109 ?_
  refine lv_topi (fun x1 ex1 => ?_)
  obtain rfl : x1 = 1 := ex1.trans (by decide)
  refine va_sld hx hb hXs hbl hbA hS (i := 1) (by unfold vp_in; decide) dL_law_1110 ?_
  refine lv_topi (fun x2 ex2 => ?_)
  obtain rfl : x2 = xs 1 := ex2
  refine call_k (run_V (rm := { frames := 0, cells := 0, slots := 0, locals := 0 }) hx hb hml hown hts (k_X10_asOthers l g _ _ _ x t dr co ot dp pn ch fr nw kp tr ac se tx rf (xs 1) hm_x hf_x) cV_X10_asOthers wg_1185 ⟨Nat.le_of_ble_eq_true rfl, Nat.le_of_ble_eq_true rfl⟩ hG hE hA hPx hDx hS hm_x hf_x rfl rfl hl.1 (As := [.int (xs 1)]) (rest := []) rfl (Nat.le_of_ble_eq_true rfl) dL_law_1111 ⟨Nat.le_of_ble_eq_true rfl, Nat.le_of_ble_eq_true rfl⟩) hA hDx hS hPm hdis (fun r3 u1 H locs hp4 hPm hS => ?_)
  refine lv_aload_n hx hb dL_law_1114 rfl (lv_at hl 2 rfl) ?_
  refine lv_aload_n hx hb dL_law_1115 rfl (lv_at hl 4 rfl) ?_
  refine lv_iload hx hb dL_law_1116 (lv_at hl 0 rfl) ?_
  refine lv_iconst (v := 1) hx hb dL_law_1118 (by decide) ?_
  refine lv_iadd hx hb dL_law_1119 ?_
  refine lv_topi (fun x5 ex5 => ?_)
  obtain rfl : x5 = 1 := ex5.trans (by decide)
  refine va_sld hx hb hXs hbl hbA hS (i := 1) (by unfold vp_in; decide) dL_law_1120 ?_
  refine lv_topi (fun x6 ex6 => ?_)
  obtain rfl : x6 = xs 1 := ex6
  refine call_i (run_V (rm := { frames := 0, cells := 0, slots := 0, locals := 0 }) hx hb hml hown hts (k_X11_asOthers l g _ _ _ mo ar1 ar7 ar10 ar11 ar24 ar26 ar27 ar28 ar29 ar30 ar31 ar32 ar33 ar34 ar35 ar41 ar42 ar43 ar44 ar49 ar52 ar54 (xs 1) hm_mo hf_mo) cV_X11_asOthers wg_1912 ⟨Nat.le_of_ble_eq_true rfl, Nat.le_of_ble_eq_true rfl⟩ hG hE hA hPm hDm hS hm_mo hf_mo rfl rfl hl.1 (As := [.int (xs 1)]) (rest := [.int r3]) rfl (Nat.le_of_ble_eq_true rfl) dL_law_1121 ⟨Nat.le_of_ble_eq_true rfl, Nat.le_of_ble_eq_true rfl⟩) hA hDm hS (fun r7 L2 f2 H locs hp8 hP2 hD2 hS => ?_)
  refine lv_icmp_eq (tgt := 1361) hx hb dL_law_1124 (by decide) (fun c9 => ?_) (fun c9 => absurd (hp4.trans hp8.symm) c9)
  exact law_end l hCE (Nat.le_of_ble_eq_true rfl) (Nat.le_of_ble_eq_true rfl) hS (lv_sub hl [0, 4] rfl)

set_option maxHeartbeats 4000000 in
theorem law_c30 {p : Program} {e : Env} {s : State} {m : MethodId} {below : List Frame} {meth : Method} {c : Code} (l : Launch) {b : Nat} {xs : Nat → Int32} (C0 : lw_At p s m meth c b 6 xs) (htr : l.stackTraces = false) {g : GG} (hG : GK g s) (hE : SW g (fun q : Nat => s.heap.size ≤ q) s s.heap) {Lx Lm : List Nat} {f : HP} {x t tb dr co ot dp pa pn pl pb ch fr nw n0 n1 n2 n3 n4 n5 n6 n7 n8 kp tr ac ah se tx rf mo ar1 ar7 ar10 ar11 ar24 ar26 ar27 ar28 ar29 ar30 ar31 ar32 ar33 ar34 ar35 ar41 ar42 ar43 ar44 ar49 ar52 ar54 o : Nat} {H : Heap} {locs : List Loc} (hPx : va_P g.1 vwCl (va_pl Lx f) H) (hDx : va_D (fun q : Nat => s.heap.size ≤ q) (va_pl Lx f)) (hPm : va_P g.1 vwCl (va_pl Lm f) H) (hDm : va_D (fun q : Nat => s.heap.size ≤ q) (va_pl Lm f)) (hdis : ∀ a, a ∈ Lm → a ∉ Lx) (hS : va_S (fun q : Nat => s.heap.size ≤ q) s.heap H locs) (hX : FX g f Lx x t tb dr co ot dp pa pn pl pb ch fr nw n0 n1 n2 n3 n4 n5 n6 n7 n8 kp tr ac ah se tx rf) (hM : FM g f Lm mo ar1 ar7 ar10 ar11 ar24 ar26 ar27 ar28 ar29 ar30 ar31 ar32 ar33 ar34 ar35 ar41 ar42 ar43 ar44 ar49 ar52 ar54) {ls : Array Slot} (hl : lv_has ls 7 [(4, .int 0), (3, .ref o), (2, .ref mo), (1, .ref x), (0, .ref b)]) : W p l e room_1 s m #[Value.ref b] below meth c H locs 1000 200000 (lw_Z below #[Value.ref b] s) (F0 m 1129 ls []) := by
  obtain ⟨hx, hb, hr, hml, hown, hts0, hXs, hbl, hlocks, hgv⟩ := C0
  have hown : s.vm.findClass "RulerWordLaw" = some m.cls := hown
  have hts := hts1 hts0
  have hA : ∀ q, s.heap.size ≤ q → (fun q : Nat => s.heap.size ≤ q) q := fun _ h => h
  have hbA : ¬ (fun q : Nat => s.heap.size ≤ q) b := Nat.not_le.mpr hbl
  have hCE : lw_At p s m meth c b 6 xs := ⟨hx, hb, hr, hml, hown, hts0, hXs, hbl, hlocks, hgv⟩
  obtain ⟨hm_x, hf_x, hm_t, hf_t, hm_tb, hf_tb, hm_dr, hf_dr, hm_co, hf_co, hm_dp, hf_dp, hm_pa, hf_pa, hm_pn, hf_pn, hm_pl, hf_pl, hm_nw, hf_nw, hm_ac, hf_ac, hm_rf, hf_rf⟩ := hX
  obtain ⟨hm_mo, hf_mo, hm_ar1, hf_ar1, hm_ar7, hf_ar7, hm_ar11, hf_ar11, hm_ar49, hf_ar49⟩ := hM
  refine lv_aload_n hx hb dL_law_1129 rfl (lv_at hl 3 rfl) ?_
  refine lv_aload_n hx hb dL_law_1130 rfl (lv_at hl 4 rfl) ?_
  refine lv_iload hx hb dL_law_1131 (lv_at hl 0 rfl) ?_
  refine lv_iconst (v := 1) hx hb dL_law_1133 (by decide) ?_
  refine lv_iadd hx hb dL_law_1134 ?_
  refine lv_topi (fun x1 ex1 => ?_)
  obtain rfl : x1 = 1 := ex1.trans (by decide)
  refine va_sld hx hb hXs hbl hbA hS (i := 1) (by unfold vp_in; decide) dL_law_1135 ?_
  refine lv_topi (fun x2 ex2 => ?_)
  obtain rfl : x2 = xs 1 := ex2
  refine lv_aload_n hx hb dL_law_1136 rfl (lv_at hl 4 rfl) ?_
  refine lv_iload hx hb dL_law_1137 (lv_at hl 0 rfl) ?_
  refine lv_iconst (v := 2) hx hb dL_law_1139 (by decide) ?_
  refine lv_iadd hx hb dL_law_1140 ?_
  refine lv_topi (fun x3 ex3 => ?_)
  obtain rfl : x3 = 2 := ex3.trans (by decide)
  refine va_sld hx hb hXs hbl hbA hS (i := 2) (by unfold vp_in; decide) dL_law_1141 ?_
  refine lv_topi (fun x4 ex4 => ?_)
  obtain rfl : x4 = xs 2 := ex4
  refine lv_i2l hx hb dL_law_1142 rfl ?_
  refine lv_topl (fun y5 ey5 => ?_)
  refine lv_bipush (v := 32) hx hb dL_law_1143 (by decide) ?_
  refine lv_lshl hx hb dL_law_1145 rfl ?_
  refine lv_topl (fun y6 ey6 => ?_)
  refine lv_aload_n hx hb dL_law_1146 rfl (lv_at hl 4 rfl) ?_
  refine lv_iload hx hb dL_law_1147 (lv_at hl 0 rfl) ?_
  refine lv_iconst (v := 3) hx hb dL_law_1149 (by decide) ?_
  refine lv_iadd hx hb dL_law_1150 ?_
  refine lv_topi (fun x7 ex7 => ?_)
  obtain rfl : x7 = 3 := ex7.trans (by decide)
  refine va_sld hx hb hXs hbl hbA hS (i := 3) (by unfold vp_in; decide) dL_law_1151 ?_
  refine lv_topi (fun x8 ex8 => ?_)
  obtain rfl : x8 = xs 3 := ex8
  refine lv_i2l hx hb dL_law_1152 rfl ?_
  refine lv_topl (fun y9 ey9 => ?_)
  refine lv_ldc2 hx hb hown (hts _ (mT wg_1955)) dL_law_1153 ?_
  refine lv_topl (fun y10 ey10 => ?_)
  refine lv_land hx hb dL_law_1156 ?_
  refine lv_topl (fun y11 ey11 => ?_)
  refine lv_lor hx hb dL_law_1157 ?_
  refine lv_topl (fun y12 ey12 => ?_)
  refine lv_aload_n hx hb dL_law_1158 rfl (lv_at hl 4 rfl) ?_
  refine lv_iload hx hb dL_law_1159 (lv_at hl 0 rfl) ?_
  refine lv_iconst (v := 4) hx hb dL_law_1161 (by decide) ?_
  refine lv_iadd hx hb dL_law_1162 ?_
  refine lv_topi (fun x13 ex13 => ?_)
  obtain rfl : x13 = 4 := ex13.trans (by decide)
  refine va_sld hx hb hXs hbl hbA hS (i := 4) (by unfold vp_in; decide) dL_law_1163 ?_
  refine lv_topi (fun x14 ex14 => ?_)
  obtain rfl : x14 = xs 4 := ex14
  refine call_k (run_V (rm := { frames := 0, cells := 0, slots := 0, locals := 0 }) hx hb hml hown hts (k_X10_byChance l g _ _ _ x t dr co ot dp pn ch fr nw kp tr ac se tx rf (xs 1) y12 (xs 4) hm_x hf_x) cV_X10_byChance wg_1189 ⟨Nat.le_of_ble_eq_true rfl, Nat.le_of_ble_eq_true rfl⟩ hG hE hA hPx hDx hS hm_x hf_x rfl rfl hl.1 (As := [.int (xs 1), .long y12, .int (xs 4)]) (rest := []) rfl (Nat.le_of_ble_eq_true rfl) dL_law_1164 ⟨Nat.le_of_ble_eq_true rfl, Nat.le_of_ble_eq_true rfl⟩) hA hDx hS hPm hdis (fun r15 u1 H locs hp16 hPm hS => ?_)
  refine lv_aload_n hx hb dL_law_1167 rfl (lv_at hl 2 rfl) ?_
  refine lv_aload_n hx hb dL_law_1168 rfl (lv_at hl 4 rfl) ?_
  refine lv_iload hx hb dL_law_1169 (lv_at hl 0 rfl) ?_
  refine lv_iconst (v := 1) hx hb dL_law_1171 (by decide) ?_
  refine lv_iadd hx hb dL_law_1172 ?_
  refine lv_topi (fun x17 ex17 => ?_)
  obtain rfl : x17 = 1 := ex17.trans (by decide)
  refine va_sld hx hb hXs hbl hbA hS (i := 1) (by unfold vp_in; decide) dL_law_1173 ?_
  refine lv_topi (fun x18 ex18 => ?_)
  obtain rfl : x18 = xs 1 := ex18
  refine lv_aload_n hx hb dL_law_1174 rfl (lv_at hl 4 rfl) ?_
  refine lv_iload hx hb dL_law_1175 (lv_at hl 0 rfl) ?_
  refine lv_iconst (v := 2) hx hb dL_law_1177 (by decide) ?_
  refine lv_iadd hx hb dL_law_1178 ?_
  refine lv_topi (fun x19 ex19 => ?_)
  obtain rfl : x19 = 2 := ex19.trans (by decide)
  refine va_sld hx hb hXs hbl hbA hS (i := 2) (by unfold vp_in; decide) dL_law_1179 ?_
  refine lv_topi (fun x20 ex20 => ?_)
  obtain rfl : x20 = xs 2 := ex20
  refine lv_i2l hx hb dL_law_1180 rfl ?_
  refine lv_topl (fun y21 ey21 => ?_)
  refine lv_bipush (v := 32) hx hb dL_law_1181 (by decide) ?_
  refine lv_lshl hx hb dL_law_1183 rfl ?_
  refine lv_topl (fun y22 ey22 => ?_)
  refine lv_aload_n hx hb dL_law_1184 rfl (lv_at hl 4 rfl) ?_
  refine lv_iload hx hb dL_law_1185 (lv_at hl 0 rfl) ?_
  refine lv_iconst (v := 3) hx hb dL_law_1187 (by decide) ?_
  refine lv_iadd hx hb dL_law_1188 ?_
  refine lv_topi (fun x23 ex23 => ?_)
  obtain rfl : x23 = 3 := ex23.trans (by decide)
  refine va_sld hx hb hXs hbl hbA hS (i := 3) (by unfold vp_in; decide) dL_law_1189 ?_
  refine lv_topi (fun x24 ex24 => ?_)
  obtain rfl : x24 = xs 3 := ex24
  refine lv_i2l hx hb dL_law_1190 rfl ?_
  refine lv_topl (fun y25 ey25 => ?_)
  refine lv_ldc2 hx hb hown (hts _ (mT wg_1955)) dL_law_1191 ?_
  refine lv_topl (fun y26 ey26 => ?_)
  refine lv_land hx hb dL_law_1194 ?_
  refine lv_topl (fun y27 ey27 => ?_)
  refine lv_lor hx hb dL_law_1195 ?_
  refine lv_topl (fun y28 ey28 => ?_)
  refine lv_aload_n hx hb dL_law_1196 rfl (lv_at hl 4 rfl) ?_
  refine lv_iload hx hb dL_law_1197 (lv_at hl 0 rfl) ?_
  refine lv_iconst (v := 4) hx hb dL_law_1199 (by decide) ?_
  refine lv_iadd hx hb dL_law_1200 ?_
  refine lv_topi (fun x29 ex29 => ?_)
  obtain rfl : x29 = 4 := ex29.trans (by decide)
  refine va_sld hx hb hXs hbl hbA hS (i := 4) (by unfold vp_in; decide) dL_law_1201 ?_
  refine lv_topi (fun x30 ex30 => ?_)
  obtain rfl : x30 = xs 4 := ex30
  refine call_i (run_V (rm := { frames := 0, cells := 0, slots := 0, locals := 0 }) hx hb hml hown hts (k_X11_byChance l g _ _ _ mo ar1 ar7 ar10 ar11 ar24 ar26 ar27 ar28 ar29 ar30 ar31 ar32 ar33 ar34 ar35 ar41 ar42 ar43 ar44 ar49 ar52 ar54 (xs 1) y28 (xs 4) hm_mo hf_mo) cV_X11_byChance wg_1920 ⟨Nat.le_of_ble_eq_true rfl, Nat.le_of_ble_eq_true rfl⟩ hG hE hA hPm hDm hS hm_mo hf_mo rfl rfl hl.1 (As := [.int (xs 1), .long y28, .int (xs 4)]) (rest := [.int r15]) rfl (Nat.le_of_ble_eq_true rfl) dL_law_1202 ⟨Nat.le_of_ble_eq_true rfl, Nat.le_of_ble_eq_true rfl⟩) hA hDm hS (fun r31 L2 f2 H locs hp32 hP2 hD2 hS => ?_)
  refine lv_icmp_eq (tgt := 1361) hx hb dL_law_1205 (by decide) (fun c33 => ?_) (fun c33 => absurd (hp16.trans hp32.symm) c33)
  exact law_end l hCE (Nat.le_of_ble_eq_true rfl) (Nat.le_of_ble_eq_true rfl) hS (lv_sub hl [0, 4] rfl)

set_option maxHeartbeats 4000000 in
theorem law_c31 {p : Program} {e : Env} {s : State} {m : MethodId} {below : List Frame} {meth : Method} {c : Code} (l : Launch) {b : Nat} {xs : Nat → Int32} (C0 : lw_At p s m meth c b 6 xs) (htr : l.stackTraces = false) {g : GG} (hG : GK g s) (hE : SW g (fun q : Nat => s.heap.size ≤ q) s s.heap) {Lx Lm : List Nat} {f : HP} {x t tb dr co ot dp pa pn pl pb ch fr nw n0 n1 n2 n3 n4 n5 n6 n7 n8 kp tr ac ah se tx rf mo ar1 ar7 ar10 ar11 ar24 ar26 ar27 ar28 ar29 ar30 ar31 ar32 ar33 ar34 ar35 ar41 ar42 ar43 ar44 ar49 ar52 ar54 o : Nat} {H : Heap} {locs : List Loc} (hPx : va_P g.1 vwCl (va_pl Lx f) H) (hDx : va_D (fun q : Nat => s.heap.size ≤ q) (va_pl Lx f)) (hPm : va_P g.1 vwCl (va_pl Lm f) H) (hDm : va_D (fun q : Nat => s.heap.size ≤ q) (va_pl Lm f)) (hdis : ∀ a, a ∈ Lm → a ∉ Lx) (hS : va_S (fun q : Nat => s.heap.size ≤ q) s.heap H locs) (hX : FX g f Lx x t tb dr co ot dp pa pn pl pb ch fr nw n0 n1 n2 n3 n4 n5 n6 n7 n8 kp tr ac ah se tx rf) (hM : FM g f Lm mo ar1 ar7 ar10 ar11 ar24 ar26 ar27 ar28 ar29 ar30 ar31 ar32 ar33 ar34 ar35 ar41 ar42 ar43 ar44 ar49 ar52 ar54) {ls : Array Slot} (hl : lv_has ls 7 [(4, .int 0), (3, .ref o), (2, .ref mo), (1, .ref x), (0, .ref b)]) : W p l e room_1 s m #[Value.ref b] below meth c H locs 1000 200000 (lw_Z below #[Value.ref b] s) (F0 m 1210 ls []) := by
  obtain ⟨hx, hb, hr, hml, hown, hts0, hXs, hbl, hlocks, hgv⟩ := C0
  have hown : s.vm.findClass "RulerWordLaw" = some m.cls := hown
  have hts := hts1 hts0
  have hA : ∀ q, s.heap.size ≤ q → (fun q : Nat => s.heap.size ≤ q) q := fun _ h => h
  have hbA : ¬ (fun q : Nat => s.heap.size ≤ q) b := Nat.not_le.mpr hbl
  have hCE : lw_At p s m meth c b 6 xs := ⟨hx, hb, hr, hml, hown, hts0, hXs, hbl, hlocks, hgv⟩
  obtain ⟨hm_x, hf_x, hm_t, hf_t, hm_tb, hf_tb, hm_dr, hf_dr, hm_co, hf_co, hm_dp, hf_dp, hm_pa, hf_pa, hm_pn, hf_pn, hm_pl, hf_pl, hm_nw, hf_nw, hm_ac, hf_ac, hm_rf, hf_rf⟩ := hX
  obtain ⟨hm_mo, hf_mo, hm_ar1, hf_ar1, hm_ar7, hf_ar7, hm_ar11, hf_ar11, hm_ar49, hf_ar49⟩ := hM
  refine lv_aload_n hx hb dL_law_1210 rfl (lv_at hl 3 rfl) ?_
  refine lv_aload_n hx hb dL_law_1211 rfl (lv_at hl 4 rfl) ?_
  refine lv_iload hx hb dL_law_1212 (lv_at hl 0 rfl) ?_
  refine lv_iconst (v := 1) hx hb dL_law_1214 (by decide) ?_
  refine lv_iadd hx hb dL_law_1215 ?_
  refine lv_topi (fun x1 ex1 => ?_)
  obtain rfl : x1 = 1 := ex1.trans (by decide)
  refine va_sld hx hb hXs hbl hbA hS (i := 1) (by unfold vp_in; decide) dL_law_1216 ?_
  refine lv_topi (fun x2 ex2 => ?_)
  obtain rfl : x2 = xs 1 := ex2
  refine lv_aload_n hx hb dL_law_1217 rfl (lv_at hl 4 rfl) ?_
  refine lv_iload hx hb dL_law_1218 (lv_at hl 0 rfl) ?_
  refine lv_iconst (v := 2) hx hb dL_law_1220 (by decide) ?_
  refine lv_iadd hx hb dL_law_1221 ?_
  refine lv_topi (fun x3 ex3 => ?_)
  obtain rfl : x3 = 2 := ex3.trans (by decide)
  refine va_sld hx hb hXs hbl hbA hS (i := 2) (by unfold vp_in; decide) dL_law_1222 ?_
  refine lv_topi (fun x4 ex4 => ?_)
  obtain rfl : x4 = xs 2 := ex4
  refine call_k (run_V (rm := { frames := 2, cells := 0, slots := 0, locals := 41 }) hx hb hml hown hts (k_X10_shown l g _ _ _ x t dr co ot dp pn ch fr nw kp tr ac se tx rf (xs 1) (xs 2) hm_x hf_x) cV_X10_shown wg_1193 ⟨Nat.le_of_ble_eq_true rfl, Nat.le_of_ble_eq_true rfl⟩ hG hE hA hPx hDx hS hm_x hf_x rfl rfl hl.1 (As := [.int (xs 1), .int (xs 2)]) (rest := []) rfl (Nat.le_of_ble_eq_true rfl) dL_law_1223 ⟨Nat.le_of_ble_eq_true rfl, Nat.le_of_ble_eq_true rfl⟩) hA hDx hS hPm hdis (fun r5 u1 H locs hp6 hPm hS => ?_)
  refine lv_aload_n hx hb dL_law_1226 rfl (lv_at hl 2 rfl) ?_
  refine lv_aload_n hx hb dL_law_1227 rfl (lv_at hl 4 rfl) ?_
  refine lv_iload hx hb dL_law_1228 (lv_at hl 0 rfl) ?_
  refine lv_iconst (v := 1) hx hb dL_law_1230 (by decide) ?_
  refine lv_iadd hx hb dL_law_1231 ?_
  refine lv_topi (fun x7 ex7 => ?_)
  obtain rfl : x7 = 1 := ex7.trans (by decide)
  refine va_sld hx hb hXs hbl hbA hS (i := 1) (by unfold vp_in; decide) dL_law_1232 ?_
  refine lv_topi (fun x8 ex8 => ?_)
  obtain rfl : x8 = xs 1 := ex8
  refine lv_aload_n hx hb dL_law_1233 rfl (lv_at hl 4 rfl) ?_
  refine lv_iload hx hb dL_law_1234 (lv_at hl 0 rfl) ?_
  refine lv_iconst (v := 2) hx hb dL_law_1236 (by decide) ?_
  refine lv_iadd hx hb dL_law_1237 ?_
  refine lv_topi (fun x9 ex9 => ?_)
  obtain rfl : x9 = 2 := ex9.trans (by decide)
  refine va_sld hx hb hXs hbl hbA hS (i := 2) (by unfold vp_in; decide) dL_law_1238 ?_
  refine lv_topi (fun x10 ex10 => ?_)
  obtain rfl : x10 = xs 2 := ex10
  refine call_i (run_V (rm := { frames := 1, cells := 0, slots := 0, locals := 25 }) hx hb hml hown hts (k_X11_shown l g _ _ _ mo ar1 ar7 ar10 ar11 ar24 ar26 ar27 ar28 ar29 ar30 ar31 ar32 ar33 ar34 ar35 ar41 ar42 ar43 ar44 ar49 ar52 ar54 (xs 1) (xs 2) hm_mo hf_mo) cV_X11_shown wg_1925 ⟨Nat.le_of_ble_eq_true rfl, Nat.le_of_ble_eq_true rfl⟩ hG hE hA hPm hDm hS hm_mo hf_mo rfl rfl hl.1 (As := [.int (xs 1), .int (xs 2)]) (rest := [.int r5]) rfl (Nat.le_of_ble_eq_true rfl) dL_law_1239 ⟨Nat.le_of_ble_eq_true rfl, Nat.le_of_ble_eq_true rfl⟩) hA hDm hS (fun r11 L2 f2 H locs hp12 hP2 hD2 hS => ?_)
  refine lv_icmp_eq (tgt := 1361) hx hb dL_law_1242 (by decide) (fun c13 => ?_) (fun c13 => absurd (hp6.trans hp12.symm) c13)
  exact law_end l hCE (Nat.le_of_ble_eq_true rfl) (Nat.le_of_ble_eq_true rfl) hS (lv_sub hl [0, 4] rfl)

set_option maxHeartbeats 4000000 in
theorem law_c32 {p : Program} {e : Env} {s : State} {m : MethodId} {below : List Frame} {meth : Method} {c : Code} (l : Launch) {b : Nat} {xs : Nat → Int32} (C0 : lw_At p s m meth c b 6 xs) (htr : l.stackTraces = false) {g : GG} (hG : GK g s) (hE : SW g (fun q : Nat => s.heap.size ≤ q) s s.heap) {Lx Lm : List Nat} {f : HP} {x t tb dr co ot dp pa pn pl pb ch fr nw n0 n1 n2 n3 n4 n5 n6 n7 n8 kp tr ac ah se tx rf mo ar1 ar7 ar10 ar11 ar24 ar26 ar27 ar28 ar29 ar30 ar31 ar32 ar33 ar34 ar35 ar41 ar42 ar43 ar44 ar49 ar52 ar54 o : Nat} {H : Heap} {locs : List Loc} (hPx : va_P g.1 vwCl (va_pl Lx f) H) (hDx : va_D (fun q : Nat => s.heap.size ≤ q) (va_pl Lx f)) (hPm : va_P g.1 vwCl (va_pl Lm f) H) (hDm : va_D (fun q : Nat => s.heap.size ≤ q) (va_pl Lm f)) (hdis : ∀ a, a ∈ Lm → a ∉ Lx) (hS : va_S (fun q : Nat => s.heap.size ≤ q) s.heap H locs) (hX : FX g f Lx x t tb dr co ot dp pa pn pl pb ch fr nw n0 n1 n2 n3 n4 n5 n6 n7 n8 kp tr ac ah se tx rf) (hM : FM g f Lm mo ar1 ar7 ar10 ar11 ar24 ar26 ar27 ar28 ar29 ar30 ar31 ar32 ar33 ar34 ar35 ar41 ar42 ar43 ar44 ar49 ar52 ar54) {ls : Array Slot} (hl : lv_has ls 7 [(4, .int 0), (3, .ref o), (2, .ref mo), (1, .ref x), (0, .ref b)]) : W p l e room_1 s m #[Value.ref b] below meth c H locs 1000 200000 (lw_Z below #[Value.ref b] s) (F0 m 1247 ls []) := by
  obtain ⟨hx, hb, hr, hml, hown, hts0, hXs, hbl, hlocks, hgv⟩ := C0
  have hown : s.vm.findClass "RulerWordLaw" = some m.cls := hown
  have hts := hts1 hts0
  have hA : ∀ q, s.heap.size ≤ q → (fun q : Nat => s.heap.size ≤ q) q := fun _ h => h
  have hbA : ¬ (fun q : Nat => s.heap.size ≤ q) b := Nat.not_le.mpr hbl
  have hCE : lw_At p s m meth c b 6 xs := ⟨hx, hb, hr, hml, hown, hts0, hXs, hbl, hlocks, hgv⟩
  obtain ⟨hm_x, hf_x, hm_t, hf_t, hm_tb, hf_tb, hm_dr, hf_dr, hm_co, hf_co, hm_dp, hf_dp, hm_pa, hf_pa, hm_pn, hf_pn, hm_pl, hf_pl, hm_nw, hf_nw, hm_ac, hf_ac, hm_rf, hf_rf⟩ := hX
  obtain ⟨hm_mo, hf_mo, hm_ar1, hf_ar1, hm_ar7, hf_ar7, hm_ar11, hf_ar11, hm_ar49, hf_ar49⟩ := hM
  refine lv_aload_n hx hb dL_law_1247 rfl (lv_at hl 3 rfl) ?_
  refine call_k (run_V (rm := { frames := 1, cells := 0, slots := 0, locals := 21 }) hx hb hml hown hts (k_X10_undo l g _ _ _ x t dr co ot dp pn ch fr nw kp tr ac se tx rf ah  hm_x hf_x hm_ac hf_ac) cV_X10_undo wg_1206 ⟨Nat.le_of_ble_eq_true rfl, Nat.le_of_ble_eq_true rfl⟩ hG hE hA hPx hDx hS hm_x hf_x rfl rfl hl.1 (As := []) (rest := []) rfl (Nat.le_of_ble_eq_true rfl) dL_law_1248 ⟨Nat.le_of_ble_eq_true rfl, Nat.le_of_ble_eq_true rfl⟩) hA hDx hS hPm hdis (fun r1 u1 H locs hp2 hPm hS => ?_)
  refine lv_aload_n hx hb dL_law_1251 rfl (lv_at hl 2 rfl) ?_
  refine call_i (run_V (rm := { frames := 0, cells := 0, slots := 0, locals := 0 }) hx hb hml hown hts (k_X11_undo l g _ _ _ mo ar1 ar7 ar10 ar11 ar24 ar26 ar27 ar28 ar29 ar30 ar31 ar32 ar33 ar34 ar35 ar41 ar42 ar43 ar44 ar49 ar52 ar54  hm_mo hf_mo) cV_X11_undo wg_1735 ⟨Nat.le_of_ble_eq_true rfl, Nat.le_of_ble_eq_true rfl⟩ hG hE hA hPm hDm hS hm_mo hf_mo rfl rfl hl.1 (As := []) (rest := [.int r1]) rfl (Nat.le_of_ble_eq_true rfl) dL_law_1252 ⟨Nat.le_of_ble_eq_true rfl, Nat.le_of_ble_eq_true rfl⟩) hA hDm hS (fun r3 L2 f2 H locs hp4 hP2 hD2 hS => ?_)
  refine lv_icmp_eq (tgt := 1361) hx hb dL_law_1255 (by decide) (fun c5 => ?_) (fun c5 => absurd (hp2.trans hp4.symm) c5)
  exact law_end l hCE (Nat.le_of_ble_eq_true rfl) (Nat.le_of_ble_eq_true rfl) hS (lv_sub hl [0, 4] rfl)

set_option maxHeartbeats 4000000 in
theorem law_c33 {p : Program} {e : Env} {s : State} {m : MethodId} {below : List Frame} {meth : Method} {c : Code} (l : Launch) {b : Nat} {xs : Nat → Int32} (C0 : lw_At p s m meth c b 6 xs) (htr : l.stackTraces = false) {g : GG} (hG : GK g s) (hE : SW g (fun q : Nat => s.heap.size ≤ q) s s.heap) {Lx Lm : List Nat} {f : HP} {x t tb dr co ot dp pa pn pl pb ch fr nw n0 n1 n2 n3 n4 n5 n6 n7 n8 kp tr ac ah se tx rf mo ar1 ar7 ar10 ar11 ar24 ar26 ar27 ar28 ar29 ar30 ar31 ar32 ar33 ar34 ar35 ar41 ar42 ar43 ar44 ar49 ar52 ar54 o : Nat} {H : Heap} {locs : List Loc} (hPx : va_P g.1 vwCl (va_pl Lx f) H) (hDx : va_D (fun q : Nat => s.heap.size ≤ q) (va_pl Lx f)) (hPm : va_P g.1 vwCl (va_pl Lm f) H) (hDm : va_D (fun q : Nat => s.heap.size ≤ q) (va_pl Lm f)) (hdis : ∀ a, a ∈ Lm → a ∉ Lx) (hS : va_S (fun q : Nat => s.heap.size ≤ q) s.heap H locs) (hX : FX g f Lx x t tb dr co ot dp pa pn pl pb ch fr nw n0 n1 n2 n3 n4 n5 n6 n7 n8 kp tr ac ah se tx rf) (hM : FM g f Lm mo ar1 ar7 ar10 ar11 ar24 ar26 ar27 ar28 ar29 ar30 ar31 ar32 ar33 ar34 ar35 ar41 ar42 ar43 ar44 ar49 ar52 ar54) {ls : Array Slot} (hl : lv_has ls 7 [(4, .int 0), (3, .ref o), (2, .ref mo), (1, .ref x), (0, .ref b)]) : W p l e room_1 s m #[Value.ref b] below meth c H locs 1000 200000 (lw_Z below #[Value.ref b] s) (F0 m 1260 ls []) := by
  obtain ⟨hx, hb, hr, hml, hown, hts0, hXs, hbl, hlocks, hgv⟩ := C0
  have hown : s.vm.findClass "RulerWordLaw" = some m.cls := hown
  have hts := hts1 hts0
  have hA : ∀ q, s.heap.size ≤ q → (fun q : Nat => s.heap.size ≤ q) q := fun _ h => h
  have hbA : ¬ (fun q : Nat => s.heap.size ≤ q) b := Nat.not_le.mpr hbl
  have hCE : lw_At p s m meth c b 6 xs := ⟨hx, hb, hr, hml, hown, hts0, hXs, hbl, hlocks, hgv⟩
  obtain ⟨hm_x, hf_x, hm_t, hf_t, hm_tb, hf_tb, hm_dr, hf_dr, hm_co, hf_co, hm_dp, hf_dp, hm_pa, hf_pa, hm_pn, hf_pn, hm_pl, hf_pl, hm_nw, hf_nw, hm_ac, hf_ac, hm_rf, hf_rf⟩ := hX
  obtain ⟨hm_mo, hf_mo, hm_ar1, hf_ar1, hm_ar7, hf_ar7, hm_ar11, hf_ar11, hm_ar49, hf_ar49⟩ := hM
  refine lv_aload_n hx hb dL_law_1260 rfl (lv_at hl 3 rfl) ?_
  refine call_k (run_V (rm := { frames := 0, cells := 0, slots := 0, locals := 0 }) hx hb hml hown hts (k_X10_image l g _ _ _ x t dr co ot dp pn ch fr nw kp tr ac se tx rf  hm_x hf_x) cV_X10_image wg_1214 ⟨Nat.le_of_ble_eq_true rfl, Nat.le_of_ble_eq_true rfl⟩ hG hE hA hPx hDx hS hm_x hf_x rfl rfl hl.1 (As := []) (rest := []) rfl (Nat.le_of_ble_eq_true rfl) dL_law_1261 ⟨Nat.le_of_ble_eq_true rfl, Nat.le_of_ble_eq_true rfl⟩) hA hDx hS hPm hdis (fun r1 u1 H locs hp2 hPm hS => ?_)
  refine lv_aload_n hx hb dL_law_1264 rfl (lv_at hl 2 rfl) ?_
  refine call_i (run_V (rm := { frames := 0, cells := 0, slots := 0, locals := 0 }) hx hb hml hown hts (k_X11_image l g _ _ _ mo ar1 ar7 ar10 ar11 ar24 ar26 ar27 ar28 ar29 ar30 ar31 ar32 ar33 ar34 ar35 ar41 ar42 ar43 ar44 ar49 ar52 ar54  hm_mo hf_mo) cV_X11_image wg_1739 ⟨Nat.le_of_ble_eq_true rfl, Nat.le_of_ble_eq_true rfl⟩ hG hE hA hPm hDm hS hm_mo hf_mo rfl rfl hl.1 (As := []) (rest := [.int r1]) rfl (Nat.le_of_ble_eq_true rfl) dL_law_1265 ⟨Nat.le_of_ble_eq_true rfl, Nat.le_of_ble_eq_true rfl⟩) hA hDm hS (fun r3 L2 f2 H locs hp4 hP2 hD2 hS => ?_)
  refine lv_icmp_eq (tgt := 1361) hx hb dL_law_1268 (by decide) (fun c5 => ?_) (fun c5 => absurd (hp2.trans hp4.symm) c5)
  exact law_end l hCE (Nat.le_of_ble_eq_true rfl) (Nat.le_of_ble_eq_true rfl) hS (lv_sub hl [0, 4] rfl)

set_option maxHeartbeats 4000000 in
theorem law_c34 {p : Program} {e : Env} {s : State} {m : MethodId} {below : List Frame} {meth : Method} {c : Code} (l : Launch) {b : Nat} {xs : Nat → Int32} (C0 : lw_At p s m meth c b 6 xs) (htr : l.stackTraces = false) {g : GG} (hG : GK g s) (hE : SW g (fun q : Nat => s.heap.size ≤ q) s s.heap) {Lx Lm : List Nat} {f : HP} {x t tb dr co ot dp pa pn pl pb ch fr nw n0 n1 n2 n3 n4 n5 n6 n7 n8 kp tr ac ah se tx rf mo ar1 ar7 ar10 ar11 ar24 ar26 ar27 ar28 ar29 ar30 ar31 ar32 ar33 ar34 ar35 ar41 ar42 ar43 ar44 ar49 ar52 ar54 o : Nat} {H : Heap} {locs : List Loc} (hPx : va_P g.1 vwCl (va_pl Lx f) H) (hDx : va_D (fun q : Nat => s.heap.size ≤ q) (va_pl Lx f)) (hPm : va_P g.1 vwCl (va_pl Lm f) H) (hDm : va_D (fun q : Nat => s.heap.size ≤ q) (va_pl Lm f)) (hdis : ∀ a, a ∈ Lm → a ∉ Lx) (hS : va_S (fun q : Nat => s.heap.size ≤ q) s.heap H locs) (hX : FX g f Lx x t tb dr co ot dp pa pn pl pb ch fr nw n0 n1 n2 n3 n4 n5 n6 n7 n8 kp tr ac ah se tx rf) (hM : FM g f Lm mo ar1 ar7 ar10 ar11 ar24 ar26 ar27 ar28 ar29 ar30 ar31 ar32 ar33 ar34 ar35 ar41 ar42 ar43 ar44 ar49 ar52 ar54) {ls : Array Slot} (hl : lv_has ls 7 [(4, .int 0), (3, .ref o), (2, .ref mo), (1, .ref x), (0, .ref b)]) : W p l e room_1 s m #[Value.ref b] below meth c H locs 1000 200000 (lw_Z below #[Value.ref b] s) (F0 m 1273 ls []) := by
  obtain ⟨hx, hb, hr, hml, hown, hts0, hXs, hbl, hlocks, hgv⟩ := C0
  have hown : s.vm.findClass "RulerWordLaw" = some m.cls := hown
  have hts := hts1 hts0
  have hA : ∀ q, s.heap.size ≤ q → (fun q : Nat => s.heap.size ≤ q) q := fun _ h => h
  have hbA : ¬ (fun q : Nat => s.heap.size ≤ q) b := Nat.not_le.mpr hbl
  have hCE : lw_At p s m meth c b 6 xs := ⟨hx, hb, hr, hml, hown, hts0, hXs, hbl, hlocks, hgv⟩
  obtain ⟨hm_x, hf_x, hm_t, hf_t, hm_tb, hf_tb, hm_dr, hf_dr, hm_co, hf_co, hm_dp, hf_dp, hm_pa, hf_pa, hm_pn, hf_pn, hm_pl, hf_pl, hm_nw, hf_nw, hm_ac, hf_ac, hm_rf, hf_rf⟩ := hX
  obtain ⟨hm_mo, hf_mo, hm_ar1, hf_ar1, hm_ar7, hf_ar7, hm_ar11, hf_ar11, hm_ar49, hf_ar49⟩ := hM
  refine lv_aload_n hx hb dL_law_1273 rfl (lv_at hl 3 rfl) ?_
  refine call_k (run_V (rm := { frames := 0, cells := 0, slots := 0, locals := 0 }) hx hb hml hown hts (k_X10_back l g _ _ _ x t dr co ot dp pn ch fr nw kp tr ac se tx rf  hm_x hf_x) cV_X10_back wg_1219 ⟨Nat.le_of_ble_eq_true rfl, Nat.le_of_ble_eq_true rfl⟩ hG hE hA hPx hDx hS hm_x hf_x rfl rfl hl.1 (As := []) (rest := []) rfl (Nat.le_of_ble_eq_true rfl) dL_law_1274 ⟨Nat.le_of_ble_eq_true rfl, Nat.le_of_ble_eq_true rfl⟩) hA hDx hS hPm hdis (fun r1 u1 H locs hp2 hPm hS => ?_)
  refine lv_aload_n hx hb dL_law_1277 rfl (lv_at hl 2 rfl) ?_
  refine call_i (run_V (rm := { frames := 0, cells := 0, slots := 0, locals := 0 }) hx hb hml hown hts (k_X11_back l g _ _ _ mo ar1 ar7 ar10 ar11 ar24 ar26 ar27 ar28 ar29 ar30 ar31 ar32 ar33 ar34 ar35 ar41 ar42 ar43 ar44 ar49 ar52 ar54  hm_mo hf_mo) cV_X11_back wg_1743 ⟨Nat.le_of_ble_eq_true rfl, Nat.le_of_ble_eq_true rfl⟩ hG hE hA hPm hDm hS hm_mo hf_mo rfl rfl hl.1 (As := []) (rest := [.int r1]) rfl (Nat.le_of_ble_eq_true rfl) dL_law_1278 ⟨Nat.le_of_ble_eq_true rfl, Nat.le_of_ble_eq_true rfl⟩) hA hDm hS (fun r3 L2 f2 H locs hp4 hP2 hD2 hS => ?_)
  refine lv_icmp_eq (tgt := 1361) hx hb dL_law_1281 (by decide) (fun c5 => ?_) (fun c5 => absurd (hp2.trans hp4.symm) c5)
  exact law_end l hCE (Nat.le_of_ble_eq_true rfl) (Nat.le_of_ble_eq_true rfl) hS (lv_sub hl [0, 4] rfl)

set_option maxHeartbeats 4000000 in
theorem law_c35 {p : Program} {e : Env} {s : State} {m : MethodId} {below : List Frame} {meth : Method} {c : Code} (l : Launch) {b : Nat} {xs : Nat → Int32} (C0 : lw_At p s m meth c b 6 xs) (htr : l.stackTraces = false) {g : GG} (hG : GK g s) (hE : SW g (fun q : Nat => s.heap.size ≤ q) s s.heap) {Lx Lm : List Nat} {f : HP} {x t tb dr co ot dp pa pn pl pb ch fr nw n0 n1 n2 n3 n4 n5 n6 n7 n8 kp tr ac ah se tx rf mo ar1 ar7 ar10 ar11 ar24 ar26 ar27 ar28 ar29 ar30 ar31 ar32 ar33 ar34 ar35 ar41 ar42 ar43 ar44 ar49 ar52 ar54 o : Nat} {H : Heap} {locs : List Loc} (hPx : va_P g.1 vwCl (va_pl Lx f) H) (hDx : va_D (fun q : Nat => s.heap.size ≤ q) (va_pl Lx f)) (hPm : va_P g.1 vwCl (va_pl Lm f) H) (hDm : va_D (fun q : Nat => s.heap.size ≤ q) (va_pl Lm f)) (hdis : ∀ a, a ∈ Lm → a ∉ Lx) (hS : va_S (fun q : Nat => s.heap.size ≤ q) s.heap H locs) (hX : FX g f Lx x t tb dr co ot dp pa pn pl pb ch fr nw n0 n1 n2 n3 n4 n5 n6 n7 n8 kp tr ac ah se tx rf) (hM : FM g f Lm mo ar1 ar7 ar10 ar11 ar24 ar26 ar27 ar28 ar29 ar30 ar31 ar32 ar33 ar34 ar35 ar41 ar42 ar43 ar44 ar49 ar52 ar54) {ls : Array Slot} (hl : lv_has ls 7 [(4, .int 0), (3, .ref o), (2, .ref mo), (1, .ref x), (0, .ref b)]) : W p l e room_1 s m #[Value.ref b] below meth c H locs 1000 200000 (lw_Z below #[Value.ref b] s) (F0 m 1286 ls []) := by
  obtain ⟨hx, hb, hr, hml, hown, hts0, hXs, hbl, hlocks, hgv⟩ := C0
  have hown : s.vm.findClass "RulerWordLaw" = some m.cls := hown
  have hts := hts1 hts0
  have hA : ∀ q, s.heap.size ≤ q → (fun q : Nat => s.heap.size ≤ q) q := fun _ h => h
  have hbA : ¬ (fun q : Nat => s.heap.size ≤ q) b := Nat.not_le.mpr hbl
  have hCE : lw_At p s m meth c b 6 xs := ⟨hx, hb, hr, hml, hown, hts0, hXs, hbl, hlocks, hgv⟩
  obtain ⟨hm_x, hf_x, hm_t, hf_t, hm_tb, hf_tb, hm_dr, hf_dr, hm_co, hf_co, hm_dp, hf_dp, hm_pa, hf_pa, hm_pn, hf_pn, hm_pl, hf_pl, hm_nw, hf_nw, hm_ac, hf_ac, hm_rf, hf_rf⟩ := hX
  obtain ⟨hm_mo, hf_mo, hm_ar1, hf_ar1, hm_ar7, hf_ar7, hm_ar11, hf_ar11, hm_ar49, hf_ar49⟩ := hM
  refine lv_aload_n hx hb dL_law_1286 rfl (lv_at hl 3 rfl) ?_
  refine lv_aload_n hx hb dL_law_1287 rfl (lv_at hl 4 rfl) ?_
  refine lv_iload hx hb dL_law_1288 (lv_at hl 0 rfl) ?_
  refine lv_iconst (v := 1) hx hb dL_law_1290 (by decide) ?_
  refine lv_iadd hx hb dL_law_1291 ?_
  refine lv_topi (fun x1 ex1 => ?_)
  obtain rfl : x1 = 1 := ex1.trans (by decide)
  refine va_sld hx hb hXs hbl hbA hS (i := 1) (by unfold vp_in; decide) dL_law_1292 ?_
  refine lv_topi (fun x2 ex2 => ?_)
  obtain rfl : x2 = xs 1 := ex2
  refine call_k (run_V (rm := { frames := 0, cells := 0, slots := 0, locals := 0 }) hx hb hml hown hts (k_X10_status l g _ _ _ x t dr co ot dp pn ch fr nw kp tr ac se tx rf (xs 1) hm_x hf_x hm_rf hf_rf) cV_X10_status wg_1223 ⟨Nat.le_of_ble_eq_true rfl, Nat.le_of_ble_eq_true rfl⟩ hG hE hA hPx hDx hS hm_x hf_x rfl rfl hl.1 (As := [.int (xs 1)]) (rest := []) rfl (Nat.le_of_ble_eq_true rfl) dL_law_1293 ⟨Nat.le_of_ble_eq_true rfl, Nat.le_of_ble_eq_true rfl⟩) hA hDx hS hPm hdis (fun r3 u1 H locs hp4 hPm hS => ?_)
  refine lv_aload_n hx hb dL_law_1296 rfl (lv_at hl 2 rfl) ?_
  refine lv_aload_n hx hb dL_law_1297 rfl (lv_at hl 4 rfl) ?_
  refine lv_iload hx hb dL_law_1298 (lv_at hl 0 rfl) ?_
  refine lv_iconst (v := 1) hx hb dL_law_1300 (by decide) ?_
  refine lv_iadd hx hb dL_law_1301 ?_
  refine lv_topi (fun x5 ex5 => ?_)
  obtain rfl : x5 = 1 := ex5.trans (by decide)
  refine va_sld hx hb hXs hbl hbA hS (i := 1) (by unfold vp_in; decide) dL_law_1302 ?_
  refine lv_topi (fun x6 ex6 => ?_)
  obtain rfl : x6 = xs 1 := ex6
  refine call_i (run_V (rm := { frames := 1, cells := 0, slots := 0, locals := 25 }) hx hb hml hown hts (k_X11_status l g _ _ _ mo ar1 ar7 ar10 ar11 ar24 ar26 ar27 ar28 ar29 ar30 ar31 ar32 ar33 ar34 ar35 ar41 ar42 ar43 ar44 ar49 ar52 ar54 (xs 1) hm_mo hf_mo hm_ar49 hf_ar49) cV_X11_status wg_1747 ⟨Nat.le_of_ble_eq_true rfl, Nat.le_of_ble_eq_true rfl⟩ hG hE hA hPm hDm hS hm_mo hf_mo rfl rfl hl.1 (As := [.int (xs 1)]) (rest := [.int r3]) rfl (Nat.le_of_ble_eq_true rfl) dL_law_1303 ⟨Nat.le_of_ble_eq_true rfl, Nat.le_of_ble_eq_true rfl⟩) hA hDm hS (fun r7 L2 f2 H locs hp8 hP2 hD2 hS => ?_)
  refine lv_icmp_eq (tgt := 1361) hx hb dL_law_1306 (by decide) (fun c9 => ?_) (fun c9 => absurd (hp4.trans ((statMV _).trans hp8.symm)) c9)
  exact law_end l hCE (Nat.le_of_ble_eq_true rfl) (Nat.le_of_ble_eq_true rfl) hS (lv_sub hl [0, 4] rfl)

set_option maxHeartbeats 4000000 in
theorem law_c36 {p : Program} {e : Env} {s : State} {m : MethodId} {below : List Frame} {meth : Method} {c : Code} (l : Launch) {b : Nat} {xs : Nat → Int32} (C0 : lw_At p s m meth c b 6 xs) (htr : l.stackTraces = false) {g : GG} (hG : GK g s) (hE : SW g (fun q : Nat => s.heap.size ≤ q) s s.heap) {Lx Lm : List Nat} {f : HP} {x t tb dr co ot dp pa pn pl pb ch fr nw n0 n1 n2 n3 n4 n5 n6 n7 n8 kp tr ac ah se tx rf mo ar1 ar7 ar10 ar11 ar24 ar26 ar27 ar28 ar29 ar30 ar31 ar32 ar33 ar34 ar35 ar41 ar42 ar43 ar44 ar49 ar52 ar54 o : Nat} {H : Heap} {locs : List Loc} (hPx : va_P g.1 vwCl (va_pl Lx f) H) (hDx : va_D (fun q : Nat => s.heap.size ≤ q) (va_pl Lx f)) (hPm : va_P g.1 vwCl (va_pl Lm f) H) (hDm : va_D (fun q : Nat => s.heap.size ≤ q) (va_pl Lm f)) (hdis : ∀ a, a ∈ Lm → a ∉ Lx) (hS : va_S (fun q : Nat => s.heap.size ≤ q) s.heap H locs) (hX : FX g f Lx x t tb dr co ot dp pa pn pl pb ch fr nw n0 n1 n2 n3 n4 n5 n6 n7 n8 kp tr ac ah se tx rf) (hM : FM g f Lm mo ar1 ar7 ar10 ar11 ar24 ar26 ar27 ar28 ar29 ar30 ar31 ar32 ar33 ar34 ar35 ar41 ar42 ar43 ar44 ar49 ar52 ar54) {ls : Array Slot} (hl : lv_has ls 7 [(4, .int 0), (3, .ref o), (2, .ref mo), (1, .ref x), (0, .ref b)]) : W p l e room_1 s m #[Value.ref b] below meth c H locs 1000 200000 (lw_Z below #[Value.ref b] s) (F0 m 1311 ls []) := by
  obtain ⟨hx, hb, hr, hml, hown, hts0, hXs, hbl, hlocks, hgv⟩ := C0
  have hown : s.vm.findClass "RulerWordLaw" = some m.cls := hown
  have hts := hts1 hts0
  have hA : ∀ q, s.heap.size ≤ q → (fun q : Nat => s.heap.size ≤ q) q := fun _ h => h
  have hbA : ¬ (fun q : Nat => s.heap.size ≤ q) b := Nat.not_le.mpr hbl
  have hCE : lw_At p s m meth c b 6 xs := ⟨hx, hb, hr, hml, hown, hts0, hXs, hbl, hlocks, hgv⟩
  obtain ⟨hm_x, hf_x, hm_t, hf_t, hm_tb, hf_tb, hm_dr, hf_dr, hm_co, hf_co, hm_dp, hf_dp, hm_pa, hf_pa, hm_pn, hf_pn, hm_pl, hf_pl, hm_nw, hf_nw, hm_ac, hf_ac, hm_rf, hf_rf⟩ := hX
  obtain ⟨hm_mo, hf_mo, hm_ar1, hf_ar1, hm_ar7, hf_ar7, hm_ar11, hf_ar11, hm_ar49, hf_ar49⟩ := hM
  refine lv_aload_n hx hb dL_law_1311 rfl (lv_at hl 3 rfl) ?_
  refine lv_aload_n hx hb dL_law_1312 rfl (lv_at hl 4 rfl) ?_
  refine lv_iload hx hb dL_law_1313 (lv_at hl 0 rfl) ?_
  refine lv_iconst (v := 1) hx hb dL_law_1315 (by decide) ?_
  refine lv_iadd hx hb dL_law_1316 ?_
  refine lv_topi (fun x1 ex1 => ?_)
  obtain rfl : x1 = 1 := ex1.trans (by decide)
  refine va_sld hx hb hXs hbl hbA hS (i := 1) (by unfold vp_in; decide) dL_law_1317 ?_
  refine lv_topi (fun x2 ex2 => ?_)
  obtain rfl : x2 = xs 1 := ex2
  refine call_k (run_V (rm := { frames := 0, cells := 0, slots := 0, locals := 0 }) hx hb hml hown hts (k_X10_most l g _ _ _ x t dr co ot dp pn ch fr nw kp tr ac se tx rf (xs 1) hm_x hf_x) cV_X10_most wg_1227 ⟨Nat.le_of_ble_eq_true rfl, Nat.le_of_ble_eq_true rfl⟩ hG hE hA hPx hDx hS hm_x hf_x rfl rfl hl.1 (As := [.int (xs 1)]) (rest := []) rfl (Nat.le_of_ble_eq_true rfl) dL_law_1318 ⟨Nat.le_of_ble_eq_true rfl, Nat.le_of_ble_eq_true rfl⟩) hA hDx hS hPm hdis (fun r3 u1 H locs hp4 hPm hS => ?_)
  refine lv_aload_n hx hb dL_law_1321 rfl (lv_at hl 2 rfl) ?_
  refine lv_aload_n hx hb dL_law_1322 rfl (lv_at hl 4 rfl) ?_
  refine lv_iload hx hb dL_law_1323 (lv_at hl 0 rfl) ?_
  refine lv_iconst (v := 1) hx hb dL_law_1325 (by decide) ?_
  refine lv_iadd hx hb dL_law_1326 ?_
  refine lv_topi (fun x5 ex5 => ?_)
  obtain rfl : x5 = 1 := ex5.trans (by decide)
  refine va_sld hx hb hXs hbl hbA hS (i := 1) (by unfold vp_in; decide) dL_law_1327 ?_
  refine lv_topi (fun x6 ex6 => ?_)
  obtain rfl : x6 = xs 1 := ex6
  refine call_i (run_V (rm := { frames := 0, cells := 0, slots := 0, locals := 0 }) hx hb hml hown hts (k_X11_most l g _ _ _ mo ar1 ar7 ar10 ar11 ar24 ar26 ar27 ar28 ar29 ar30 ar31 ar32 ar33 ar34 ar35 ar41 ar42 ar43 ar44 ar49 ar52 ar54 (xs 1) hm_mo hf_mo) cV_X11_most wg_1939 ⟨Nat.le_of_ble_eq_true rfl, Nat.le_of_ble_eq_true rfl⟩ hG hE hA hPm hDm hS hm_mo hf_mo rfl rfl hl.1 (As := [.int (xs 1)]) (rest := [.int r3]) rfl (Nat.le_of_ble_eq_true rfl) dL_law_1328 ⟨Nat.le_of_ble_eq_true rfl, Nat.le_of_ble_eq_true rfl⟩) hA hDm hS (fun r7 L2 f2 H locs hp8 hP2 hD2 hS => ?_)
  refine lv_icmp_eq (tgt := 1361) hx hb dL_law_1331 (by decide) (fun c9 => ?_) (fun c9 => absurd (hp4.trans hp8.symm) c9)
  exact law_end l hCE (Nat.le_of_ble_eq_true rfl) (Nat.le_of_ble_eq_true rfl) hS (lv_sub hl [0, 4] rfl)

set_option maxHeartbeats 4000000 in
theorem law_c37 {p : Program} {e : Env} {s : State} {m : MethodId} {below : List Frame} {meth : Method} {c : Code} (l : Launch) {b : Nat} {xs : Nat → Int32} (C0 : lw_At p s m meth c b 6 xs) (htr : l.stackTraces = false) {g : GG} (hG : GK g s) (hE : SW g (fun q : Nat => s.heap.size ≤ q) s s.heap) {Lx Lm : List Nat} {f : HP} {x t tb dr co ot dp pa pn pl pb ch fr nw n0 n1 n2 n3 n4 n5 n6 n7 n8 kp tr ac ah se tx rf mo ar1 ar7 ar10 ar11 ar24 ar26 ar27 ar28 ar29 ar30 ar31 ar32 ar33 ar34 ar35 ar41 ar42 ar43 ar44 ar49 ar52 ar54 o : Nat} {H : Heap} {locs : List Loc} (hPx : va_P g.1 vwCl (va_pl Lx f) H) (hDx : va_D (fun q : Nat => s.heap.size ≤ q) (va_pl Lx f)) (hPm : va_P g.1 vwCl (va_pl Lm f) H) (hDm : va_D (fun q : Nat => s.heap.size ≤ q) (va_pl Lm f)) (hdis : ∀ a, a ∈ Lm → a ∉ Lx) (hS : va_S (fun q : Nat => s.heap.size ≤ q) s.heap H locs) (hX : FX g f Lx x t tb dr co ot dp pa pn pl pb ch fr nw n0 n1 n2 n3 n4 n5 n6 n7 n8 kp tr ac ah se tx rf) (hM : FM g f Lm mo ar1 ar7 ar10 ar11 ar24 ar26 ar27 ar28 ar29 ar30 ar31 ar32 ar33 ar34 ar35 ar41 ar42 ar43 ar44 ar49 ar52 ar54) {ls : Array Slot} (hl : lv_has ls 7 [(4, .int 0), (3, .ref o), (2, .ref mo), (1, .ref x), (0, .ref b)]) : W p l e room_1 s m #[Value.ref b] below meth c H locs 1000 200000 (lw_Z below #[Value.ref b] s) (F0 m 1336 ls []) := by
  obtain ⟨hx, hb, hr, hml, hown, hts0, hXs, hbl, hlocks, hgv⟩ := C0
  have hown : s.vm.findClass "RulerWordLaw" = some m.cls := hown
  have hts := hts1 hts0
  have hA : ∀ q, s.heap.size ≤ q → (fun q : Nat => s.heap.size ≤ q) q := fun _ h => h
  have hbA : ¬ (fun q : Nat => s.heap.size ≤ q) b := Nat.not_le.mpr hbl
  have hCE : lw_At p s m meth c b 6 xs := ⟨hx, hb, hr, hml, hown, hts0, hXs, hbl, hlocks, hgv⟩
  obtain ⟨hm_x, hf_x, hm_t, hf_t, hm_tb, hf_tb, hm_dr, hf_dr, hm_co, hf_co, hm_dp, hf_dp, hm_pa, hf_pa, hm_pn, hf_pn, hm_pl, hf_pl, hm_nw, hf_nw, hm_ac, hf_ac, hm_rf, hf_rf⟩ := hX
  obtain ⟨hm_mo, hf_mo, hm_ar1, hf_ar1, hm_ar7, hf_ar7, hm_ar11, hf_ar11, hm_ar49, hf_ar49⟩ := hM
  refine lv_aload_n hx hb dL_law_1336 rfl (lv_at hl 3 rfl) ?_
  refine lv_aload_n hx hb dL_law_1337 rfl (lv_at hl 4 rfl) ?_
  refine lv_iload hx hb dL_law_1338 (lv_at hl 0 rfl) ?_
  refine lv_iconst (v := 1) hx hb dL_law_1340 (by decide) ?_
  refine lv_iadd hx hb dL_law_1341 ?_
  refine lv_topi (fun x1 ex1 => ?_)
  obtain rfl : x1 = 1 := ex1.trans (by decide)
  refine va_sld hx hb hXs hbl hbA hS (i := 1) (by unfold vp_in; decide) dL_law_1342 ?_
  refine lv_topi (fun x2 ex2 => ?_)
  obtain rfl : x2 = xs 1 := ex2
  refine call_k (run_V (rm := { frames := 0, cells := 0, slots := 0, locals := 0 }) hx hb hml hown hts (k_X10_count l g _ _ _ x t dr co ot dp pn ch fr nw kp tr ac se tx rf tb ah n0 n1 n2 n3 n4 n5 n6 n7 n8 (xs 1) hm_x hf_x hm_t hf_t hm_ac hf_ac hm_nw hf_nw) cV_X10_count wg_1252 ⟨Nat.le_of_ble_eq_true rfl, Nat.le_of_ble_eq_true rfl⟩ hG hE hA hPx hDx hS hm_x hf_x rfl rfl hl.1 (As := [.int (xs 1)]) (rest := []) rfl (Nat.le_of_ble_eq_true rfl) dL_law_1343 ⟨Nat.le_of_ble_eq_true rfl, Nat.le_of_ble_eq_true rfl⟩) hA hDx hS hPm hdis (fun r3 u1 H locs hp4 hPm hS => ?_)
  refine lv_aload_n hx hb dL_law_1346 rfl (lv_at hl 2 rfl) ?_
  refine lv_aload_n hx hb dL_law_1347 rfl (lv_at hl 4 rfl) ?_
  refine lv_iload hx hb dL_law_1348 (lv_at hl 0 rfl) ?_
  refine lv_iconst (v := 1) hx hb dL_law_1350 (by decide) ?_
  refine lv_iadd hx hb dL_law_1351 ?_
  refine lv_topi (fun x5 ex5 => ?_)
  obtain rfl : x5 = 1 := ex5.trans (by decide)
  refine va_sld hx hb hXs hbl hbA hS (i := 1) (by unfold vp_in; decide) dL_law_1352 ?_
  refine lv_topi (fun x6 ex6 => ?_)
  obtain rfl : x6 = xs 1 := ex6
  refine call_i (run_V (rm := { frames := 0, cells := 0, slots := 0, locals := 0 }) hx hb hml hown hts (k_X11_count l g _ _ _ mo ar1 ar7 ar10 ar11 ar24 ar26 ar27 ar28 ar29 ar30 ar31 ar32 ar33 ar34 ar35 ar41 ar42 ar43 ar44 ar49 ar52 ar54 (xs 1) hm_mo hf_mo) cV_X11_count wg_1951 ⟨Nat.le_of_ble_eq_true rfl, Nat.le_of_ble_eq_true rfl⟩ hG hE hA hPm hDm hS hm_mo hf_mo rfl rfl hl.1 (As := [.int (xs 1)]) (rest := [.int r3]) rfl (Nat.le_of_ble_eq_true rfl) dL_law_1353 ⟨Nat.le_of_ble_eq_true rfl, Nat.le_of_ble_eq_true rfl⟩) hA hDm hS (fun r7 L2 f2 H locs hp8 hP2 hD2 hS => ?_)
  refine lv_icmp_eq (tgt := 1361) hx hb dL_law_1356 (by decide) (fun c9 => ?_) (fun c9 => absurd (hp4.trans hp8.symm) c9)
  exact law_end l hCE (Nat.le_of_ble_eq_true rfl) (Nat.le_of_ble_eq_true rfl) hS (lv_sub hl [0, 4] rfl)
