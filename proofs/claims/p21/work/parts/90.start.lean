set_option maxHeartbeats 4000000 in
set_option maxRecDepth 100000 in
theorem whole_start {p : Program} {e : Env} {s : State} {m : MethodId} {below : List Frame} {meth : Method} {c : Code} (l : Launch) (hflags : l.flags = flags0) {b L : Nat} {xs : Nat → Int32} (hL : L ≤ 3072) (C0 : lw_At p s m meth c b L xs) : W p l e room_1 s m #[Value.ref b] below meth c s.heap [] 0 0 (lw_Z below #[Value.ref b] s) (entryFrame m ([Value.ref b] : List Value).toArray 7) := by
  obtain ⟨hx, hb, hr, hml, hown, hts0, hXs, hbl, hlocks, hgv⟩ := id C0
  have htr : l.stackTraces = false := by unfold Launch.stackTraces; rw [hflags]; decide
  have hown : s.vm.findClass "RulerWordLaw" = some m.cls := hown
  have hts := hts1 hts0
  have hA : ∀ q, s.heap.size ≤ q → (fun q : Nat => s.heap.size ≤ q) q := fun _ h => h
  have hbA : ¬ (fun q : Nat => s.heap.size ≤ q) b := Nat.not_le.mpr hbl
  obtain ⟨g, hG, hE⟩ := world (A := (fun q : Nat => s.heap.size ≤ q)) hts0 hgv (fun a h1 h2 => absurd h1 (Nat.not_lt.mpr h2))
  have hP : va_P g.1 vwCl (va_pl [] (fun _ => .inr (0, []))) s.heap := fun k q h => by simp [va_pl] at h
  have hD : va_D (fun q : Nat => s.heap.size ≤ q) (va_pl [] (fun _ => .inr (0, []))) := ⟨fun i j p q h => by simp [va_pl] at h, fun k q h => by simp [va_pl] at h⟩
  have hS : va_S (fun q : Nat => s.heap.size ≤ q) s.heap s.heap [] := va_S.rf
  have hl := lv_entry ([.ref b]) (n := 7) (Nat.le_of_ble_eq_true rfl)
  rw [lg_entry_eq]
  generalize (lg_sl ([.ref b]) ++ List.replicate (7 - (lg_sl ([.ref b])).length) Slot.unset).toArray = ls at hl ⊢
  have hl : lv_has ls 7 [(0, .ref b)] := hl
  refine pl_new (ci := 9) (fs := [.null, .null, .null, .null, .null, .null, .null, .null, .null, .null, .null, .null, .null, .null, .null, .int 0, .int 0, .long 0]) (C := RX10) (T := TX10) (N := 18) hx hb hts (fun w h => mT (inX10 w h)) tyX10 tyX10_ok hown (hts _ (mT wg_181)) (hts _ (mT wg_182)) (hts _ (mT wg_157)) hG.1 hP hD hS hA rfl dvX10 (Nat.le_of_ble_eq_true rfl) (Nat.le_of_ble_eq_true rfl) dL_law_0 (fun q1 H L2 f3 hq4 hs5 hm6 hf7 ho8 hP hD hS => ?_)
  have hN9 : [q1].Nodup := List.nodup_cons.mpr ⟨fun h => hq4 (nil_in _ h), List.nodup_nil⟩
  have hNs10 : ∀ b, b ∈ [q1] → b ∈ L2 := List.forall_mem_cons.mpr ⟨hm6, fun b hb => hs5 b (nil_in b hb)⟩
  refine lv_dup hx hb dL_law_3 rfl ?_
  refine call_v (run_I (rm := { frames := 3, cells := 254, slots := 7965, locals := 53 }) hx hb hml hown hts (k_X10_init l g _ _ _ q1 hm6 hf7) cI_X10_init wg_183 ⟨Nat.le_of_ble_eq_true rfl, Nat.le_of_ble_eq_true rfl⟩ hG hE hA hP hD hS rfl hl.1 (As := []) (rest := [.ref q1]) rfl (Nat.le_of_ble_eq_true rfl) dL_law_4 ⟨Nat.le_of_ble_eq_true rfl, Nat.le_of_ble_eq_true rfl⟩) hA hD hS (fun L12 f13 H locs hp14 hP hD hS => ?_)
  refine hp14.elim fun q15 zq237 => zq237.elim fun q16 zq238 => zq238.elim fun q17 zq239 => zq239.elim fun q18 zq240 => zq240.elim fun q19 zq241 => zq241.elim fun q20 zq242 => zq242.elim fun q21 zq243 => zq243.elim fun q22 zq244 => zq244.elim fun q23 zq245 => zq245.elim fun q24 zq246 => zq246.elim fun q25 zq247 => zq247.elim fun q26 zq248 => zq248.elim fun q27 zq249 => zq249.elim fun q28 zq250 => zq250.elim fun q29 zq251 => zq251.elim fun q30 zq252 => zq252.elim fun q31 zq253 => zq253.elim fun q32 zq254 => zq254.elim fun q33 zq255 => zq255.elim fun q34 zq256 => zq256.elim fun q35 zq257 => zq257.elim fun q36 zq258 => zq258.elim fun q37 zq259 => zq259.elim fun q38 zq260 => ?_
  clear zq259 zq258 zq257 zq256 zq255 zq254 zq253 zq252 zq251 zq250 zq249 zq248 zq247 zq246 zq245 zq244 zq243 zq242 zq241 zq240 zq239 zq238 zq237 hp14
  refine zq260.elim fun q39 zq261 => zq261.elim fun q40 zq262 => zq262.elim fun q41 zq263 => zq263.elim fun q42 zq264 => zq264.elim fun q43 zq265 => zq265.elim fun q44 zq266 => zq266.elim fun q45 zq267 => zq267.elim fun q46 zq268 => zq268.elim fun q47 zq269 => zq269.elim fun q48 zq270 => zq270.elim fun q49 zq271 => zq271.elim fun q50 zq272 => zq272.elim fun q51 zq273 => zq273.elim fun q52 zq274 => zq274.elim fun q53 zq275 => zq275.elim fun q54 zq276 => zq276.elim fun q55 zq277 => zq277.elim fun q56 zq278 => zq278.elim fun q57 zq279 => zq279.elim fun q58 zq280 => zq280.elim fun q59 zq281 => zq281.elim fun q60 zq282 => zq282.elim fun q61 zq283 => zq283.elim fun q62 zq284 => ?_
  clear zq283 zq282 zq281 zq280 zq279 zq278 zq277 zq276 zq275 zq274 zq273 zq272 zq271 zq270 zq269 zq268 zq267 zq266 zq265 zq264 zq263 zq262 zq261 zq260
  refine zq284.elim fun q63 zq285 => zq285.elim fun q64 zq286 => zq286.elim fun q65 zq287 => zq287.elim fun q66 zq288 => zq288.elim fun q67 zq289 => zq289.elim fun q68 zq290 => zq290.elim fun r69 zq291 => zq291.elim fun aa70 zq292 => zq292.elim fun hn71 zq293 => zq293.elim fun hm72 zq294 => zq294.elim fun hf73 zq295 => zq295.elim fun hn74 zq296 => zq296.elim fun hm75 zq297 => zq297.elim fun hf76 zq298 => zq298.elim fun hn77 zq299 => zq299.elim fun hm78 zq300 => zq300.elim fun hf79 zq301 => zq301.elim fun hn80 zq302 => zq302.elim fun hm81 zq303 => zq303.elim fun hf82 zq304 => zq304.elim fun hn83 zq305 => zq305.elim fun hm84 zq306 => zq306.elim fun hf85 zq307 => zq307.elim fun hn86 zq308 => ?_
  clear zq307 zq306 zq305 zq304 zq303 zq302 zq301 zq300 zq299 zq298 zq297 zq296 zq295 zq294 zq293 zq292 zq291 zq290 zq289 zq288 zq287 zq286 zq285 zq284
  refine zq308.elim fun hm87 zq309 => zq309.elim fun hf88 zq310 => zq310.elim fun hn89 zq311 => zq311.elim fun hm90 zq312 => zq312.elim fun hf91 zq313 => zq313.elim fun hn92 zq314 => zq314.elim fun hm93 zq315 => zq315.elim fun hf94 zq316 => zq316.elim fun hn95 zq317 => zq317.elim fun hm96 zq318 => zq318.elim fun hf97 zq319 => zq319.elim fun hn98 zq320 => zq320.elim fun hm99 zq321 => zq321.elim fun hf100 zq322 => zq322.elim fun hn101 zq323 => zq323.elim fun hm102 zq324 => zq324.elim fun hf103 zq325 => zq325.elim fun hn104 zq326 => zq326.elim fun hm105 zq327 => zq327.elim fun hf106 zq328 => zq328.elim fun hn107 zq329 => zq329.elim fun hm108 zq330 => zq330.elim fun hf109 zq331 => zq331.elim fun hn110 zq332 => ?_
  clear zq331 zq330 zq329 zq328 zq327 zq326 zq325 zq324 zq323 zq322 zq321 zq320 zq319 zq318 zq317 zq316 zq315 zq314 zq313 zq312 zq311 zq310 zq309 zq308
  refine zq332.elim fun hm111 zq333 => zq333.elim fun hf112 zq334 => zq334.elim fun hn113 zq335 => zq335.elim fun hm114 zq336 => zq336.elim fun hf115 zq337 => zq337.elim fun hn116 zq338 => zq338.elim fun hm117 zq339 => zq339.elim fun hf118 zq340 => zq340.elim fun hn119 zq341 => zq341.elim fun hm120 zq342 => zq342.elim fun hf121 zq343 => zq343.elim fun hn122 zq344 => zq344.elim fun hm123 zq345 => zq345.elim fun hf124 zq346 => zq346.elim fun hn125 zq347 => zq347.elim fun hm126 zq348 => zq348.elim fun hf127 zq349 => zq349.elim fun hn128 zq350 => zq350.elim fun hm129 zq351 => zq351.elim fun hf130 zq352 => zq352.elim fun hn131 zq353 => zq353.elim fun hm132 zq354 => zq354.elim fun hf133 zq355 => zq355.elim fun hn134 zq356 => ?_
  clear zq355 zq354 zq353 zq352 zq351 zq350 zq349 zq348 zq347 zq346 zq345 zq344 zq343 zq342 zq341 zq340 zq339 zq338 zq337 zq336 zq335 zq334 zq333 zq332
  refine zq356.elim fun hm135 zq357 => zq357.elim fun hf136 zq358 => zq358.elim fun hn137 zq359 => zq359.elim fun hm138 zq360 => zq360.elim fun hf139 zq361 => zq361.elim fun hn140 zq362 => zq362.elim fun hm141 zq363 => zq363.elim fun hf142 zq364 => zq364.elim fun hn143 zq365 => zq365.elim fun hm144 zq366 => zq366.elim fun hf145 zq367 => zq367.elim fun hn146 zq368 => zq368.elim fun hm147 zq369 => zq369.elim fun hf148 zq370 => zq370.elim fun hn149 zq371 => zq371.elim fun hm150 zq372 => zq372.elim fun hf151 zq373 => zq373.elim fun hn152 zq374 => zq374.elim fun hm153 zq375 => zq375.elim fun hf154 zq376 => zq376.elim fun hn155 zq377 => zq377.elim fun hm156 zq378 => zq378.elim fun hf157 zq379 => zq379.elim fun hn158 zq380 => ?_
  clear zq379 zq378 zq377 zq376 zq375 zq374 zq373 zq372 zq371 zq370 zq369 zq368 zq367 zq366 zq365 zq364 zq363 zq362 zq361 zq360 zq359 zq358 zq357 zq356
  refine zq380.elim fun hm159 zq381 => zq381.elim fun hf160 zq382 => zq382.elim fun hn161 zq383 => zq383.elim fun hm162 zq384 => zq384.elim fun hf163 zq385 => zq385.elim fun hn164 zq386 => zq386.elim fun hm165 zq387 => zq387.elim fun hf166 zq388 => zq388.elim fun hn167 zq389 => zq389.elim fun hm168 zq390 => zq390.elim fun hf169 zq391 => zq391.elim fun hn170 zq392 => zq392.elim fun hm171 zq393 => zq393.elim fun hf172 zq394 => zq394.elim fun hn173 zq395 => zq395.elim fun hm174 zq396 => zq396.elim fun hf175 zq397 => zq397.elim fun hn176 zq398 => zq398.elim fun hm177 zq399 => zq399.elim fun hf178 zq400 => zq400.elim fun hn179 zq401 => zq401.elim fun hm180 zq402 => zq402.elim fun hf181 zq403 => zq403.elim fun hn182 zq404 => ?_
  clear zq403 zq402 zq401 zq400 zq399 zq398 zq397 zq396 zq395 zq394 zq393 zq392 zq391 zq390 zq389 zq388 zq387 zq386 zq385 zq384 zq383 zq382 zq381 zq380
  refine zq404.elim fun hm183 zq405 => zq405.elim fun hf184 zq406 => zq406.elim fun hn185 zq407 => zq407.elim fun hm186 zq408 => zq408.elim fun hf187 zq409 => zq409.elim fun hn188 zq410 => zq410.elim fun hm189 zq411 => zq411.elim fun hf190 zq412 => zq412.elim fun hn191 zq413 => zq413.elim fun hm192 zq414 => zq414.elim fun hf193 zq415 => zq415.elim fun hn194 zq416 => zq416.elim fun hm195 zq417 => zq417.elim fun hf196 zq418 => zq418.elim fun hn197 zq419 => zq419.elim fun hm198 zq420 => zq420.elim fun hf199 zq421 => zq421.elim fun hn200 zq422 => zq422.elim fun hm201 zq423 => zq423.elim fun hf202 zq424 => zq424.elim fun hn203 zq425 => zq425.elim fun hm204 zq426 => zq426.elim fun hf205 zq427 => zq427.elim fun hn206 zq428 => ?_
  clear zq427 zq426 zq425 zq424 zq423 zq422 zq421 zq420 zq419 zq418 zq417 zq416 zq415 zq414 zq413 zq412 zq411 zq410 zq409 zq408 zq407 zq406 zq405 zq404
  refine zq428.elim fun hm207 zq429 => zq429.elim fun hf208 zq430 => zq430.elim fun hn209 zq431 => zq431.elim fun hm210 zq432 => zq432.elim fun hf211 zq433 => zq433.elim fun hn212 zq434 => zq434.elim fun hm213 zq435 => zq435.elim fun hf214 zq436 => zq436.elim fun hn215 zq437 => zq437.elim fun hm216 zq438 => zq438.elim fun hf217 zq439 => zq439.elim fun hn218 zq440 => zq440.elim fun hm219 zq441 => zq441.elim fun hf220 zq442 => zq442.elim fun hn221 zq443 => zq443.elim fun hm222 zq444 => zq444.elim fun hf223 zq445 => zq445.elim fun hn224 zq446 => zq446.elim fun hm225 zq447 => zq447.elim fun hf226 zq448 => zq448.elim fun hn227 zq449 => zq449.elim fun hm228 zq450 => zq450.elim fun hf229 zq451 => zq451.elim fun hn230 zq452 => ?_
  clear zq451 zq450 zq449 zq448 zq447 zq446 zq445 zq444 zq443 zq442 zq441 zq440 zq439 zq438 zq437 zq436 zq435 zq434 zq433 zq432 zq431 zq430 zq429 zq428
  refine zq452.elim fun hm231 zq453 => zq453.elim fun hf232 zq454 => zq454.elim fun hf233 zq455 => zq455.elim fun er234 zq456 => zq456.elim fun fr235 sb236 => ?_
  clear zq456 zq455 zq454 zq453 zq452
  obtain ⟨er234, er234R, er234ne, er234rr⟩ := er234
  have hN457 : [q15, q16, q17, q18, q19, q20, q21, q22, q23, q24, q25, q26, q27, q28, q29, q30, q31, q32, q33, q34, q35, q36, q37, q38, q39, q40, q41, q42, q43, q44, q45, q46, q47, q48, q49, q50, q51, q52, q53, q54, q55, q56, q57, q58, q59, q60, q61, q62, q63, q64, q65, q66, q67, q68, q1].Nodup := nd_app (l := [q15, q16, q17, q18, q19, q20, q21, q22, q23, q24, q25, q26, q27, q28, q29, q30, q31, q32, q33, q34, q35, q36, q37, q38, q39, q40, q41, q42, q43, q44, q45, q46, q47, q48, q49, q50, q51, q52, q53, q54, q55, q56, q57, q58, q59, q60, q61, q62, q63, q64, q65, q66, q67, q68]) (k := [q1]) er234 (List.forall_mem_cons.mpr ⟨hn71, (List.forall_mem_cons.mpr ⟨hn74, (List.forall_mem_cons.mpr ⟨hn77, (List.forall_mem_cons.mpr ⟨hn80, (List.forall_mem_cons.mpr ⟨hn83, (List.forall_mem_cons.mpr ⟨hn86, (List.forall_mem_cons.mpr ⟨hn89, (List.forall_mem_cons.mpr ⟨hn92, (List.forall_mem_cons.mpr ⟨hn95, (List.forall_mem_cons.mpr ⟨hn98, (List.forall_mem_cons.mpr ⟨hn101, (List.forall_mem_cons.mpr ⟨hn104, (List.forall_mem_cons.mpr ⟨hn107, (List.forall_mem_cons.mpr ⟨hn110, (List.forall_mem_cons.mpr ⟨hn113, (List.forall_mem_cons.mpr ⟨hn116, (List.forall_mem_cons.mpr ⟨hn119, (List.forall_mem_cons.mpr ⟨hn122, (List.forall_mem_cons.mpr ⟨hn125, (List.forall_mem_cons.mpr ⟨hn128, (List.forall_mem_cons.mpr ⟨hn131, (List.forall_mem_cons.mpr ⟨hn134, (List.forall_mem_cons.mpr ⟨hn137, (List.forall_mem_cons.mpr ⟨hn140, (List.forall_mem_cons.mpr ⟨hn143, (List.forall_mem_cons.mpr ⟨hn146, (List.forall_mem_cons.mpr ⟨hn149, (List.forall_mem_cons.mpr ⟨hn152, (List.forall_mem_cons.mpr ⟨hn155, (List.forall_mem_cons.mpr ⟨hn158, (List.forall_mem_cons.mpr ⟨hn161, (List.forall_mem_cons.mpr ⟨hn164, (List.forall_mem_cons.mpr ⟨hn167, (List.forall_mem_cons.mpr ⟨hn170, (List.forall_mem_cons.mpr ⟨hn173, (List.forall_mem_cons.mpr ⟨hn176, (List.forall_mem_cons.mpr ⟨hn179, (List.forall_mem_cons.mpr ⟨hn182, (List.forall_mem_cons.mpr ⟨hn185, (List.forall_mem_cons.mpr ⟨hn188, (List.forall_mem_cons.mpr ⟨hn191, (List.forall_mem_cons.mpr ⟨hn194, (List.forall_mem_cons.mpr ⟨hn197, (List.forall_mem_cons.mpr ⟨hn200, (List.forall_mem_cons.mpr ⟨hn203, (List.forall_mem_cons.mpr ⟨hn206, (List.forall_mem_cons.mpr ⟨hn209, (List.forall_mem_cons.mpr ⟨hn212, (List.forall_mem_cons.mpr ⟨hn215, (List.forall_mem_cons.mpr ⟨hn218, (List.forall_mem_cons.mpr ⟨hn221, (List.forall_mem_cons.mpr ⟨hn224, (List.forall_mem_cons.mpr ⟨hn227, (List.forall_mem_cons.mpr ⟨hn230, (fun _ h => absurd h List.not_mem_nil)⟩)⟩)⟩)⟩)⟩)⟩)⟩)⟩)⟩)⟩)⟩)⟩)⟩)⟩)⟩)⟩)⟩)⟩)⟩)⟩)⟩)⟩)⟩)⟩)⟩)⟩)⟩)⟩)⟩)⟩)⟩)⟩)⟩)⟩)⟩)⟩)⟩)⟩)⟩)⟩)⟩)⟩)⟩)⟩)⟩)⟩)⟩)⟩)⟩)⟩)⟩)⟩)⟩)⟩) hN9 hNs10
  have hNs458 : ∀ b, b ∈ [q15, q16, q17, q18, q19, q20, q21, q22, q23, q24, q25, q26, q27, q28, q29, q30, q31, q32, q33, q34, q35, q36, q37, q38, q39, q40, q41, q42, q43, q44, q45, q46, q47, q48, q49, q50, q51, q52, q53, q54, q55, q56, q57, q58, q59, q60, q61, q62, q63, q64, q65, q66, q67, q68, q1] → b ∈ L12 := fm_app (l := [q15, q16, q17, q18, q19, q20, q21, q22, q23, q24, q25, q26, q27, q28, q29, q30, q31, q32, q33, q34, q35, q36, q37, q38, q39, q40, q41, q42, q43, q44, q45, q46, q47, q48, q49, q50, q51, q52, q53, q54, q55, q56, q57, q58, q59, q60, q61, q62, q63, q64, q65, q66, q67, q68]) (k := [q1]) (List.forall_mem_cons.mpr ⟨hm72, (List.forall_mem_cons.mpr ⟨hm75, (List.forall_mem_cons.mpr ⟨hm78, (List.forall_mem_cons.mpr ⟨hm81, (List.forall_mem_cons.mpr ⟨hm84, (List.forall_mem_cons.mpr ⟨hm87, (List.forall_mem_cons.mpr ⟨hm90, (List.forall_mem_cons.mpr ⟨hm93, (List.forall_mem_cons.mpr ⟨hm96, (List.forall_mem_cons.mpr ⟨hm99, (List.forall_mem_cons.mpr ⟨hm102, (List.forall_mem_cons.mpr ⟨hm105, (List.forall_mem_cons.mpr ⟨hm108, (List.forall_mem_cons.mpr ⟨hm111, (List.forall_mem_cons.mpr ⟨hm114, (List.forall_mem_cons.mpr ⟨hm117, (List.forall_mem_cons.mpr ⟨hm120, (List.forall_mem_cons.mpr ⟨hm123, (List.forall_mem_cons.mpr ⟨hm126, (List.forall_mem_cons.mpr ⟨hm129, (List.forall_mem_cons.mpr ⟨hm132, (List.forall_mem_cons.mpr ⟨hm135, (List.forall_mem_cons.mpr ⟨hm138, (List.forall_mem_cons.mpr ⟨hm141, (List.forall_mem_cons.mpr ⟨hm144, (List.forall_mem_cons.mpr ⟨hm147, (List.forall_mem_cons.mpr ⟨hm150, (List.forall_mem_cons.mpr ⟨hm153, (List.forall_mem_cons.mpr ⟨hm156, (List.forall_mem_cons.mpr ⟨hm159, (List.forall_mem_cons.mpr ⟨hm162, (List.forall_mem_cons.mpr ⟨hm165, (List.forall_mem_cons.mpr ⟨hm168, (List.forall_mem_cons.mpr ⟨hm171, (List.forall_mem_cons.mpr ⟨hm174, (List.forall_mem_cons.mpr ⟨hm177, (List.forall_mem_cons.mpr ⟨hm180, (List.forall_mem_cons.mpr ⟨hm183, (List.forall_mem_cons.mpr ⟨hm186, (List.forall_mem_cons.mpr ⟨hm189, (List.forall_mem_cons.mpr ⟨hm192, (List.forall_mem_cons.mpr ⟨hm195, (List.forall_mem_cons.mpr ⟨hm198, (List.forall_mem_cons.mpr ⟨hm201, (List.forall_mem_cons.mpr ⟨hm204, (List.forall_mem_cons.mpr ⟨hm207, (List.forall_mem_cons.mpr ⟨hm210, (List.forall_mem_cons.mpr ⟨hm213, (List.forall_mem_cons.mpr ⟨hm216, (List.forall_mem_cons.mpr ⟨hm219, (List.forall_mem_cons.mpr ⟨hm222, (List.forall_mem_cons.mpr ⟨hm225, (List.forall_mem_cons.mpr ⟨hm228, (List.forall_mem_cons.mpr ⟨hm231, (fun _ h => absurd h List.not_mem_nil)⟩)⟩)⟩)⟩)⟩)⟩)⟩)⟩)⟩)⟩)⟩)⟩)⟩)⟩)⟩)⟩)⟩)⟩)⟩)⟩)⟩)⟩)⟩)⟩)⟩)⟩)⟩)⟩)⟩)⟩)⟩)⟩)⟩)⟩)⟩)⟩)⟩)⟩)⟩)⟩)⟩)⟩)⟩)⟩)⟩)⟩)⟩)⟩)⟩)⟩)⟩)⟩)⟩)⟩) (fun b hb => sb236 b (hNs10 b hb))
  have hm459 := sb236 _ hm6
  refine lv_astore_n (lv' := [(1, .ref q1), (0, .ref b)]) hx hb dL_law_7 rfl hl (by decide) rfl (fun ls hl => ?_)
  refine pl_new (ci := 10) (fs := [.int 0, .null, .int 0, .int 0, .int 0, .int 0, .int 0, .null, .int 0, .int 0, .null, .null, .int 0, .int 0, .int 0, .int 0, .int 0, .int 0, .int 0, .int 0, .int 0, .long 0, .long 0, .int 0, .null, .int 0, .null, .null, .null, .null, .null, .null, .null, .null, .null, .null, .int 0, .int 0, .int 0, .int 0, .int 0, .null, .null, .null, .null, .long 0, .long 0, .int 0, .int 0, .null, .int 0, .int 0, .null, .int 0, .null, .int 0]) (C := RX11) (T := TX11) (N := 56) hx hb hts (fun w h => mT (inX11 w h)) tyX11 tyX11_ok hown (hts _ (mT wg_1329)) (hts _ (mT wg_1330)) (hts _ (mT wg_168)) hG.1 hP hD hS hA rfl dvX11 (Nat.le_of_ble_eq_true rfl) (Nat.le_of_ble_eq_true rfl) dL_law_8 (fun q514 H L515 f516 hq517 hs518 hm519 hf520 ho521 hP hD hS => ?_)
  have hN522 : [q514, q15, q16, q17, q18, q19, q20, q21, q22, q23, q24, q25, q26, q27, q28, q29, q30, q31, q32, q33, q34, q35, q36, q37, q38, q39, q40, q41, q42, q43, q44, q45, q46, q47, q48, q49, q50, q51, q52, q53, q54, q55, q56, q57, q58, q59, q60, q61, q62, q63, q64, q65, q66, q67, q68, q1].Nodup := List.nodup_cons.mpr ⟨fun h => hq517 (hNs458 _ h), hN457⟩
  have hNs523 : ∀ b, b ∈ [q514, q15, q16, q17, q18, q19, q20, q21, q22, q23, q24, q25, q26, q27, q28, q29, q30, q31, q32, q33, q34, q35, q36, q37, q38, q39, q40, q41, q42, q43, q44, q45, q46, q47, q48, q49, q50, q51, q52, q53, q54, q55, q56, q57, q58, q59, q60, q61, q62, q63, q64, q65, q66, q67, q68, q1] → b ∈ L515 := List.forall_mem_cons.mpr ⟨hm519, fun b hb => hs518 b (hNs458 b hb)⟩
  have hRq524 : ∀ j, j < 20 → ∀ k, k < 10 → aa70 j k ≠ q514 := fun j hj k hk e => hq517 (e ▸ (er234R.1 j hj k hk).1)
  have hR525 : RINGP g L2 L515 f516 20 aa70 := RINGP.tr er234R hRq524 hs518 (fun b hb _ => ho521 b hb)
  have hf526 := (ho521 q1 hm459).trans hf233
  have hn528 : q1 ≠ q514 := fun e => hq517 (e ▸ hm459)
  have hm527 := hs518 _ hm459
  have hf529 := (ho521 q15 hm72).trans hf73
  have hn531 : q15 ≠ q514 := fun e => hq517 (e ▸ hm72)
  have hm530 := hs518 _ hm72
  have hf532 := (ho521 q16 hm75).trans hf76
  have hn534 : q16 ≠ q514 := fun e => hq517 (e ▸ hm75)
  have hm533 := hs518 _ hm75
  have hf535 := (ho521 q17 hm78).trans hf79
  have hn537 : q17 ≠ q514 := fun e => hq517 (e ▸ hm78)
  have hm536 := hs518 _ hm78
  have hf538 := (ho521 q18 hm81).trans hf82
  have hn540 : q18 ≠ q514 := fun e => hq517 (e ▸ hm81)
  have hm539 := hs518 _ hm81
  have hf541 := (ho521 q19 hm84).trans hf85
  have hn543 : q19 ≠ q514 := fun e => hq517 (e ▸ hm84)
  have hm542 := hs518 _ hm84
  have hf544 := (ho521 q20 hm87).trans hf88
  have hn546 : q20 ≠ q514 := fun e => hq517 (e ▸ hm87)
  have hm545 := hs518 _ hm87
  have hf547 := (ho521 q21 hm90).trans hf91
  have hn549 : q21 ≠ q514 := fun e => hq517 (e ▸ hm90)
  have hm548 := hs518 _ hm90
  have hf550 := (ho521 q22 hm93).trans hf94
  have hn552 : q22 ≠ q514 := fun e => hq517 (e ▸ hm93)
  have hm551 := hs518 _ hm93
  have hf553 := (ho521 q23 hm96).trans hf97
  have hn555 : q23 ≠ q514 := fun e => hq517 (e ▸ hm96)
  have hm554 := hs518 _ hm96
  have hf556 := (ho521 q24 hm99).trans hf100
  have hn558 : q24 ≠ q514 := fun e => hq517 (e ▸ hm99)
  have hm557 := hs518 _ hm99
  have hf559 := (ho521 q25 hm102).trans hf103
  have hn561 : q25 ≠ q514 := fun e => hq517 (e ▸ hm102)
  have hm560 := hs518 _ hm102
  have hf562 := (ho521 q26 hm105).trans hf106
  have hn564 : q26 ≠ q514 := fun e => hq517 (e ▸ hm105)
  have hm563 := hs518 _ hm105
  have hf565 := (ho521 q27 hm108).trans hf109
  have hn567 : q27 ≠ q514 := fun e => hq517 (e ▸ hm108)
  have hm566 := hs518 _ hm108
  have hf568 := (ho521 q28 hm111).trans hf112
  have hn570 : q28 ≠ q514 := fun e => hq517 (e ▸ hm111)
  have hm569 := hs518 _ hm111
  have hf571 := (ho521 q29 hm114).trans hf115
  have hn573 : q29 ≠ q514 := fun e => hq517 (e ▸ hm114)
  have hm572 := hs518 _ hm114
  have hf574 := (ho521 q30 hm117).trans hf118
  have hn576 : q30 ≠ q514 := fun e => hq517 (e ▸ hm117)
  have hm575 := hs518 _ hm117
  have hf577 := (ho521 q31 hm120).trans hf121
  have hn579 : q31 ≠ q514 := fun e => hq517 (e ▸ hm120)
  have hm578 := hs518 _ hm120
  have hf580 := (ho521 q32 hm123).trans hf124
  have hn582 : q32 ≠ q514 := fun e => hq517 (e ▸ hm123)
  have hm581 := hs518 _ hm123
  have hf583 := (ho521 q33 hm126).trans hf127
  have hn585 : q33 ≠ q514 := fun e => hq517 (e ▸ hm126)
  have hm584 := hs518 _ hm126
  have hf586 := (ho521 q34 hm129).trans hf130
  have hn588 : q34 ≠ q514 := fun e => hq517 (e ▸ hm129)
  have hm587 := hs518 _ hm129
  have hf589 := (ho521 q35 hm132).trans hf133
  have hn591 : q35 ≠ q514 := fun e => hq517 (e ▸ hm132)
  have hm590 := hs518 _ hm132
  have hf592 := (ho521 q36 hm135).trans hf136
  have hn594 : q36 ≠ q514 := fun e => hq517 (e ▸ hm135)
  have hm593 := hs518 _ hm135
  have hf595 := (ho521 q37 hm138).trans hf139
  have hn597 : q37 ≠ q514 := fun e => hq517 (e ▸ hm138)
  have hm596 := hs518 _ hm138
  have hf598 := (ho521 q38 hm141).trans hf142
  have hn600 : q38 ≠ q514 := fun e => hq517 (e ▸ hm141)
  have hm599 := hs518 _ hm141
  have hf601 := (ho521 q39 hm144).trans hf145
  have hn603 : q39 ≠ q514 := fun e => hq517 (e ▸ hm144)
  have hm602 := hs518 _ hm144
  have hf604 := (ho521 q40 hm147).trans hf148
  have hn606 : q40 ≠ q514 := fun e => hq517 (e ▸ hm147)
  have hm605 := hs518 _ hm147
  have hf607 := (ho521 q41 hm150).trans hf151
  have hn609 : q41 ≠ q514 := fun e => hq517 (e ▸ hm150)
  have hm608 := hs518 _ hm150
  have hf610 := (ho521 q42 hm153).trans hf154
  have hn612 : q42 ≠ q514 := fun e => hq517 (e ▸ hm153)
  have hm611 := hs518 _ hm153
  have hf613 := (ho521 q43 hm156).trans hf157
  have hn615 : q43 ≠ q514 := fun e => hq517 (e ▸ hm156)
  have hm614 := hs518 _ hm156
  have hf616 := (ho521 q44 hm159).trans hf160
  have hn618 : q44 ≠ q514 := fun e => hq517 (e ▸ hm159)
  have hm617 := hs518 _ hm159
  have hf619 := (ho521 q45 hm162).trans hf163
  have hn621 : q45 ≠ q514 := fun e => hq517 (e ▸ hm162)
  have hm620 := hs518 _ hm162
  have hf622 := (ho521 q46 hm165).trans hf166
  have hn624 : q46 ≠ q514 := fun e => hq517 (e ▸ hm165)
  have hm623 := hs518 _ hm165
  have hf625 := (ho521 q47 hm168).trans hf169
  have hn627 : q47 ≠ q514 := fun e => hq517 (e ▸ hm168)
  have hm626 := hs518 _ hm168
  have hf628 := (ho521 q48 hm171).trans hf172
  have hn630 : q48 ≠ q514 := fun e => hq517 (e ▸ hm171)
  have hm629 := hs518 _ hm171
  have hf631 := (ho521 q49 hm174).trans hf175
  have hn633 : q49 ≠ q514 := fun e => hq517 (e ▸ hm174)
  have hm632 := hs518 _ hm174
  have hf634 := (ho521 q50 hm177).trans hf178
  have hn636 : q50 ≠ q514 := fun e => hq517 (e ▸ hm177)
  have hm635 := hs518 _ hm177
  have hf637 := (ho521 q51 hm180).trans hf181
  have hn639 : q51 ≠ q514 := fun e => hq517 (e ▸ hm180)
  have hm638 := hs518 _ hm180
  have hf640 := (ho521 q52 hm183).trans hf184
  have hn642 : q52 ≠ q514 := fun e => hq517 (e ▸ hm183)
  have hm641 := hs518 _ hm183
  have hf643 := (ho521 q53 hm186).trans hf187
  have hn645 : q53 ≠ q514 := fun e => hq517 (e ▸ hm186)
  have hm644 := hs518 _ hm186
  have hf646 := (ho521 q54 hm189).trans hf190
  have hn648 : q54 ≠ q514 := fun e => hq517 (e ▸ hm189)
  have hm647 := hs518 _ hm189
  have hf649 := (ho521 q55 hm192).trans hf193
  have hn651 : q55 ≠ q514 := fun e => hq517 (e ▸ hm192)
  have hm650 := hs518 _ hm192
  have hf652 := (ho521 q56 hm195).trans hf196
  have hn654 : q56 ≠ q514 := fun e => hq517 (e ▸ hm195)
  have hm653 := hs518 _ hm195
  have hf655 := (ho521 q57 hm198).trans hf199
  have hn657 : q57 ≠ q514 := fun e => hq517 (e ▸ hm198)
  have hm656 := hs518 _ hm198
  have hf658 := (ho521 q58 hm201).trans hf202
  have hn660 : q58 ≠ q514 := fun e => hq517 (e ▸ hm201)
  have hm659 := hs518 _ hm201
  have hf661 := (ho521 q59 hm204).trans hf205
  have hn663 : q59 ≠ q514 := fun e => hq517 (e ▸ hm204)
  have hm662 := hs518 _ hm204
  have hf664 := (ho521 q60 hm207).trans hf208
  have hn666 : q60 ≠ q514 := fun e => hq517 (e ▸ hm207)
  have hm665 := hs518 _ hm207
  have hf667 := (ho521 q61 hm210).trans hf211
  have hn669 : q61 ≠ q514 := fun e => hq517 (e ▸ hm210)
  have hm668 := hs518 _ hm210
  have hf670 := (ho521 q62 hm213).trans hf214
  have hn672 : q62 ≠ q514 := fun e => hq517 (e ▸ hm213)
  have hm671 := hs518 _ hm213
  have hf673 := (ho521 q63 hm216).trans hf217
  have hn675 : q63 ≠ q514 := fun e => hq517 (e ▸ hm216)
  have hm674 := hs518 _ hm216
  have hf676 := (ho521 q64 hm219).trans hf220
  have hn678 : q64 ≠ q514 := fun e => hq517 (e ▸ hm219)
  have hm677 := hs518 _ hm219
  have hf679 := (ho521 q65 hm222).trans hf223
  have hn681 : q65 ≠ q514 := fun e => hq517 (e ▸ hm222)
  have hm680 := hs518 _ hm222
  have hf682 := (ho521 q66 hm225).trans hf226
  have hn684 : q66 ≠ q514 := fun e => hq517 (e ▸ hm225)
  have hm683 := hs518 _ hm225
  have hf685 := (ho521 q67 hm228).trans hf229
  have hn687 : q67 ≠ q514 := fun e => hq517 (e ▸ hm228)
  have hm686 := hs518 _ hm228
  have hf688 := (ho521 q68 hm231).trans hf232
  have hn690 : q68 ≠ q514 := fun e => hq517 (e ▸ hm231)
  have hm689 := hs518 _ hm231
  refine lv_dup hx hb dL_law_11 rfl ?_
  refine call_v (run_I (rm := { frames := 1, cells := 22, slots := 48415, locals := 12 }) hx hb hml hown hts (k_X11_init l g _ _ _ q514 hm519 hf520) cI_X11_init wg_1331 ⟨Nat.le_of_ble_eq_true rfl, Nat.le_of_ble_eq_true rfl⟩ hG hE hA hP hD hS rfl hl.1 (As := []) (rest := [.ref q514]) rfl (Nat.le_of_ble_eq_true rfl) dL_law_12 ⟨Nat.le_of_ble_eq_true rfl, Nat.le_of_ble_eq_true rfl⟩) hA hD hS (fun L692 f693 H locs hp694 hP hD hS => ?_)
  refine hp694.elim fun q695 zq787 => zq787.elim fun q696 zq788 => zq788.elim fun q697 zq789 => zq789.elim fun q698 zq790 => zq790.elim fun q699 zq791 => zq791.elim fun q700 zq792 => zq792.elim fun q701 zq793 => zq793.elim fun q702 zq794 => zq794.elim fun q703 zq795 => zq795.elim fun q704 zq796 => zq796.elim fun q705 zq797 => zq797.elim fun q706 zq798 => zq798.elim fun q707 zq799 => zq799.elim fun q708 zq800 => zq800.elim fun q709 zq801 => zq801.elim fun q710 zq802 => zq802.elim fun q711 zq803 => zq803.elim fun q712 zq804 => zq804.elim fun q713 zq805 => zq805.elim fun q714 zq806 => zq806.elim fun q715 zq807 => zq807.elim fun q716 zq808 => zq808.elim fun hn717 zq809 => zq809.elim fun hm718 zq810 => ?_
  clear zq809 zq808 zq807 zq806 zq805 zq804 zq803 zq802 zq801 zq800 zq799 zq798 zq797 zq796 zq795 zq794 zq793 zq792 zq791 zq790 zq789 zq788 zq787 hp694
  refine zq810.elim fun hf719 zq811 => zq811.elim fun hn720 zq812 => zq812.elim fun hm721 zq813 => zq813.elim fun hf722 zq814 => zq814.elim fun hn723 zq815 => zq815.elim fun hm724 zq816 => zq816.elim fun hf725 zq817 => zq817.elim fun hn726 zq818 => zq818.elim fun hm727 zq819 => zq819.elim fun hf728 zq820 => zq820.elim fun hn729 zq821 => zq821.elim fun hm730 zq822 => zq822.elim fun hf731 zq823 => zq823.elim fun hn732 zq824 => zq824.elim fun hm733 zq825 => zq825.elim fun hf734 zq826 => zq826.elim fun hn735 zq827 => zq827.elim fun hm736 zq828 => zq828.elim fun hf737 zq829 => zq829.elim fun hn738 zq830 => zq830.elim fun hm739 zq831 => zq831.elim fun hf740 zq832 => zq832.elim fun hn741 zq833 => zq833.elim fun hm742 zq834 => ?_
  clear zq833 zq832 zq831 zq830 zq829 zq828 zq827 zq826 zq825 zq824 zq823 zq822 zq821 zq820 zq819 zq818 zq817 zq816 zq815 zq814 zq813 zq812 zq811 zq810
  refine zq834.elim fun hf743 zq835 => zq835.elim fun hn744 zq836 => zq836.elim fun hm745 zq837 => zq837.elim fun hf746 zq838 => zq838.elim fun hn747 zq839 => zq839.elim fun hm748 zq840 => zq840.elim fun hf749 zq841 => zq841.elim fun hn750 zq842 => zq842.elim fun hm751 zq843 => zq843.elim fun hf752 zq844 => zq844.elim fun hn753 zq845 => zq845.elim fun hm754 zq846 => zq846.elim fun hf755 zq847 => zq847.elim fun hn756 zq848 => zq848.elim fun hm757 zq849 => zq849.elim fun hf758 zq850 => zq850.elim fun hn759 zq851 => zq851.elim fun hm760 zq852 => zq852.elim fun hf761 zq853 => zq853.elim fun hn762 zq854 => zq854.elim fun hm763 zq855 => zq855.elim fun hf764 zq856 => zq856.elim fun hn765 zq857 => zq857.elim fun hm766 zq858 => ?_
  clear zq857 zq856 zq855 zq854 zq853 zq852 zq851 zq850 zq849 zq848 zq847 zq846 zq845 zq844 zq843 zq842 zq841 zq840 zq839 zq838 zq837 zq836 zq835 zq834
  refine zq858.elim fun hf767 zq859 => zq859.elim fun hn768 zq860 => zq860.elim fun hm769 zq861 => zq861.elim fun hf770 zq862 => zq862.elim fun hn771 zq863 => zq863.elim fun hm772 zq864 => zq864.elim fun hf773 zq865 => zq865.elim fun hn774 zq866 => zq866.elim fun hm775 zq867 => zq867.elim fun hf776 zq868 => zq868.elim fun hn777 zq869 => zq869.elim fun hm778 zq870 => zq870.elim fun hf779 zq871 => zq871.elim fun hn780 zq872 => zq872.elim fun hm781 zq873 => zq873.elim fun hf782 zq874 => zq874.elim fun hf783 zq875 => zq875.elim fun er784 zq876 => zq876.elim fun fr785 sb786 => ?_
  clear zq876 zq875 zq874 zq873 zq872 zq871 zq870 zq869 zq868 zq867 zq866 zq865 zq864 zq863 zq862 zq861 zq860 zq859 zq858
  have hN877 : [q695, q696, q697, q698, q699, q700, q701, q702, q703, q704, q705, q706, q707, q708, q709, q710, q711, q712, q713, q714, q715, q716, q514, q15, q16, q17, q18, q19, q20, q21, q22, q23, q24, q25, q26, q27, q28, q29, q30, q31, q32, q33, q34, q35, q36, q37, q38, q39, q40, q41, q42, q43, q44, q45, q46, q47, q48, q49, q50, q51, q52, q53, q54, q55, q56, q57, q58, q59, q60, q61, q62, q63, q64, q65, q66, q67, q68, q1].Nodup := nd_app (l := [q695, q696, q697, q698, q699, q700, q701, q702, q703, q704, q705, q706, q707, q708, q709, q710, q711, q712, q713, q714, q715, q716]) (k := [q514, q15, q16, q17, q18, q19, q20, q21, q22, q23, q24, q25, q26, q27, q28, q29, q30, q31, q32, q33, q34, q35, q36, q37, q38, q39, q40, q41, q42, q43, q44, q45, q46, q47, q48, q49, q50, q51, q52, q53, q54, q55, q56, q57, q58, q59, q60, q61, q62, q63, q64, q65, q66, q67, q68, q1]) er784 (List.forall_mem_cons.mpr ⟨hn717, (List.forall_mem_cons.mpr ⟨hn720, (List.forall_mem_cons.mpr ⟨hn723, (List.forall_mem_cons.mpr ⟨hn726, (List.forall_mem_cons.mpr ⟨hn729, (List.forall_mem_cons.mpr ⟨hn732, (List.forall_mem_cons.mpr ⟨hn735, (List.forall_mem_cons.mpr ⟨hn738, (List.forall_mem_cons.mpr ⟨hn741, (List.forall_mem_cons.mpr ⟨hn744, (List.forall_mem_cons.mpr ⟨hn747, (List.forall_mem_cons.mpr ⟨hn750, (List.forall_mem_cons.mpr ⟨hn753, (List.forall_mem_cons.mpr ⟨hn756, (List.forall_mem_cons.mpr ⟨hn759, (List.forall_mem_cons.mpr ⟨hn762, (List.forall_mem_cons.mpr ⟨hn765, (List.forall_mem_cons.mpr ⟨hn768, (List.forall_mem_cons.mpr ⟨hn771, (List.forall_mem_cons.mpr ⟨hn774, (List.forall_mem_cons.mpr ⟨hn777, (List.forall_mem_cons.mpr ⟨hn780, (fun _ h => absurd h List.not_mem_nil)⟩)⟩)⟩)⟩)⟩)⟩)⟩)⟩)⟩)⟩)⟩)⟩)⟩)⟩)⟩)⟩)⟩)⟩)⟩)⟩)⟩)⟩) hN522 hNs523
  have hNs878 : ∀ b, b ∈ [q695, q696, q697, q698, q699, q700, q701, q702, q703, q704, q705, q706, q707, q708, q709, q710, q711, q712, q713, q714, q715, q716, q514, q15, q16, q17, q18, q19, q20, q21, q22, q23, q24, q25, q26, q27, q28, q29, q30, q31, q32, q33, q34, q35, q36, q37, q38, q39, q40, q41, q42, q43, q44, q45, q46, q47, q48, q49, q50, q51, q52, q53, q54, q55, q56, q57, q58, q59, q60, q61, q62, q63, q64, q65, q66, q67, q68, q1] → b ∈ L692 := fm_app (l := [q695, q696, q697, q698, q699, q700, q701, q702, q703, q704, q705, q706, q707, q708, q709, q710, q711, q712, q713, q714, q715, q716]) (k := [q514, q15, q16, q17, q18, q19, q20, q21, q22, q23, q24, q25, q26, q27, q28, q29, q30, q31, q32, q33, q34, q35, q36, q37, q38, q39, q40, q41, q42, q43, q44, q45, q46, q47, q48, q49, q50, q51, q52, q53, q54, q55, q56, q57, q58, q59, q60, q61, q62, q63, q64, q65, q66, q67, q68, q1]) (List.forall_mem_cons.mpr ⟨hm718, (List.forall_mem_cons.mpr ⟨hm721, (List.forall_mem_cons.mpr ⟨hm724, (List.forall_mem_cons.mpr ⟨hm727, (List.forall_mem_cons.mpr ⟨hm730, (List.forall_mem_cons.mpr ⟨hm733, (List.forall_mem_cons.mpr ⟨hm736, (List.forall_mem_cons.mpr ⟨hm739, (List.forall_mem_cons.mpr ⟨hm742, (List.forall_mem_cons.mpr ⟨hm745, (List.forall_mem_cons.mpr ⟨hm748, (List.forall_mem_cons.mpr ⟨hm751, (List.forall_mem_cons.mpr ⟨hm754, (List.forall_mem_cons.mpr ⟨hm757, (List.forall_mem_cons.mpr ⟨hm760, (List.forall_mem_cons.mpr ⟨hm763, (List.forall_mem_cons.mpr ⟨hm766, (List.forall_mem_cons.mpr ⟨hm769, (List.forall_mem_cons.mpr ⟨hm772, (List.forall_mem_cons.mpr ⟨hm775, (List.forall_mem_cons.mpr ⟨hm778, (List.forall_mem_cons.mpr ⟨hm781, (fun _ h => absurd h List.not_mem_nil)⟩)⟩)⟩)⟩)⟩)⟩)⟩)⟩)⟩)⟩)⟩)⟩)⟩)⟩)⟩)⟩)⟩)⟩)⟩)⟩)⟩)⟩) (fun b hb => sb786 b (hNs523 b hb))
  have hRq879 : ∀ j, j < 20 → ∀ k, k < 10 → aa70 j k ≠ q695 := fun j hj k hk e => hn717 (e ▸ (hR525.1 j hj k hk).1)
  have hRq880 : ∀ j, j < 20 → ∀ k, k < 10 → aa70 j k ≠ q696 := fun j hj k hk e => hn720 (e ▸ (hR525.1 j hj k hk).1)
  have hRq881 : ∀ j, j < 20 → ∀ k, k < 10 → aa70 j k ≠ q697 := fun j hj k hk e => hn723 (e ▸ (hR525.1 j hj k hk).1)
  have hRq882 : ∀ j, j < 20 → ∀ k, k < 10 → aa70 j k ≠ q698 := fun j hj k hk e => hn726 (e ▸ (hR525.1 j hj k hk).1)
  have hRq883 : ∀ j, j < 20 → ∀ k, k < 10 → aa70 j k ≠ q699 := fun j hj k hk e => hn729 (e ▸ (hR525.1 j hj k hk).1)
  have hRq884 : ∀ j, j < 20 → ∀ k, k < 10 → aa70 j k ≠ q700 := fun j hj k hk e => hn732 (e ▸ (hR525.1 j hj k hk).1)
  have hRq885 : ∀ j, j < 20 → ∀ k, k < 10 → aa70 j k ≠ q701 := fun j hj k hk e => hn735 (e ▸ (hR525.1 j hj k hk).1)
  have hRq886 : ∀ j, j < 20 → ∀ k, k < 10 → aa70 j k ≠ q702 := fun j hj k hk e => hn738 (e ▸ (hR525.1 j hj k hk).1)
  have hRq887 : ∀ j, j < 20 → ∀ k, k < 10 → aa70 j k ≠ q703 := fun j hj k hk e => hn741 (e ▸ (hR525.1 j hj k hk).1)
  have hRq888 : ∀ j, j < 20 → ∀ k, k < 10 → aa70 j k ≠ q704 := fun j hj k hk e => hn744 (e ▸ (hR525.1 j hj k hk).1)
  have hRq889 : ∀ j, j < 20 → ∀ k, k < 10 → aa70 j k ≠ q705 := fun j hj k hk e => hn747 (e ▸ (hR525.1 j hj k hk).1)
  have hRq890 : ∀ j, j < 20 → ∀ k, k < 10 → aa70 j k ≠ q706 := fun j hj k hk e => hn750 (e ▸ (hR525.1 j hj k hk).1)
  have hRq891 : ∀ j, j < 20 → ∀ k, k < 10 → aa70 j k ≠ q707 := fun j hj k hk e => hn753 (e ▸ (hR525.1 j hj k hk).1)
  have hRq892 : ∀ j, j < 20 → ∀ k, k < 10 → aa70 j k ≠ q708 := fun j hj k hk e => hn756 (e ▸ (hR525.1 j hj k hk).1)
  have hRq893 : ∀ j, j < 20 → ∀ k, k < 10 → aa70 j k ≠ q709 := fun j hj k hk e => hn759 (e ▸ (hR525.1 j hj k hk).1)
  have hRq894 : ∀ j, j < 20 → ∀ k, k < 10 → aa70 j k ≠ q710 := fun j hj k hk e => hn762 (e ▸ (hR525.1 j hj k hk).1)
  have hRq895 : ∀ j, j < 20 → ∀ k, k < 10 → aa70 j k ≠ q711 := fun j hj k hk e => hn765 (e ▸ (hR525.1 j hj k hk).1)
  have hRq896 : ∀ j, j < 20 → ∀ k, k < 10 → aa70 j k ≠ q712 := fun j hj k hk e => hn768 (e ▸ (hR525.1 j hj k hk).1)
  have hRq897 : ∀ j, j < 20 → ∀ k, k < 10 → aa70 j k ≠ q713 := fun j hj k hk e => hn771 (e ▸ (hR525.1 j hj k hk).1)
  have hRq898 : ∀ j, j < 20 → ∀ k, k < 10 → aa70 j k ≠ q714 := fun j hj k hk e => hn774 (e ▸ (hR525.1 j hj k hk).1)
  have hRq899 : ∀ j, j < 20 → ∀ k, k < 10 → aa70 j k ≠ q715 := fun j hj k hk e => hn777 (e ▸ (hR525.1 j hj k hk).1)
  have hRq900 : ∀ j, j < 20 → ∀ k, k < 10 → aa70 j k ≠ q716 := fun j hj k hk e => hn780 (e ▸ (hR525.1 j hj k hk).1)
  have hR901 : RINGP g L2 L692 f693 20 aa70 := RINGP.tr hR525 hRq524 sb786 (fun b hb hn => fr785 b hb hn)
  have hf925 := (fr785 q1 hm527 hn528).trans hf526
  have hm902 := sb786 _ hm527
  have hf949 := (fr785 q15 hm530 hn531).trans hf529
  have hm926 := sb786 _ hm530
  have hf973 := (fr785 q16 hm533 hn534).trans hf532
  have hm950 := sb786 _ hm533
  have hf997 := (fr785 q17 hm536 hn537).trans hf535
  have hm974 := sb786 _ hm536
  have hf1021 := (fr785 q18 hm539 hn540).trans hf538
  have hm998 := sb786 _ hm539
  have hf1045 := (fr785 q19 hm542 hn543).trans hf541
  have hm1022 := sb786 _ hm542
  have hf1069 := (fr785 q20 hm545 hn546).trans hf544
  have hm1046 := sb786 _ hm545
  have hf1093 := (fr785 q21 hm548 hn549).trans hf547
  have hm1070 := sb786 _ hm548
  have hf1117 := (fr785 q22 hm551 hn552).trans hf550
  have hm1094 := sb786 _ hm551
  have hf1141 := (fr785 q23 hm554 hn555).trans hf553
  have hm1118 := sb786 _ hm554
  have hf1165 := (fr785 q24 hm557 hn558).trans hf556
  have hm1142 := sb786 _ hm557
  have hf1189 := (fr785 q25 hm560 hn561).trans hf559
  have hm1166 := sb786 _ hm560
  have hf1213 := (fr785 q26 hm563 hn564).trans hf562
  have hm1190 := sb786 _ hm563
  have hf1237 := (fr785 q27 hm566 hn567).trans hf565
  have hm1214 := sb786 _ hm566
  have hf1261 := (fr785 q28 hm569 hn570).trans hf568
  have hm1238 := sb786 _ hm569
  have hf1285 := (fr785 q29 hm572 hn573).trans hf571
  have hm1262 := sb786 _ hm572
  have hf1309 := (fr785 q30 hm575 hn576).trans hf574
  have hm1286 := sb786 _ hm575
  have hf1333 := (fr785 q31 hm578 hn579).trans hf577
  have hm1310 := sb786 _ hm578
  have hf1357 := (fr785 q32 hm581 hn582).trans hf580
  have hm1334 := sb786 _ hm581
  have hf1381 := (fr785 q33 hm584 hn585).trans hf583
  have hm1358 := sb786 _ hm584
  have hf1405 := (fr785 q34 hm587 hn588).trans hf586
  have hm1382 := sb786 _ hm587
  have hf1429 := (fr785 q35 hm590 hn591).trans hf589
  have hm1406 := sb786 _ hm590
  have hf1453 := (fr785 q36 hm593 hn594).trans hf592
  have hm1430 := sb786 _ hm593
  have hf1477 := (fr785 q37 hm596 hn597).trans hf595
  have hm1454 := sb786 _ hm596
  have hf1501 := (fr785 q38 hm599 hn600).trans hf598
  have hm1478 := sb786 _ hm599
  have hf1525 := (fr785 q39 hm602 hn603).trans hf601
  have hm1502 := sb786 _ hm602
  have hf1549 := (fr785 q40 hm605 hn606).trans hf604
  have hm1526 := sb786 _ hm605
  have hf1573 := (fr785 q41 hm608 hn609).trans hf607
  have hm1550 := sb786 _ hm608
  have hf1597 := (fr785 q42 hm611 hn612).trans hf610
  have hm1574 := sb786 _ hm611
  have hf1621 := (fr785 q43 hm614 hn615).trans hf613
  have hm1598 := sb786 _ hm614
  have hf1645 := (fr785 q44 hm617 hn618).trans hf616
  have hm1622 := sb786 _ hm617
  have hf1669 := (fr785 q45 hm620 hn621).trans hf619
  have hm1646 := sb786 _ hm620
  have hf1693 := (fr785 q46 hm623 hn624).trans hf622
  have hm1670 := sb786 _ hm623
  have hf1717 := (fr785 q47 hm626 hn627).trans hf625
  have hm1694 := sb786 _ hm626
  have hf1741 := (fr785 q48 hm629 hn630).trans hf628
  have hm1718 := sb786 _ hm629
  have hf1765 := (fr785 q49 hm632 hn633).trans hf631
  have hm1742 := sb786 _ hm632
  have hf1789 := (fr785 q50 hm635 hn636).trans hf634
  have hm1766 := sb786 _ hm635
  have hf1813 := (fr785 q51 hm638 hn639).trans hf637
  have hm1790 := sb786 _ hm638
  have hf1837 := (fr785 q52 hm641 hn642).trans hf640
  have hm1814 := sb786 _ hm641
  have hf1861 := (fr785 q53 hm644 hn645).trans hf643
  have hm1838 := sb786 _ hm644
  have hf1885 := (fr785 q54 hm647 hn648).trans hf646
  have hm1862 := sb786 _ hm647
  have hf1909 := (fr785 q55 hm650 hn651).trans hf649
  have hm1886 := sb786 _ hm650
  have hf1933 := (fr785 q56 hm653 hn654).trans hf652
  have hm1910 := sb786 _ hm653
  have hf1957 := (fr785 q57 hm656 hn657).trans hf655
  have hm1934 := sb786 _ hm656
  have hf1981 := (fr785 q58 hm659 hn660).trans hf658
  have hm1958 := sb786 _ hm659
  have hf2005 := (fr785 q59 hm662 hn663).trans hf661
  have hm1982 := sb786 _ hm662
  have hf2029 := (fr785 q60 hm665 hn666).trans hf664
  have hm2006 := sb786 _ hm665
  have hf2053 := (fr785 q61 hm668 hn669).trans hf667
  have hm2030 := sb786 _ hm668
  have hf2077 := (fr785 q62 hm671 hn672).trans hf670
  have hm2054 := sb786 _ hm671
  have hf2101 := (fr785 q63 hm674 hn675).trans hf673
  have hm2078 := sb786 _ hm674
  have hf2125 := (fr785 q64 hm677 hn678).trans hf676
  have hm2102 := sb786 _ hm677
  have hf2149 := (fr785 q65 hm680 hn681).trans hf679
  have hm2126 := sb786 _ hm680
  have hf2173 := (fr785 q66 hm683 hn684).trans hf682
  have hm2150 := sb786 _ hm683
  have hf2197 := (fr785 q67 hm686 hn687).trans hf685
  have hm2174 := sb786 _ hm686
  have hf2221 := (fr785 q68 hm689 hn690).trans hf688
  have hm2198 := sb786 _ hm689
  have hm2222 := sb786 _ hm519
  refine lv_astore_n (lv' := [(2, .ref q514), (1, .ref q1), (0, .ref b)]) hx hb dL_law_15 rfl hl (by decide) rfl (fun ls hl => ?_)
  refine lv_iconst (v := 1) hx hb dL_law_16 (by decide) ?_
  refine pl_newa (atype := .long) (ty := .long) (N' := 1) (a0 := (1, .inr (.inl (fun _ => 0)))) hx hb (hts _ (mT wg_403)) rfl hG.1 hP hD hS hA 1 rfl (fun _ h => h) (fun _ => rfl) (by decide) (by decide) (Nat.le_of_ble_eq_true rfl) (Nat.le_of_ble_eq_true rfl) (Nat.le_of_ble_eq_true rfl) dL_law_17 (fun q2245 H L2246 f2247 hq2248 hs2249 hm2250 hf2251 ho2252 hP hD hS => ?_)
  have hN2253 : [q2245, q695, q696, q697, q698, q699, q700, q701, q702, q703, q704, q705, q706, q707, q708, q709, q710, q711, q712, q713, q714, q715, q716, q514, q15, q16, q17, q18, q19, q20, q21, q22, q23, q24, q25, q26, q27, q28, q29, q30, q31, q32, q33, q34, q35, q36, q37, q38, q39, q40, q41, q42, q43, q44, q45, q46, q47, q48, q49, q50, q51, q52, q53, q54, q55, q56, q57, q58, q59, q60, q61, q62, q63, q64, q65, q66, q67, q68, q1].Nodup := List.nodup_cons.mpr ⟨fun h => hq2248 (hNs878 _ h), hN877⟩
  have hNs2254 : ∀ b, b ∈ [q2245, q695, q696, q697, q698, q699, q700, q701, q702, q703, q704, q705, q706, q707, q708, q709, q710, q711, q712, q713, q714, q715, q716, q514, q15, q16, q17, q18, q19, q20, q21, q22, q23, q24, q25, q26, q27, q28, q29, q30, q31, q32, q33, q34, q35, q36, q37, q38, q39, q40, q41, q42, q43, q44, q45, q46, q47, q48, q49, q50, q51, q52, q53, q54, q55, q56, q57, q58, q59, q60, q61, q62, q63, q64, q65, q66, q67, q68, q1] → b ∈ L2246 := List.forall_mem_cons.mpr ⟨hm2250, fun b hb => hs2249 b (hNs878 b hb)⟩
  have hRq2255 : ∀ j, j < 20 → ∀ k, k < 10 → aa70 j k ≠ q2245 := fun j hj k hk e => hq2248 (e ▸ (hR901.1 j hj k hk).1)
  have hR2256 : RINGP g L2 L2246 f2247 20 aa70 := RINGP.tr hR901 hRq2255 hs2249 (fun b hb _ => ho2252 b hb)
  have hf2257 := (ho2252 q1 hm902).trans hf925
  have hf2260 := (ho2252 q15 hm926).trans hf949
  have hf2263 := (ho2252 q16 hm950).trans hf973
  have hf2266 := (ho2252 q17 hm974).trans hf997
  have hf2269 := (ho2252 q18 hm998).trans hf1021
  have hf2272 := (ho2252 q19 hm1022).trans hf1045
  have hf2275 := (ho2252 q20 hm1046).trans hf1069
  have hf2278 := (ho2252 q21 hm1070).trans hf1093
  have hf2281 := (ho2252 q22 hm1094).trans hf1117
  have hf2284 := (ho2252 q23 hm1118).trans hf1141
  have hf2287 := (ho2252 q24 hm1142).trans hf1165
  have hf2290 := (ho2252 q25 hm1166).trans hf1189
  have hf2293 := (ho2252 q26 hm1190).trans hf1213
  have hf2296 := (ho2252 q27 hm1214).trans hf1237
  have hf2299 := (ho2252 q28 hm1238).trans hf1261
  have hf2302 := (ho2252 q29 hm1262).trans hf1285
  have hf2305 := (ho2252 q30 hm1286).trans hf1309
  have hf2308 := (ho2252 q31 hm1310).trans hf1333
  have hf2311 := (ho2252 q32 hm1334).trans hf1357
  have hf2314 := (ho2252 q33 hm1358).trans hf1381
  have hf2317 := (ho2252 q34 hm1382).trans hf1405
  have hf2320 := (ho2252 q35 hm1406).trans hf1429
  have hf2323 := (ho2252 q36 hm1430).trans hf1453
  have hf2326 := (ho2252 q37 hm1454).trans hf1477
  have hf2329 := (ho2252 q38 hm1478).trans hf1501
  have hf2332 := (ho2252 q39 hm1502).trans hf1525
  have hf2335 := (ho2252 q40 hm1526).trans hf1549
  have hf2338 := (ho2252 q41 hm1550).trans hf1573
  have hf2341 := (ho2252 q42 hm1574).trans hf1597
  have hf2344 := (ho2252 q43 hm1598).trans hf1621
  have hf2347 := (ho2252 q44 hm1622).trans hf1645
  have hf2350 := (ho2252 q45 hm1646).trans hf1669
  have hf2353 := (ho2252 q46 hm1670).trans hf1693
  have hf2356 := (ho2252 q47 hm1694).trans hf1717
  have hf2359 := (ho2252 q48 hm1718).trans hf1741
  have hf2362 := (ho2252 q49 hm1742).trans hf1765
  have hf2365 := (ho2252 q50 hm1766).trans hf1789
  have hf2368 := (ho2252 q51 hm1790).trans hf1813
  have hf2371 := (ho2252 q52 hm1814).trans hf1837
  have hf2374 := (ho2252 q53 hm1838).trans hf1861
  have hf2377 := (ho2252 q54 hm1862).trans hf1885
  have hf2380 := (ho2252 q55 hm1886).trans hf1909
  have hf2383 := (ho2252 q56 hm1910).trans hf1933
  have hf2386 := (ho2252 q57 hm1934).trans hf1957
  have hf2389 := (ho2252 q58 hm1958).trans hf1981
  have hf2392 := (ho2252 q59 hm1982).trans hf2005
  have hf2395 := (ho2252 q60 hm2006).trans hf2029
  have hf2398 := (ho2252 q61 hm2030).trans hf2053
  have hf2401 := (ho2252 q62 hm2054).trans hf2077
  have hf2404 := (ho2252 q63 hm2078).trans hf2101
  have hf2407 := (ho2252 q64 hm2102).trans hf2125
  have hf2410 := (ho2252 q65 hm2126).trans hf2149
  have hf2413 := (ho2252 q66 hm2150).trans hf2173
  have hf2416 := (ho2252 q67 hm2174).trans hf2197
  have hf2419 := (ho2252 q68 hm2198).trans hf2221
  have hf2422 := (ho2252 q514 hm2222).trans hf783
  have hf2425 := (ho2252 q695 hm718).trans hf719
  have hf2428 := (ho2252 q696 hm721).trans hf722
  have hf2431 := (ho2252 q697 hm724).trans hf725
  have hf2434 := (ho2252 q698 hm727).trans hf728
  have hf2437 := (ho2252 q699 hm730).trans hf731
  have hf2440 := (ho2252 q700 hm733).trans hf734
  have hf2443 := (ho2252 q701 hm736).trans hf737
  have hf2446 := (ho2252 q702 hm739).trans hf740
  have hf2449 := (ho2252 q703 hm742).trans hf743
  have hf2452 := (ho2252 q704 hm745).trans hf746
  have hf2455 := (ho2252 q705 hm748).trans hf749
  have hf2458 := (ho2252 q706 hm751).trans hf752
  have hf2461 := (ho2252 q707 hm754).trans hf755
  have hf2464 := (ho2252 q708 hm757).trans hf758
  have hf2467 := (ho2252 q709 hm760).trans hf761
  have hf2470 := (ho2252 q710 hm763).trans hf764
  have hf2473 := (ho2252 q711 hm766).trans hf767
  have hf2476 := (ho2252 q712 hm769).trans hf770
  have hf2479 := (ho2252 q713 hm772).trans hf773
  have hf2482 := (ho2252 q714 hm775).trans hf776
  have hf2485 := (ho2252 q715 hm778).trans hf779
  have hf2488 := (ho2252 q716 hm781).trans hf782
  refine lv_astore_n (lv' := [(3, .ref q2245), (2, .ref q514), (1, .ref q1), (0, .ref b)]) hx hb dL_law_19 rfl hl (by decide) rfl (fun ls hl => ?_)
  refine lv_iconst (v := 0) hx hb dL_law_20 (by decide) ?_
  refine lv_istore (lv' := [(4, .int 0), (3, .ref q2245), (2, .ref q514), (1, .ref q1), (0, .ref b)]) hx hb dL_law_21 hl (by decide) rfl (fun ls hl => ?_)
  have hT := ti_start g f2247 q1 q68 q67 q17 q16 q66 q65 q64 q23 q63 q62 q60 q59 q61 q58 q57 q26 q25 q24 q22 q21 q20 q19 q18 q15 q56 q55 q54 q53 q52 q51 q50 q49 q48 q47 q46 q45 q44 q43 q42 q41 q40 q39 q38 q37 q36 q35 q34 q33 q32 q31 q30 q29 q28 q27 q514 q716 q715 q714 q713 q712 q711 q710 q709 q708 q707 q706 q705 q704 q703 q702 q701 q700 q699 q698 q697 q696 q695 q2245 r69 aa70 hR2256 er234rr hf2257 hf2419 hf2416 hf2266 hf2263 hf2413 hf2410 hf2407 hf2284 hf2404 hf2401 hf2395 hf2392 hf2398 hf2389 hf2386 hf2293 hf2290 hf2287 hf2281 hf2278 hf2275 hf2272 hf2269 hf2260 hf2383 hf2380 hf2377 hf2374 hf2371 hf2368 hf2365 hf2362 hf2359 hf2356 hf2353 hf2350 hf2347 hf2344 hf2341 hf2338 hf2335 hf2332 hf2329 hf2326 hf2323 hf2320 hf2317 hf2314 hf2311 hf2308 hf2305 hf2302 hf2299 hf2296 hf2422 hf2488 hf2485 hf2482 hf2479 hf2476 hf2473 hf2470 hf2467 hf2464 hf2461 hf2458 hf2455 hf2452 hf2449 hf2446 hf2443 hf2440 hf2437 hf2434 hf2431 hf2428 hf2425 hf2251
  have hst := st_mk (al := [q2245, q695, q696, q697, q698, q699, q700, q701, q702, q703, q704, q705, q706, q707, q708, q709, q710, q711, q712, q713, q714, q715, q716, q514, q15, q16, q17, q18, q19, q20, q21, q22, q23, q24, q25, q26, q27, q28, q29, q30, q31, q32, q33, q34, q35, q36, q37, q38, q39, q40, q41, q42, q43, q44, q45, q46, q47, q48, q49, q50, q51, q52, q53, q54, q55, q56, q57, q58, q59, q60, q61, q62, q63, q64, q65, q66, q67, q68, q1]) rfl hN2253 hNs2254 hR2256 (List.forall_mem_cons.mpr ⟨(hRq2255), (List.forall_mem_cons.mpr ⟨(hRq879), (List.forall_mem_cons.mpr ⟨(hRq880), (List.forall_mem_cons.mpr ⟨(hRq881), (List.forall_mem_cons.mpr ⟨(hRq882), (List.forall_mem_cons.mpr ⟨(hRq883), (List.forall_mem_cons.mpr ⟨(hRq884), (List.forall_mem_cons.mpr ⟨(hRq885), (List.forall_mem_cons.mpr ⟨(hRq886), (List.forall_mem_cons.mpr ⟨(hRq887), (List.forall_mem_cons.mpr ⟨(hRq888), (List.forall_mem_cons.mpr ⟨(hRq889), (List.forall_mem_cons.mpr ⟨(hRq890), (List.forall_mem_cons.mpr ⟨(hRq891), (List.forall_mem_cons.mpr ⟨(hRq892), (List.forall_mem_cons.mpr ⟨(hRq893), (List.forall_mem_cons.mpr ⟨(hRq894), (List.forall_mem_cons.mpr ⟨(hRq895), (List.forall_mem_cons.mpr ⟨(hRq896), (List.forall_mem_cons.mpr ⟨(hRq897), (List.forall_mem_cons.mpr ⟨(hRq898), (List.forall_mem_cons.mpr ⟨(hRq899), (List.forall_mem_cons.mpr ⟨(hRq900), (List.forall_mem_cons.mpr ⟨(hRq524), (List.forall_mem_cons.mpr ⟨((fun j hj k hk => (er234ne j hj k hk).1)), (List.forall_mem_cons.mpr ⟨((fun j hj k hk => (er234ne j hj k hk).2.1)), (List.forall_mem_cons.mpr ⟨((fun j hj k hk => (er234ne j hj k hk).2.2.1)), (List.forall_mem_cons.mpr ⟨((fun j hj k hk => (er234ne j hj k hk).2.2.2.1)), (List.forall_mem_cons.mpr ⟨((fun j hj k hk => (er234ne j hj k hk).2.2.2.2.1)), (List.forall_mem_cons.mpr ⟨((fun j hj k hk => (er234ne j hj k hk).2.2.2.2.2.1)), (List.forall_mem_cons.mpr ⟨((fun j hj k hk => (er234ne j hj k hk).2.2.2.2.2.2.1)), (List.forall_mem_cons.mpr ⟨((fun j hj k hk => (er234ne j hj k hk).2.2.2.2.2.2.2.1)), (List.forall_mem_cons.mpr ⟨((fun j hj k hk => (er234ne j hj k hk).2.2.2.2.2.2.2.2.1)), (List.forall_mem_cons.mpr ⟨((fun j hj k hk => (er234ne j hj k hk).2.2.2.2.2.2.2.2.2.1)), (List.forall_mem_cons.mpr ⟨((fun j hj k hk => (er234ne j hj k hk).2.2.2.2.2.2.2.2.2.2.1)), (List.forall_mem_cons.mpr ⟨((fun j hj k hk => (er234ne j hj k hk).2.2.2.2.2.2.2.2.2.2.2.1)), (List.forall_mem_cons.mpr ⟨((fun j hj k hk => (er234ne j hj k hk).2.2.2.2.2.2.2.2.2.2.2.2.1)), (List.forall_mem_cons.mpr ⟨((fun j hj k hk => (er234ne j hj k hk).2.2.2.2.2.2.2.2.2.2.2.2.2.1)), (List.forall_mem_cons.mpr ⟨((fun j hj k hk => (er234ne j hj k hk).2.2.2.2.2.2.2.2.2.2.2.2.2.2.1)), (List.forall_mem_cons.mpr ⟨((fun j hj k hk => (er234ne j hj k hk).2.2.2.2.2.2.2.2.2.2.2.2.2.2.2.1)), (List.forall_mem_cons.mpr ⟨((fun j hj k hk => (er234ne j hj k hk).2.2.2.2.2.2.2.2.2.2.2.2.2.2.2.2.1)), (List.forall_mem_cons.mpr ⟨((fun j hj k hk => (er234ne j hj k hk).2.2.2.2.2.2.2.2.2.2.2.2.2.2.2.2.2.1)), (List.forall_mem_cons.mpr ⟨((fun j hj k hk => (er234ne j hj k hk).2.2.2.2.2.2.2.2.2.2.2.2.2.2.2.2.2.2.1)), (List.forall_mem_cons.mpr ⟨((fun j hj k hk => (er234ne j hj k hk).2.2.2.2.2.2.2.2.2.2.2.2.2.2.2.2.2.2.2.1)), (List.forall_mem_cons.mpr ⟨((fun j hj k hk => (er234ne j hj k hk).2.2.2.2.2.2.2.2.2.2.2.2.2.2.2.2.2.2.2.2.1)), (List.forall_mem_cons.mpr ⟨((fun j hj k hk => (er234ne j hj k hk).2.2.2.2.2.2.2.2.2.2.2.2.2.2.2.2.2.2.2.2.2.1)), (List.forall_mem_cons.mpr ⟨((fun j hj k hk => (er234ne j hj k hk).2.2.2.2.2.2.2.2.2.2.2.2.2.2.2.2.2.2.2.2.2.2.1)), (List.forall_mem_cons.mpr ⟨((fun j hj k hk => (er234ne j hj k hk).2.2.2.2.2.2.2.2.2.2.2.2.2.2.2.2.2.2.2.2.2.2.2.1)), (List.forall_mem_cons.mpr ⟨((fun j hj k hk => (er234ne j hj k hk).2.2.2.2.2.2.2.2.2.2.2.2.2.2.2.2.2.2.2.2.2.2.2.2.1)), (List.forall_mem_cons.mpr ⟨((fun j hj k hk => (er234ne j hj k hk).2.2.2.2.2.2.2.2.2.2.2.2.2.2.2.2.2.2.2.2.2.2.2.2.2.1)), (List.forall_mem_cons.mpr ⟨((fun j hj k hk => (er234ne j hj k hk).2.2.2.2.2.2.2.2.2.2.2.2.2.2.2.2.2.2.2.2.2.2.2.2.2.2.1)), (List.forall_mem_cons.mpr ⟨((fun j hj k hk => (er234ne j hj k hk).2.2.2.2.2.2.2.2.2.2.2.2.2.2.2.2.2.2.2.2.2.2.2.2.2.2.2.1)), (List.forall_mem_cons.mpr ⟨((fun j hj k hk => (er234ne j hj k hk).2.2.2.2.2.2.2.2.2.2.2.2.2.2.2.2.2.2.2.2.2.2.2.2.2.2.2.2.1)), (List.forall_mem_cons.mpr ⟨((fun j hj k hk => (er234ne j hj k hk).2.2.2.2.2.2.2.2.2.2.2.2.2.2.2.2.2.2.2.2.2.2.2.2.2.2.2.2.2.1)), (List.forall_mem_cons.mpr ⟨((fun j hj k hk => (er234ne j hj k hk).2.2.2.2.2.2.2.2.2.2.2.2.2.2.2.2.2.2.2.2.2.2.2.2.2.2.2.2.2.2.1)), (List.forall_mem_cons.mpr ⟨((fun j hj k hk => (er234ne j hj k hk).2.2.2.2.2.2.2.2.2.2.2.2.2.2.2.2.2.2.2.2.2.2.2.2.2.2.2.2.2.2.2.1)), (List.forall_mem_cons.mpr ⟨((fun j hj k hk => (er234ne j hj k hk).2.2.2.2.2.2.2.2.2.2.2.2.2.2.2.2.2.2.2.2.2.2.2.2.2.2.2.2.2.2.2.2.1)), (List.forall_mem_cons.mpr ⟨((fun j hj k hk => (er234ne j hj k hk).2.2.2.2.2.2.2.2.2.2.2.2.2.2.2.2.2.2.2.2.2.2.2.2.2.2.2.2.2.2.2.2.2.1)), (List.forall_mem_cons.mpr ⟨((fun j hj k hk => (er234ne j hj k hk).2.2.2.2.2.2.2.2.2.2.2.2.2.2.2.2.2.2.2.2.2.2.2.2.2.2.2.2.2.2.2.2.2.2.1)), (List.forall_mem_cons.mpr ⟨((fun j hj k hk => (er234ne j hj k hk).2.2.2.2.2.2.2.2.2.2.2.2.2.2.2.2.2.2.2.2.2.2.2.2.2.2.2.2.2.2.2.2.2.2.2.1)), (List.forall_mem_cons.mpr ⟨((fun j hj k hk => (er234ne j hj k hk).2.2.2.2.2.2.2.2.2.2.2.2.2.2.2.2.2.2.2.2.2.2.2.2.2.2.2.2.2.2.2.2.2.2.2.2.1)), (List.forall_mem_cons.mpr ⟨((fun j hj k hk => (er234ne j hj k hk).2.2.2.2.2.2.2.2.2.2.2.2.2.2.2.2.2.2.2.2.2.2.2.2.2.2.2.2.2.2.2.2.2.2.2.2.2.1)), (List.forall_mem_cons.mpr ⟨((fun j hj k hk => (er234ne j hj k hk).2.2.2.2.2.2.2.2.2.2.2.2.2.2.2.2.2.2.2.2.2.2.2.2.2.2.2.2.2.2.2.2.2.2.2.2.2.2.1)), (List.forall_mem_cons.mpr ⟨((fun j hj k hk => (er234ne j hj k hk).2.2.2.2.2.2.2.2.2.2.2.2.2.2.2.2.2.2.2.2.2.2.2.2.2.2.2.2.2.2.2.2.2.2.2.2.2.2.2.1)), (List.forall_mem_cons.mpr ⟨((fun j hj k hk => (er234ne j hj k hk).2.2.2.2.2.2.2.2.2.2.2.2.2.2.2.2.2.2.2.2.2.2.2.2.2.2.2.2.2.2.2.2.2.2.2.2.2.2.2.2.1)), (List.forall_mem_cons.mpr ⟨((fun j hj k hk => (er234ne j hj k hk).2.2.2.2.2.2.2.2.2.2.2.2.2.2.2.2.2.2.2.2.2.2.2.2.2.2.2.2.2.2.2.2.2.2.2.2.2.2.2.2.2.1)), (List.forall_mem_cons.mpr ⟨((fun j hj k hk => (er234ne j hj k hk).2.2.2.2.2.2.2.2.2.2.2.2.2.2.2.2.2.2.2.2.2.2.2.2.2.2.2.2.2.2.2.2.2.2.2.2.2.2.2.2.2.2.1)), (List.forall_mem_cons.mpr ⟨((fun j hj k hk => (er234ne j hj k hk).2.2.2.2.2.2.2.2.2.2.2.2.2.2.2.2.2.2.2.2.2.2.2.2.2.2.2.2.2.2.2.2.2.2.2.2.2.2.2.2.2.2.2.1)), (List.forall_mem_cons.mpr ⟨((fun j hj k hk => (er234ne j hj k hk).2.2.2.2.2.2.2.2.2.2.2.2.2.2.2.2.2.2.2.2.2.2.2.2.2.2.2.2.2.2.2.2.2.2.2.2.2.2.2.2.2.2.2.2.1)), (List.forall_mem_cons.mpr ⟨((fun j hj k hk => (er234ne j hj k hk).2.2.2.2.2.2.2.2.2.2.2.2.2.2.2.2.2.2.2.2.2.2.2.2.2.2.2.2.2.2.2.2.2.2.2.2.2.2.2.2.2.2.2.2.2.1)), (List.forall_mem_cons.mpr ⟨((fun j hj k hk => (er234ne j hj k hk).2.2.2.2.2.2.2.2.2.2.2.2.2.2.2.2.2.2.2.2.2.2.2.2.2.2.2.2.2.2.2.2.2.2.2.2.2.2.2.2.2.2.2.2.2.2.1)), (List.forall_mem_cons.mpr ⟨((fun j hj k hk => (er234ne j hj k hk).2.2.2.2.2.2.2.2.2.2.2.2.2.2.2.2.2.2.2.2.2.2.2.2.2.2.2.2.2.2.2.2.2.2.2.2.2.2.2.2.2.2.2.2.2.2.2.1)), (List.forall_mem_cons.mpr ⟨((fun j hj k hk => (er234ne j hj k hk).2.2.2.2.2.2.2.2.2.2.2.2.2.2.2.2.2.2.2.2.2.2.2.2.2.2.2.2.2.2.2.2.2.2.2.2.2.2.2.2.2.2.2.2.2.2.2.2.1)), (List.forall_mem_cons.mpr ⟨((fun j hj k hk => (er234ne j hj k hk).2.2.2.2.2.2.2.2.2.2.2.2.2.2.2.2.2.2.2.2.2.2.2.2.2.2.2.2.2.2.2.2.2.2.2.2.2.2.2.2.2.2.2.2.2.2.2.2.2.1)), (List.forall_mem_cons.mpr ⟨((fun j hj k hk => (er234ne j hj k hk).2.2.2.2.2.2.2.2.2.2.2.2.2.2.2.2.2.2.2.2.2.2.2.2.2.2.2.2.2.2.2.2.2.2.2.2.2.2.2.2.2.2.2.2.2.2.2.2.2.2.1)), (List.forall_mem_cons.mpr ⟨((fun j hj k hk => (er234ne j hj k hk).2.2.2.2.2.2.2.2.2.2.2.2.2.2.2.2.2.2.2.2.2.2.2.2.2.2.2.2.2.2.2.2.2.2.2.2.2.2.2.2.2.2.2.2.2.2.2.2.2.2.2.1)), (List.forall_mem_cons.mpr ⟨((fun j hj k hk => (er234ne j hj k hk).2.2.2.2.2.2.2.2.2.2.2.2.2.2.2.2.2.2.2.2.2.2.2.2.2.2.2.2.2.2.2.2.2.2.2.2.2.2.2.2.2.2.2.2.2.2.2.2.2.2.2.2.1)), (List.forall_mem_cons.mpr ⟨((fun j hj k hk => (er234ne j hj k hk).2.2.2.2.2.2.2.2.2.2.2.2.2.2.2.2.2.2.2.2.2.2.2.2.2.2.2.2.2.2.2.2.2.2.2.2.2.2.2.2.2.2.2.2.2.2.2.2.2.2.2.2.2)), (List.forall_mem_cons.mpr ⟨((fun j hj k hk e => (hR2256.1 j hj k hk).2 (e ▸ hm6))), (fun _ h => absurd h List.not_mem_nil)⟩)⟩)⟩)⟩)⟩)⟩)⟩)⟩)⟩)⟩)⟩)⟩)⟩)⟩)⟩)⟩)⟩)⟩)⟩)⟩)⟩)⟩)⟩)⟩)⟩)⟩)⟩)⟩)⟩)⟩)⟩)⟩)⟩)⟩)⟩)⟩)⟩)⟩)⟩)⟩)⟩)⟩)⟩)⟩)⟩)⟩)⟩)⟩)⟩)⟩)⟩)⟩)⟩)⟩)⟩)⟩)⟩)⟩)⟩)⟩)⟩)⟩)⟩)⟩)⟩)⟩)⟩)⟩)⟩)⟩)⟩)⟩)⟩)⟩)⟩)⟩)⟩)⟩)⟩)
  refine W.widen (k := 1000) (n := 200000) (Nat.le_of_ble_eq_true rfl) (Nat.le_of_ble_eq_true rfl) ?_
  exact law_loop l C0 hL htr hG hE hst 513 0 0 th0 _ _ _ _ hT ci0 mi0 hP hD hS (lv_sub hl [0, 1, 2, 3, 4] rfl) (by decide) (by decide) (by decide)
