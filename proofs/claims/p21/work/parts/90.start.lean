set_option maxHeartbeats 4000000 in
set_option maxRecDepth 100000 in
theorem whole_start {p : Program} {e : Env} {s : State} {m : MethodId} {below : List Frame} {meth : Method} {c : Code} (l : Launch) (hflags : l.flags = flags0) {b L : Nat} {xs : Nat → Int32} (hL : L ≤ 3072) (C0 : lw_At p s m meth c b L xs) : W p l e room_1 s m #[Value.ref b] below meth c s.heap [] 0 0 (lw_Z below #[Value.ref b] s) (entryFrame m ([Value.ref b] : List Value).toArray 7) := by
  obtain ⟨hx, hb, hr, hml, hown, hts0, hXs, hbl, hlocks, hgv⟩ := id C0
  have htr : l.stackTraces = false := by unfold Launch.stackTraces; rw [hflags]; decide
  have hown : s.vm.findClass "RulerWordLaw" = some m.cls := hown
  have hts := hts1 hts0
  have hA : ∀ q, s.heap.size ≤ q → (fun q : Nat => s.heap.size ≤ q) q := fun _ h => h
  have hbA : ¬ (fun q : Nat => s.heap.size ≤ q) b := Nat.not_le.mpr hbl
  obtain ⟨g, hG, hE⟩ := world (A := (fun q : Nat => s.heap.size ≤ q)) hts0 hgv (fun a h1 h2 => absurd h1 (Nat.not_lt.mpr h2))
  have hP : va_P g.1 vwCl (va_pl [] (fun _ => .inr (0, []))) s.heap := fun k q h => by simp [va_pl] at h
  have hD : va_D (fun q : Nat => s.heap.size ≤ q) (va_pl [] (fun _ => .inr (0, []))) := ⟨fun i j p q h => by simp [va_pl] at h, fun k q h => by simp [va_pl] at h⟩
  have hS : va_S (fun q : Nat => s.heap.size ≤ q) s.heap s.heap [] := va_S.rf
  have hl := lv_entry ([.ref b]) (n := 7) (Nat.le_of_ble_eq_true rfl)
  rw [lg_entry_eq]
  generalize (lg_sl ([.ref b]) ++ List.replicate (7 - (lg_sl ([.ref b])).length) Slot.unset).toArray = ls at hl ⊢
  have hl : lv_has ls 7 [(0, .ref b)] := hl
  refine pl_new (ci := 9) (fs := [.null, .null, .null, .null, .null, .null, .null, .null, .null, .null, .null, .null, .null, .null, .null, .int 0, .int 0, .long 0]) (C := RX10) (T := TX10) (N := 18) hx hb hts (fun w h => mT (inX10 w h)) tyX10 tyX10_ok hown (hts _ (mT wg_181)) (hts _ (mT wg_182)) (hts _ (mT wg_157)) hG.1 hP hD hS hA rfl dvX10 (Nat.le_of_ble_eq_true rfl) (Nat.le_of_ble_eq_true rfl) dL_law_0 (fun q1 H L2 f3 hq4 hs5 hm6 hf7 ho8 hP hD hS => ?_)
  have hN9 : [q1].Nodup := List.nodup_cons.mpr ⟨fun h => hq4 (nil_in _ h), List.nodup_nil⟩
  have hNs10 : ∀ b, b ∈ [q1] → b ∈ L2 := List.forall_mem_cons.mpr ⟨hm6, fun b hb => hs5 b (nil_in b hb)⟩
  refine lv_dup hx hb dL_law_3 rfl ?_
  refine call_v (run_I (rm := { frames := 3, cells := 254, slots := 7965, locals := 53 }) hx hb hml hown hts (k_X10_init l g _ _ _ q1 hm6 hf7) cI_X10_init wg_183 ⟨Nat.le_of_ble_eq_true rfl, Nat.le_of_ble_eq_true rfl⟩ hG hE hA hP hD hS rfl hl.1 (As := []) (rest := [.ref q1]) rfl (Nat.le_of_ble_eq_true rfl) dL_law_4 ⟨Nat.le_of_ble_eq_true rfl, Nat.le_of_ble_eq_true rfl⟩) hA hD hS (fun L12 f13 H locs hp14 hP hD hS => ?_)
  obtain ⟨q15, q16, q17, q18, q19, q20, q21, q22, q23, q24, q25, q26, q27, q28, q29, q30, q31, q32, q33, q34, q35, q36, q37, q38, q39, q40, q41, q42, q43, q44, q45, q46, q47, q48, q49, q50, q51, q52, q53, q54, q55, q56, q57, q58, q59, q60, q61, q62, q63, q64, q65, q66, q67, q68, r69, aa70, hn71, hm72, hf73, hn74, hm75, hf76, hn77, hm78, hf79, hn80, hm81, hf82, hn83, hm84, hf85, hn86, hm87, hf88, hn89, hm90, hf91, hn92, hm93, hf94, hn95, hm96, hf97, hn98, hm99, hf100, hn101, hm102, hf103, hn104, hm105, hf106, hn107, hm108, hf109, hn110, hm111, hf112, hn113, hm114, hf115, hn116, hm117, hf118, hn119, hm120, hf121, hn122, hm123, hf124, hn125, hm126, hf127, hn128, hm129, hf130, hn131, hm132, hf133, hn134, hm135, hf136, hn137, hm138, hf139, hn140, hm141, hf142, hn143, hm144, hf145, hn146, hm147, hf148, hn149, hm150, hf151, hn152, hm153, hf154, hn155, hm156, hf157, hn158, hm159, hf160, hn161, hm162, hf163, hn164, hm165, hf166, hn167, hm168, hf169, hn170, hm171, hf172, hn173, hm174, hf175, hn176, hm177, hf178, hn179, hm180, hf181, hn182, hm183, hf184, hn185, hm186, hf187, hn188, hm189, hf190, hn191, hm192, hf193, hn194, hm195, hf196, hn197, hm198, hf199, hn200, hm201, hf202, hn203, hm204, hf205, hn206, hm207, hf208, hn209, hm210, hf211, hn212, hm213, hf214, hn215, hm216, hf217, hn218, hm219, hf220, hn221, hm222, hf223, hn224, hm225, hf226, hn227, hm228, hf229, hn230, hm231, hf232, hf233, er234, fr235, sb236⟩ := hp14
  obtain ⟨er234, er234R, er234ne, er234rr⟩ := er234
  have hN237 : [q15, q16, q17, q18, q19, q20, q21, q22, q23, q24, q25, q26, q27, q28, q29, q30, q31, q32, q33, q34, q35, q36, q37, q38, q39, q40, q41, q42, q43, q44, q45, q46, q47, q48, q49, q50, q51, q52, q53, q54, q55, q56, q57, q58, q59, q60, q61, q62, q63, q64, q65, q66, q67, q68, q1].Nodup := nd_app (l := [q15, q16, q17, q18, q19, q20, q21, q22, q23, q24, q25, q26, q27, q28, q29, q30, q31, q32, q33, q34, q35, q36, q37, q38, q39, q40, q41, q42, q43, q44, q45, q46, q47, q48, q49, q50, q51, q52, q53, q54, q55, q56, q57, q58, q59, q60, q61, q62, q63, q64, q65, q66, q67, q68]) (k := [q1]) er234 (List.forall_mem_cons.mpr ⟨hn71, (List.forall_mem_cons.mpr ⟨hn74, (List.forall_mem_cons.mpr ⟨hn77, (List.forall_mem_cons.mpr ⟨hn80, (List.forall_mem_cons.mpr ⟨hn83, (List.forall_mem_cons.mpr ⟨hn86, (List.forall_mem_cons.mpr ⟨hn89, (List.forall_mem_cons.mpr ⟨hn92, (List.forall_mem_cons.mpr ⟨hn95, (List.forall_mem_cons.mpr ⟨hn98, (List.forall_mem_cons.mpr ⟨hn101, (List.forall_mem_cons.mpr ⟨hn104, (List.forall_mem_cons.mpr ⟨hn107, (List.forall_mem_cons.mpr ⟨hn110, (List.forall_mem_cons.mpr ⟨hn113, (List.forall_mem_cons.mpr ⟨hn116, (List.forall_mem_cons.mpr ⟨hn119, (List.forall_mem_cons.mpr ⟨hn122, (List.forall_mem_cons.mpr ⟨hn125, (List.forall_mem_cons.mpr ⟨hn128, (List.forall_mem_cons.mpr ⟨hn131, (List.forall_mem_cons.mpr ⟨hn134, (List.forall_mem_cons.mpr ⟨hn137, (List.forall_mem_cons.mpr ⟨hn140, (List.forall_mem_cons.mpr ⟨hn143, (List.forall_mem_cons.mpr ⟨hn146, (List.forall_mem_cons.mpr ⟨hn149, (List.forall_mem_cons.mpr ⟨hn152, (List.forall_mem_cons.mpr ⟨hn155, (List.forall_mem_cons.mpr ⟨hn158, (List.forall_mem_cons.mpr ⟨hn161, (List.forall_mem_cons.mpr ⟨hn164, (List.forall_mem_cons.mpr ⟨hn167, (List.forall_mem_cons.mpr ⟨hn170, (List.forall_mem_cons.mpr ⟨hn173, (List.forall_mem_cons.mpr ⟨hn176, (List.forall_mem_cons.mpr ⟨hn179, (List.forall_mem_cons.mpr ⟨hn182, (List.forall_mem_cons.mpr ⟨hn185, (List.forall_mem_cons.mpr ⟨hn188, (List.forall_mem_cons.mpr ⟨hn191, (List.forall_mem_cons.mpr ⟨hn194, (List.forall_mem_cons.mpr ⟨hn197, (List.forall_mem_cons.mpr ⟨hn200, (List.forall_mem_cons.mpr ⟨hn203, (List.forall_mem_cons.mpr ⟨hn206, (List.forall_mem_cons.mpr ⟨hn209, (List.forall_mem_cons.mpr ⟨hn212, (List.forall_mem_cons.mpr ⟨hn215, (List.forall_mem_cons.mpr ⟨hn218, (List.forall_mem_cons.mpr ⟨hn221, (List.forall_mem_cons.mpr ⟨hn224, (List.forall_mem_cons.mpr ⟨hn227, (List.forall_mem_cons.mpr ⟨hn230, (fun _ h => absurd h List.not_mem_nil)⟩)⟩)⟩)⟩)⟩)⟩)⟩)⟩)⟩)⟩)⟩)⟩)⟩)⟩)⟩)⟩)⟩)⟩)⟩)⟩)⟩)⟩)⟩)⟩)⟩)⟩)⟩)⟩)⟩)⟩)⟩)⟩)⟩)⟩)⟩)⟩)⟩)⟩)⟩)⟩)⟩)⟩)⟩)⟩)⟩)⟩)⟩)⟩)⟩)⟩)⟩)⟩)⟩)⟩) hN9 hNs10
  have hNs238 : ∀ b, b ∈ [q15, q16, q17, q18, q19, q20, q21, q22, q23, q24, q25, q26, q27, q28, q29, q30, q31, q32, q33, q34, q35, q36, q37, q38, q39, q40, q41, q42, q43, q44, q45, q46, q47, q48, q49, q50, q51, q52, q53, q54, q55, q56, q57, q58, q59, q60, q61, q62, q63, q64, q65, q66, q67, q68, q1] → b ∈ L12 := fm_app (l := [q15, q16, q17, q18, q19, q20, q21, q22, q23, q24, q25, q26, q27, q28, q29, q30, q31, q32, q33, q34, q35, q36, q37, q38, q39, q40, q41, q42, q43, q44, q45, q46, q47, q48, q49, q50, q51, q52, q53, q54, q55, q56, q57, q58, q59, q60, q61, q62, q63, q64, q65, q66, q67, q68]) (k := [q1]) (List.forall_mem_cons.mpr ⟨hm72, (List.forall_mem_cons.mpr ⟨hm75, (List.forall_mem_cons.mpr ⟨hm78, (List.forall_mem_cons.mpr ⟨hm81, (List.forall_mem_cons.mpr ⟨hm84, (List.forall_mem_cons.mpr ⟨hm87, (List.forall_mem_cons.mpr ⟨hm90, (List.forall_mem_cons.mpr ⟨hm93, (List.forall_mem_cons.mpr ⟨hm96, (List.forall_mem_cons.mpr ⟨hm99, (List.forall_mem_cons.mpr ⟨hm102, (List.forall_mem_cons.mpr ⟨hm105, (List.forall_mem_cons.mpr ⟨hm108, (List.forall_mem_cons.mpr ⟨hm111, (List.forall_mem_cons.mpr ⟨hm114, (List.forall_mem_cons.mpr ⟨hm117, (List.forall_mem_cons.mpr ⟨hm120, (List.forall_mem_cons.mpr ⟨hm123, (List.forall_mem_cons.mpr ⟨hm126, (List.forall_mem_cons.mpr ⟨hm129, (List.forall_mem_cons.mpr ⟨hm132, (List.forall_mem_cons.mpr ⟨hm135, (List.forall_mem_cons.mpr ⟨hm138, (List.forall_mem_cons.mpr ⟨hm141, (List.forall_mem_cons.mpr ⟨hm144, (List.forall_mem_cons.mpr ⟨hm147, (List.forall_mem_cons.mpr ⟨hm150, (List.forall_mem_cons.mpr ⟨hm153, (List.forall_mem_cons.mpr ⟨hm156, (List.forall_mem_cons.mpr ⟨hm159, (List.forall_mem_cons.mpr ⟨hm162, (List.forall_mem_cons.mpr ⟨hm165, (List.forall_mem_cons.mpr ⟨hm168, (List.forall_mem_cons.mpr ⟨hm171, (List.forall_mem_cons.mpr ⟨hm174, (List.forall_mem_cons.mpr ⟨hm177, (List.forall_mem_cons.mpr ⟨hm180, (List.forall_mem_cons.mpr ⟨hm183, (List.forall_mem_cons.mpr ⟨hm186, (List.forall_mem_cons.mpr ⟨hm189, (List.forall_mem_cons.mpr ⟨hm192, (List.forall_mem_cons.mpr ⟨hm195, (List.forall_mem_cons.mpr ⟨hm198, (List.forall_mem_cons.mpr ⟨hm201, (List.forall_mem_cons.mpr ⟨hm204, (List.forall_mem_cons.mpr ⟨hm207, (List.forall_mem_cons.mpr ⟨hm210, (List.forall_mem_cons.mpr ⟨hm213, (List.forall_mem_cons.mpr ⟨hm216, (List.forall_mem_cons.mpr ⟨hm219, (List.forall_mem_cons.mpr ⟨hm222, (List.forall_mem_cons.mpr ⟨hm225, (List.forall_mem_cons.mpr ⟨hm228, (List.forall_mem_cons.mpr ⟨hm231, (fun _ h => absurd h List.not_mem_nil)⟩)⟩)⟩)⟩)⟩)⟩)⟩)⟩)⟩)⟩)⟩)⟩)⟩)⟩)⟩)⟩)⟩)⟩)⟩)⟩)⟩)⟩)⟩)⟩)⟩)⟩)⟩)⟩)⟩)⟩)⟩)⟩)⟩)⟩)⟩)⟩)⟩)⟩)⟩)⟩)⟩)⟩)⟩)⟩)⟩)⟩)⟩)⟩)⟩)⟩)⟩)⟩)⟩)⟩) (fun b hb => sb236 b (hNs10 b hb))
  have hn240 : q1 ≠ q15 := fun e => hn71 (e ▸ hm6)
  have hn241 : q1 ≠ q16 := fun e => hn74 (e ▸ hm6)
  have hn242 : q1 ≠ q17 := fun e => hn77 (e ▸ hm6)
  have hn243 : q1 ≠ q18 := fun e => hn80 (e ▸ hm6)
  have hn244 : q1 ≠ q19 := fun e => hn83 (e ▸ hm6)
  have hn245 : q1 ≠ q20 := fun e => hn86 (e ▸ hm6)
  have hn246 : q1 ≠ q21 := fun e => hn89 (e ▸ hm6)
  have hn247 : q1 ≠ q22 := fun e => hn92 (e ▸ hm6)
  have hn248 : q1 ≠ q23 := fun e => hn95 (e ▸ hm6)
  have hn249 : q1 ≠ q24 := fun e => hn98 (e ▸ hm6)
  have hn250 : q1 ≠ q25 := fun e => hn101 (e ▸ hm6)
  have hn251 : q1 ≠ q26 := fun e => hn104 (e ▸ hm6)
  have hn252 : q1 ≠ q27 := fun e => hn107 (e ▸ hm6)
  have hn253 : q1 ≠ q28 := fun e => hn110 (e ▸ hm6)
  have hn254 : q1 ≠ q29 := fun e => hn113 (e ▸ hm6)
  have hn255 : q1 ≠ q30 := fun e => hn116 (e ▸ hm6)
  have hn256 : q1 ≠ q31 := fun e => hn119 (e ▸ hm6)
  have hn257 : q1 ≠ q32 := fun e => hn122 (e ▸ hm6)
  have hn258 : q1 ≠ q33 := fun e => hn125 (e ▸ hm6)
  have hn259 : q1 ≠ q34 := fun e => hn128 (e ▸ hm6)
  have hn260 : q1 ≠ q35 := fun e => hn131 (e ▸ hm6)
  have hn261 : q1 ≠ q36 := fun e => hn134 (e ▸ hm6)
  have hn262 : q1 ≠ q37 := fun e => hn137 (e ▸ hm6)
  have hn263 : q1 ≠ q38 := fun e => hn140 (e ▸ hm6)
  have hn264 : q1 ≠ q39 := fun e => hn143 (e ▸ hm6)
  have hn265 : q1 ≠ q40 := fun e => hn146 (e ▸ hm6)
  have hn266 : q1 ≠ q41 := fun e => hn149 (e ▸ hm6)
  have hn267 : q1 ≠ q42 := fun e => hn152 (e ▸ hm6)
  have hn268 : q1 ≠ q43 := fun e => hn155 (e ▸ hm6)
  have hn269 : q1 ≠ q44 := fun e => hn158 (e ▸ hm6)
  have hn270 : q1 ≠ q45 := fun e => hn161 (e ▸ hm6)
  have hn271 : q1 ≠ q46 := fun e => hn164 (e ▸ hm6)
  have hn272 : q1 ≠ q47 := fun e => hn167 (e ▸ hm6)
  have hn273 : q1 ≠ q48 := fun e => hn170 (e ▸ hm6)
  have hn274 : q1 ≠ q49 := fun e => hn173 (e ▸ hm6)
  have hn275 : q1 ≠ q50 := fun e => hn176 (e ▸ hm6)
  have hn276 : q1 ≠ q51 := fun e => hn179 (e ▸ hm6)
  have hn277 : q1 ≠ q52 := fun e => hn182 (e ▸ hm6)
  have hn278 : q1 ≠ q53 := fun e => hn185 (e ▸ hm6)
  have hn279 : q1 ≠ q54 := fun e => hn188 (e ▸ hm6)
  have hn280 : q1 ≠ q55 := fun e => hn191 (e ▸ hm6)
  have hn281 : q1 ≠ q56 := fun e => hn194 (e ▸ hm6)
  have hn282 : q1 ≠ q57 := fun e => hn197 (e ▸ hm6)
  have hn283 : q1 ≠ q58 := fun e => hn200 (e ▸ hm6)
  have hn284 : q1 ≠ q59 := fun e => hn203 (e ▸ hm6)
  have hn285 : q1 ≠ q60 := fun e => hn206 (e ▸ hm6)
  have hn286 : q1 ≠ q61 := fun e => hn209 (e ▸ hm6)
  have hn287 : q1 ≠ q62 := fun e => hn212 (e ▸ hm6)
  have hn288 : q1 ≠ q63 := fun e => hn215 (e ▸ hm6)
  have hn289 : q1 ≠ q64 := fun e => hn218 (e ▸ hm6)
  have hn290 : q1 ≠ q65 := fun e => hn221 (e ▸ hm6)
  have hn291 : q1 ≠ q66 := fun e => hn224 (e ▸ hm6)
  have hn292 : q1 ≠ q67 := fun e => hn227 (e ▸ hm6)
  have hn293 : q1 ≠ q68 := fun e => hn230 (e ▸ hm6)
  have hm239 := sb236 _ hm6
  refine lv_astore_n (lv' := [(1, .ref q1), (0, .ref b)]) hx hb dL_law_7 rfl hl (by decide) rfl (fun ls hl => ?_)
  refine pl_new (ci := 10) (fs := [.int 0, .null, .int 0, .int 0, .int 0, .int 0, .int 0, .null, .int 0, .int 0, .null, .null, .int 0, .int 0, .int 0, .int 0, .int 0, .int 0, .int 0, .int 0, .int 0, .long 0, .long 0, .int 0, .null, .int 0, .null, .null, .null, .null, .null, .null, .null, .null, .null, .null, .int 0, .int 0, .int 0, .int 0, .int 0, .null, .null, .null, .null, .long 0, .long 0, .int 0, .int 0, .null, .int 0, .int 0, .null, .int 0, .null, .int 0]) (C := RX11) (T := TX11) (N := 56) hx hb hts (fun w h => mT (inX11 w h)) tyX11 tyX11_ok hown (hts _ (mT wg_1329)) (hts _ (mT wg_1330)) (hts _ (mT wg_168)) hG.1 hP hD hS hA rfl dvX11 (Nat.le_of_ble_eq_true rfl) (Nat.le_of_ble_eq_true rfl) dL_law_8 (fun q294 H L295 f296 hq297 hs298 hm299 hf300 ho301 hP hD hS => ?_)
  have hN302 : [q294, q15, q16, q17, q18, q19, q20, q21, q22, q23, q24, q25, q26, q27, q28, q29, q30, q31, q32, q33, q34, q35, q36, q37, q38, q39, q40, q41, q42, q43, q44, q45, q46, q47, q48, q49, q50, q51, q52, q53, q54, q55, q56, q57, q58, q59, q60, q61, q62, q63, q64, q65, q66, q67, q68, q1].Nodup := List.nodup_cons.mpr ⟨fun h => hq297 (hNs238 _ h), hN237⟩
  have hNs303 : ∀ b, b ∈ [q294, q15, q16, q17, q18, q19, q20, q21, q22, q23, q24, q25, q26, q27, q28, q29, q30, q31, q32, q33, q34, q35, q36, q37, q38, q39, q40, q41, q42, q43, q44, q45, q46, q47, q48, q49, q50, q51, q52, q53, q54, q55, q56, q57, q58, q59, q60, q61, q62, q63, q64, q65, q66, q67, q68, q1] → b ∈ L295 := List.forall_mem_cons.mpr ⟨hm299, fun b hb => hs298 b (hNs238 b hb)⟩
  have hRq304 : ∀ j, j < 20 → ∀ k, k < 10 → aa70 j k ≠ q294 := fun j hj k hk e => hq297 (e ▸ (er234R.1 j hj k hk).1)
  have hR305 : RINGP g L2 L295 f296 20 aa70 := RINGP.tr er234R hRq304 hs298 (fun b hb _ => ho301 b hb)
  have hf306 := (ho301 q1 hm239).trans hf233
  have hn308 : q1 ≠ q294 := fun e => hq297 (e ▸ hm239)
  have hm307 := hs298 _ hm239
  have hf309 := (ho301 q15 hm72).trans hf73
  have hn311 : q15 ≠ q294 := fun e => hq297 (e ▸ hm72)
  have hm310 := hs298 _ hm72
  have hf312 := (ho301 q16 hm75).trans hf76
  have hn314 : q16 ≠ q294 := fun e => hq297 (e ▸ hm75)
  have hm313 := hs298 _ hm75
  have hf315 := (ho301 q17 hm78).trans hf79
  have hn317 : q17 ≠ q294 := fun e => hq297 (e ▸ hm78)
  have hm316 := hs298 _ hm78
  have hf318 := (ho301 q18 hm81).trans hf82
  have hn320 : q18 ≠ q294 := fun e => hq297 (e ▸ hm81)
  have hm319 := hs298 _ hm81
  have hf321 := (ho301 q19 hm84).trans hf85
  have hn323 : q19 ≠ q294 := fun e => hq297 (e ▸ hm84)
  have hm322 := hs298 _ hm84
  have hf324 := (ho301 q20 hm87).trans hf88
  have hn326 : q20 ≠ q294 := fun e => hq297 (e ▸ hm87)
  have hm325 := hs298 _ hm87
  have hf327 := (ho301 q21 hm90).trans hf91
  have hn329 : q21 ≠ q294 := fun e => hq297 (e ▸ hm90)
  have hm328 := hs298 _ hm90
  have hf330 := (ho301 q22 hm93).trans hf94
  have hn332 : q22 ≠ q294 := fun e => hq297 (e ▸ hm93)
  have hm331 := hs298 _ hm93
  have hf333 := (ho301 q23 hm96).trans hf97
  have hn335 : q23 ≠ q294 := fun e => hq297 (e ▸ hm96)
  have hm334 := hs298 _ hm96
  have hf336 := (ho301 q24 hm99).trans hf100
  have hn338 : q24 ≠ q294 := fun e => hq297 (e ▸ hm99)
  have hm337 := hs298 _ hm99
  have hf339 := (ho301 q25 hm102).trans hf103
  have hn341 : q25 ≠ q294 := fun e => hq297 (e ▸ hm102)
  have hm340 := hs298 _ hm102
  have hf342 := (ho301 q26 hm105).trans hf106
  have hn344 : q26 ≠ q294 := fun e => hq297 (e ▸ hm105)
  have hm343 := hs298 _ hm105
  have hf345 := (ho301 q27 hm108).trans hf109
  have hn347 : q27 ≠ q294 := fun e => hq297 (e ▸ hm108)
  have hm346 := hs298 _ hm108
  have hf348 := (ho301 q28 hm111).trans hf112
  have hn350 : q28 ≠ q294 := fun e => hq297 (e ▸ hm111)
  have hm349 := hs298 _ hm111
  have hf351 := (ho301 q29 hm114).trans hf115
  have hn353 : q29 ≠ q294 := fun e => hq297 (e ▸ hm114)
  have hm352 := hs298 _ hm114
  have hf354 := (ho301 q30 hm117).trans hf118
  have hn356 : q30 ≠ q294 := fun e => hq297 (e ▸ hm117)
  have hm355 := hs298 _ hm117
  have hf357 := (ho301 q31 hm120).trans hf121
  have hn359 : q31 ≠ q294 := fun e => hq297 (e ▸ hm120)
  have hm358 := hs298 _ hm120
  have hf360 := (ho301 q32 hm123).trans hf124
  have hn362 : q32 ≠ q294 := fun e => hq297 (e ▸ hm123)
  have hm361 := hs298 _ hm123
  have hf363 := (ho301 q33 hm126).trans hf127
  have hn365 : q33 ≠ q294 := fun e => hq297 (e ▸ hm126)
  have hm364 := hs298 _ hm126
  have hf366 := (ho301 q34 hm129).trans hf130
  have hn368 : q34 ≠ q294 := fun e => hq297 (e ▸ hm129)
  have hm367 := hs298 _ hm129
  have hf369 := (ho301 q35 hm132).trans hf133
  have hn371 : q35 ≠ q294 := fun e => hq297 (e ▸ hm132)
  have hm370 := hs298 _ hm132
  have hf372 := (ho301 q36 hm135).trans hf136
  have hn374 : q36 ≠ q294 := fun e => hq297 (e ▸ hm135)
  have hm373 := hs298 _ hm135
  have hf375 := (ho301 q37 hm138).trans hf139
  have hn377 : q37 ≠ q294 := fun e => hq297 (e ▸ hm138)
  have hm376 := hs298 _ hm138
  have hf378 := (ho301 q38 hm141).trans hf142
  have hn380 : q38 ≠ q294 := fun e => hq297 (e ▸ hm141)
  have hm379 := hs298 _ hm141
  have hf381 := (ho301 q39 hm144).trans hf145
  have hn383 : q39 ≠ q294 := fun e => hq297 (e ▸ hm144)
  have hm382 := hs298 _ hm144
  have hf384 := (ho301 q40 hm147).trans hf148
  have hn386 : q40 ≠ q294 := fun e => hq297 (e ▸ hm147)
  have hm385 := hs298 _ hm147
  have hf387 := (ho301 q41 hm150).trans hf151
  have hn389 : q41 ≠ q294 := fun e => hq297 (e ▸ hm150)
  have hm388 := hs298 _ hm150
  have hf390 := (ho301 q42 hm153).trans hf154
  have hn392 : q42 ≠ q294 := fun e => hq297 (e ▸ hm153)
  have hm391 := hs298 _ hm153
  have hf393 := (ho301 q43 hm156).trans hf157
  have hn395 : q43 ≠ q294 := fun e => hq297 (e ▸ hm156)
  have hm394 := hs298 _ hm156
  have hf396 := (ho301 q44 hm159).trans hf160
  have hn398 : q44 ≠ q294 := fun e => hq297 (e ▸ hm159)
  have hm397 := hs298 _ hm159
  have hf399 := (ho301 q45 hm162).trans hf163
  have hn401 : q45 ≠ q294 := fun e => hq297 (e ▸ hm162)
  have hm400 := hs298 _ hm162
  have hf402 := (ho301 q46 hm165).trans hf166
  have hn404 : q46 ≠ q294 := fun e => hq297 (e ▸ hm165)
  have hm403 := hs298 _ hm165
  have hf405 := (ho301 q47 hm168).trans hf169
  have hn407 : q47 ≠ q294 := fun e => hq297 (e ▸ hm168)
  have hm406 := hs298 _ hm168
  have hf408 := (ho301 q48 hm171).trans hf172
  have hn410 : q48 ≠ q294 := fun e => hq297 (e ▸ hm171)
  have hm409 := hs298 _ hm171
  have hf411 := (ho301 q49 hm174).trans hf175
  have hn413 : q49 ≠ q294 := fun e => hq297 (e ▸ hm174)
  have hm412 := hs298 _ hm174
  have hf414 := (ho301 q50 hm177).trans hf178
  have hn416 : q50 ≠ q294 := fun e => hq297 (e ▸ hm177)
  have hm415 := hs298 _ hm177
  have hf417 := (ho301 q51 hm180).trans hf181
  have hn419 : q51 ≠ q294 := fun e => hq297 (e ▸ hm180)
  have hm418 := hs298 _ hm180
  have hf420 := (ho301 q52 hm183).trans hf184
  have hn422 : q52 ≠ q294 := fun e => hq297 (e ▸ hm183)
  have hm421 := hs298 _ hm183
  have hf423 := (ho301 q53 hm186).trans hf187
  have hn425 : q53 ≠ q294 := fun e => hq297 (e ▸ hm186)
  have hm424 := hs298 _ hm186
  have hf426 := (ho301 q54 hm189).trans hf190
  have hn428 : q54 ≠ q294 := fun e => hq297 (e ▸ hm189)
  have hm427 := hs298 _ hm189
  have hf429 := (ho301 q55 hm192).trans hf193
  have hn431 : q55 ≠ q294 := fun e => hq297 (e ▸ hm192)
  have hm430 := hs298 _ hm192
  have hf432 := (ho301 q56 hm195).trans hf196
  have hn434 : q56 ≠ q294 := fun e => hq297 (e ▸ hm195)
  have hm433 := hs298 _ hm195
  have hf435 := (ho301 q57 hm198).trans hf199
  have hn437 : q57 ≠ q294 := fun e => hq297 (e ▸ hm198)
  have hm436 := hs298 _ hm198
  have hf438 := (ho301 q58 hm201).trans hf202
  have hn440 : q58 ≠ q294 := fun e => hq297 (e ▸ hm201)
  have hm439 := hs298 _ hm201
  have hf441 := (ho301 q59 hm204).trans hf205
  have hn443 : q59 ≠ q294 := fun e => hq297 (e ▸ hm204)
  have hm442 := hs298 _ hm204
  have hf444 := (ho301 q60 hm207).trans hf208
  have hn446 : q60 ≠ q294 := fun e => hq297 (e ▸ hm207)
  have hm445 := hs298 _ hm207
  have hf447 := (ho301 q61 hm210).trans hf211
  have hn449 : q61 ≠ q294 := fun e => hq297 (e ▸ hm210)
  have hm448 := hs298 _ hm210
  have hf450 := (ho301 q62 hm213).trans hf214
  have hn452 : q62 ≠ q294 := fun e => hq297 (e ▸ hm213)
  have hm451 := hs298 _ hm213
  have hf453 := (ho301 q63 hm216).trans hf217
  have hn455 : q63 ≠ q294 := fun e => hq297 (e ▸ hm216)
  have hm454 := hs298 _ hm216
  have hf456 := (ho301 q64 hm219).trans hf220
  have hn458 : q64 ≠ q294 := fun e => hq297 (e ▸ hm219)
  have hm457 := hs298 _ hm219
  have hf459 := (ho301 q65 hm222).trans hf223
  have hn461 : q65 ≠ q294 := fun e => hq297 (e ▸ hm222)
  have hm460 := hs298 _ hm222
  have hf462 := (ho301 q66 hm225).trans hf226
  have hn464 : q66 ≠ q294 := fun e => hq297 (e ▸ hm225)
  have hm463 := hs298 _ hm225
  have hf465 := (ho301 q67 hm228).trans hf229
  have hn467 : q67 ≠ q294 := fun e => hq297 (e ▸ hm228)
  have hm466 := hs298 _ hm228
  have hf468 := (ho301 q68 hm231).trans hf232
  have hn470 : q68 ≠ q294 := fun e => hq297 (e ▸ hm231)
  have hm469 := hs298 _ hm231
  refine lv_dup hx hb dL_law_11 rfl ?_
  refine call_v (run_I (rm := { frames := 1, cells := 22, slots := 48415, locals := 12 }) hx hb hml hown hts (k_X11_init l g _ _ _ q294 hm299 hf300) cI_X11_init wg_1331 ⟨Nat.le_of_ble_eq_true rfl, Nat.le_of_ble_eq_true rfl⟩ hG hE hA hP hD hS rfl hl.1 (As := []) (rest := [.ref q294]) rfl (Nat.le_of_ble_eq_true rfl) dL_law_12 ⟨Nat.le_of_ble_eq_true rfl, Nat.le_of_ble_eq_true rfl⟩) hA hD hS (fun L472 f473 H locs hp474 hP hD hS => ?_)
  obtain ⟨q475, q476, q477, q478, q479, q480, q481, q482, q483, q484, q485, q486, q487, q488, q489, q490, q491, q492, q493, q494, q495, q496, hn497, hm498, hf499, hn500, hm501, hf502, hn503, hm504, hf505, hn506, hm507, hf508, hn509, hm510, hf511, hn512, hm513, hf514, hn515, hm516, hf517, hn518, hm519, hf520, hn521, hm522, hf523, hn524, hm525, hf526, hn527, hm528, hf529, hn530, hm531, hf532, hn533, hm534, hf535, hn536, hm537, hf538, hn539, hm540, hf541, hn542, hm543, hf544, hn545, hm546, hf547, hn548, hm549, hf550, hn551, hm552, hf553, hn554, hm555, hf556, hn557, hm558, hf559, hn560, hm561, hf562, hf563, er564, fr565, sb566⟩ := hp474
  have hN567 : [q475, q476, q477, q478, q479, q480, q481, q482, q483, q484, q485, q486, q487, q488, q489, q490, q491, q492, q493, q494, q495, q496, q294, q15, q16, q17, q18, q19, q20, q21, q22, q23, q24, q25, q26, q27, q28, q29, q30, q31, q32, q33, q34, q35, q36, q37, q38, q39, q40, q41, q42, q43, q44, q45, q46, q47, q48, q49, q50, q51, q52, q53, q54, q55, q56, q57, q58, q59, q60, q61, q62, q63, q64, q65, q66, q67, q68, q1].Nodup := nd_app (l := [q475, q476, q477, q478, q479, q480, q481, q482, q483, q484, q485, q486, q487, q488, q489, q490, q491, q492, q493, q494, q495, q496]) (k := [q294, q15, q16, q17, q18, q19, q20, q21, q22, q23, q24, q25, q26, q27, q28, q29, q30, q31, q32, q33, q34, q35, q36, q37, q38, q39, q40, q41, q42, q43, q44, q45, q46, q47, q48, q49, q50, q51, q52, q53, q54, q55, q56, q57, q58, q59, q60, q61, q62, q63, q64, q65, q66, q67, q68, q1]) er564 (List.forall_mem_cons.mpr ⟨hn497, (List.forall_mem_cons.mpr ⟨hn500, (List.forall_mem_cons.mpr ⟨hn503, (List.forall_mem_cons.mpr ⟨hn506, (List.forall_mem_cons.mpr ⟨hn509, (List.forall_mem_cons.mpr ⟨hn512, (List.forall_mem_cons.mpr ⟨hn515, (List.forall_mem_cons.mpr ⟨hn518, (List.forall_mem_cons.mpr ⟨hn521, (List.forall_mem_cons.mpr ⟨hn524, (List.forall_mem_cons.mpr ⟨hn527, (List.forall_mem_cons.mpr ⟨hn530, (List.forall_mem_cons.mpr ⟨hn533, (List.forall_mem_cons.mpr ⟨hn536, (List.forall_mem_cons.mpr ⟨hn539, (List.forall_mem_cons.mpr ⟨hn542, (List.forall_mem_cons.mpr ⟨hn545, (List.forall_mem_cons.mpr ⟨hn548, (List.forall_mem_cons.mpr ⟨hn551, (List.forall_mem_cons.mpr ⟨hn554, (List.forall_mem_cons.mpr ⟨hn557, (List.forall_mem_cons.mpr ⟨hn560, (fun _ h => absurd h List.not_mem_nil)⟩)⟩)⟩)⟩)⟩)⟩)⟩)⟩)⟩)⟩)⟩)⟩)⟩)⟩)⟩)⟩)⟩)⟩)⟩)⟩)⟩)⟩) hN302 hNs303
  have hNs568 : ∀ b, b ∈ [q475, q476, q477, q478, q479, q480, q481, q482, q483, q484, q485, q486, q487, q488, q489, q490, q491, q492, q493, q494, q495, q496, q294, q15, q16, q17, q18, q19, q20, q21, q22, q23, q24, q25, q26, q27, q28, q29, q30, q31, q32, q33, q34, q35, q36, q37, q38, q39, q40, q41, q42, q43, q44, q45, q46, q47, q48, q49, q50, q51, q52, q53, q54, q55, q56, q57, q58, q59, q60, q61, q62, q63, q64, q65, q66, q67, q68, q1] → b ∈ L472 := fm_app (l := [q475, q476, q477, q478, q479, q480, q481, q482, q483, q484, q485, q486, q487, q488, q489, q490, q491, q492, q493, q494, q495, q496]) (k := [q294, q15, q16, q17, q18, q19, q20, q21, q22, q23, q24, q25, q26, q27, q28, q29, q30, q31, q32, q33, q34, q35, q36, q37, q38, q39, q40, q41, q42, q43, q44, q45, q46, q47, q48, q49, q50, q51, q52, q53, q54, q55, q56, q57, q58, q59, q60, q61, q62, q63, q64, q65, q66, q67, q68, q1]) (List.forall_mem_cons.mpr ⟨hm498, (List.forall_mem_cons.mpr ⟨hm501, (List.forall_mem_cons.mpr ⟨hm504, (List.forall_mem_cons.mpr ⟨hm507, (List.forall_mem_cons.mpr ⟨hm510, (List.forall_mem_cons.mpr ⟨hm513, (List.forall_mem_cons.mpr ⟨hm516, (List.forall_mem_cons.mpr ⟨hm519, (List.forall_mem_cons.mpr ⟨hm522, (List.forall_mem_cons.mpr ⟨hm525, (List.forall_mem_cons.mpr ⟨hm528, (List.forall_mem_cons.mpr ⟨hm531, (List.forall_mem_cons.mpr ⟨hm534, (List.forall_mem_cons.mpr ⟨hm537, (List.forall_mem_cons.mpr ⟨hm540, (List.forall_mem_cons.mpr ⟨hm543, (List.forall_mem_cons.mpr ⟨hm546, (List.forall_mem_cons.mpr ⟨hm549, (List.forall_mem_cons.mpr ⟨hm552, (List.forall_mem_cons.mpr ⟨hm555, (List.forall_mem_cons.mpr ⟨hm558, (List.forall_mem_cons.mpr ⟨hm561, (fun _ h => absurd h List.not_mem_nil)⟩)⟩)⟩)⟩)⟩)⟩)⟩)⟩)⟩)⟩)⟩)⟩)⟩)⟩)⟩)⟩)⟩)⟩)⟩)⟩)⟩)⟩) (fun b hb => sb566 b (hNs303 b hb))
  have hRq569 : ∀ j, j < 20 → ∀ k, k < 10 → aa70 j k ≠ q475 := fun j hj k hk e => hn497 (e ▸ (hR305.1 j hj k hk).1)
  have hRq570 : ∀ j, j < 20 → ∀ k, k < 10 → aa70 j k ≠ q476 := fun j hj k hk e => hn500 (e ▸ (hR305.1 j hj k hk).1)
  have hRq571 : ∀ j, j < 20 → ∀ k, k < 10 → aa70 j k ≠ q477 := fun j hj k hk e => hn503 (e ▸ (hR305.1 j hj k hk).1)
  have hRq572 : ∀ j, j < 20 → ∀ k, k < 10 → aa70 j k ≠ q478 := fun j hj k hk e => hn506 (e ▸ (hR305.1 j hj k hk).1)
  have hRq573 : ∀ j, j < 20 → ∀ k, k < 10 → aa70 j k ≠ q479 := fun j hj k hk e => hn509 (e ▸ (hR305.1 j hj k hk).1)
  have hRq574 : ∀ j, j < 20 → ∀ k, k < 10 → aa70 j k ≠ q480 := fun j hj k hk e => hn512 (e ▸ (hR305.1 j hj k hk).1)
  have hRq575 : ∀ j, j < 20 → ∀ k, k < 10 → aa70 j k ≠ q481 := fun j hj k hk e => hn515 (e ▸ (hR305.1 j hj k hk).1)
  have hRq576 : ∀ j, j < 20 → ∀ k, k < 10 → aa70 j k ≠ q482 := fun j hj k hk e => hn518 (e ▸ (hR305.1 j hj k hk).1)
  have hRq577 : ∀ j, j < 20 → ∀ k, k < 10 → aa70 j k ≠ q483 := fun j hj k hk e => hn521 (e ▸ (hR305.1 j hj k hk).1)
  have hRq578 : ∀ j, j < 20 → ∀ k, k < 10 → aa70 j k ≠ q484 := fun j hj k hk e => hn524 (e ▸ (hR305.1 j hj k hk).1)
  have hRq579 : ∀ j, j < 20 → ∀ k, k < 10 → aa70 j k ≠ q485 := fun j hj k hk e => hn527 (e ▸ (hR305.1 j hj k hk).1)
  have hRq580 : ∀ j, j < 20 → ∀ k, k < 10 → aa70 j k ≠ q486 := fun j hj k hk e => hn530 (e ▸ (hR305.1 j hj k hk).1)
  have hRq581 : ∀ j, j < 20 → ∀ k, k < 10 → aa70 j k ≠ q487 := fun j hj k hk e => hn533 (e ▸ (hR305.1 j hj k hk).1)
  have hRq582 : ∀ j, j < 20 → ∀ k, k < 10 → aa70 j k ≠ q488 := fun j hj k hk e => hn536 (e ▸ (hR305.1 j hj k hk).1)
  have hRq583 : ∀ j, j < 20 → ∀ k, k < 10 → aa70 j k ≠ q489 := fun j hj k hk e => hn539 (e ▸ (hR305.1 j hj k hk).1)
  have hRq584 : ∀ j, j < 20 → ∀ k, k < 10 → aa70 j k ≠ q490 := fun j hj k hk e => hn542 (e ▸ (hR305.1 j hj k hk).1)
  have hRq585 : ∀ j, j < 20 → ∀ k, k < 10 → aa70 j k ≠ q491 := fun j hj k hk e => hn545 (e ▸ (hR305.1 j hj k hk).1)
  have hRq586 : ∀ j, j < 20 → ∀ k, k < 10 → aa70 j k ≠ q492 := fun j hj k hk e => hn548 (e ▸ (hR305.1 j hj k hk).1)
  have hRq587 : ∀ j, j < 20 → ∀ k, k < 10 → aa70 j k ≠ q493 := fun j hj k hk e => hn551 (e ▸ (hR305.1 j hj k hk).1)
  have hRq588 : ∀ j, j < 20 → ∀ k, k < 10 → aa70 j k ≠ q494 := fun j hj k hk e => hn554 (e ▸ (hR305.1 j hj k hk).1)
  have hRq589 : ∀ j, j < 20 → ∀ k, k < 10 → aa70 j k ≠ q495 := fun j hj k hk e => hn557 (e ▸ (hR305.1 j hj k hk).1)
  have hRq590 : ∀ j, j < 20 → ∀ k, k < 10 → aa70 j k ≠ q496 := fun j hj k hk e => hn560 (e ▸ (hR305.1 j hj k hk).1)
  have hR591 : RINGP g L2 L472 f473 20 aa70 := RINGP.tr hR305 hRq304 sb566 (fun b hb hn => fr565 b hb hn)
  have hn593 : q1 ≠ q475 := fun e => hn497 (e ▸ hm307)
  have hn594 : q1 ≠ q476 := fun e => hn500 (e ▸ hm307)
  have hn595 : q1 ≠ q477 := fun e => hn503 (e ▸ hm307)
  have hn596 : q1 ≠ q478 := fun e => hn506 (e ▸ hm307)
  have hn597 : q1 ≠ q479 := fun e => hn509 (e ▸ hm307)
  have hn598 : q1 ≠ q480 := fun e => hn512 (e ▸ hm307)
  have hn599 : q1 ≠ q481 := fun e => hn515 (e ▸ hm307)
  have hn600 : q1 ≠ q482 := fun e => hn518 (e ▸ hm307)
  have hn601 : q1 ≠ q483 := fun e => hn521 (e ▸ hm307)
  have hn602 : q1 ≠ q484 := fun e => hn524 (e ▸ hm307)
  have hn603 : q1 ≠ q485 := fun e => hn527 (e ▸ hm307)
  have hn604 : q1 ≠ q486 := fun e => hn530 (e ▸ hm307)
  have hn605 : q1 ≠ q487 := fun e => hn533 (e ▸ hm307)
  have hn606 : q1 ≠ q488 := fun e => hn536 (e ▸ hm307)
  have hn607 : q1 ≠ q489 := fun e => hn539 (e ▸ hm307)
  have hn608 : q1 ≠ q490 := fun e => hn542 (e ▸ hm307)
  have hn609 : q1 ≠ q491 := fun e => hn545 (e ▸ hm307)
  have hn610 : q1 ≠ q492 := fun e => hn548 (e ▸ hm307)
  have hn611 : q1 ≠ q493 := fun e => hn551 (e ▸ hm307)
  have hn612 : q1 ≠ q494 := fun e => hn554 (e ▸ hm307)
  have hn613 : q1 ≠ q495 := fun e => hn557 (e ▸ hm307)
  have hn614 : q1 ≠ q496 := fun e => hn560 (e ▸ hm307)
  have hf615 := (fr565 q1 hm307 hn308).trans hf306
  have hm592 := sb566 _ hm307
  have hn617 : q15 ≠ q475 := fun e => hn497 (e ▸ hm310)
  have hn618 : q15 ≠ q476 := fun e => hn500 (e ▸ hm310)
  have hn619 : q15 ≠ q477 := fun e => hn503 (e ▸ hm310)
  have hn620 : q15 ≠ q478 := fun e => hn506 (e ▸ hm310)
  have hn621 : q15 ≠ q479 := fun e => hn509 (e ▸ hm310)
  have hn622 : q15 ≠ q480 := fun e => hn512 (e ▸ hm310)
  have hn623 : q15 ≠ q481 := fun e => hn515 (e ▸ hm310)
  have hn624 : q15 ≠ q482 := fun e => hn518 (e ▸ hm310)
  have hn625 : q15 ≠ q483 := fun e => hn521 (e ▸ hm310)
  have hn626 : q15 ≠ q484 := fun e => hn524 (e ▸ hm310)
  have hn627 : q15 ≠ q485 := fun e => hn527 (e ▸ hm310)
  have hn628 : q15 ≠ q486 := fun e => hn530 (e ▸ hm310)
  have hn629 : q15 ≠ q487 := fun e => hn533 (e ▸ hm310)
  have hn630 : q15 ≠ q488 := fun e => hn536 (e ▸ hm310)
  have hn631 : q15 ≠ q489 := fun e => hn539 (e ▸ hm310)
  have hn632 : q15 ≠ q490 := fun e => hn542 (e ▸ hm310)
  have hn633 : q15 ≠ q491 := fun e => hn545 (e ▸ hm310)
  have hn634 : q15 ≠ q492 := fun e => hn548 (e ▸ hm310)
  have hn635 : q15 ≠ q493 := fun e => hn551 (e ▸ hm310)
  have hn636 : q15 ≠ q494 := fun e => hn554 (e ▸ hm310)
  have hn637 : q15 ≠ q495 := fun e => hn557 (e ▸ hm310)
  have hn638 : q15 ≠ q496 := fun e => hn560 (e ▸ hm310)
  have hf639 := (fr565 q15 hm310 hn311).trans hf309
  have hm616 := sb566 _ hm310
  have hn641 : q16 ≠ q475 := fun e => hn497 (e ▸ hm313)
  have hn642 : q16 ≠ q476 := fun e => hn500 (e ▸ hm313)
  have hn643 : q16 ≠ q477 := fun e => hn503 (e ▸ hm313)
  have hn644 : q16 ≠ q478 := fun e => hn506 (e ▸ hm313)
  have hn645 : q16 ≠ q479 := fun e => hn509 (e ▸ hm313)
  have hn646 : q16 ≠ q480 := fun e => hn512 (e ▸ hm313)
  have hn647 : q16 ≠ q481 := fun e => hn515 (e ▸ hm313)
  have hn648 : q16 ≠ q482 := fun e => hn518 (e ▸ hm313)
  have hn649 : q16 ≠ q483 := fun e => hn521 (e ▸ hm313)
  have hn650 : q16 ≠ q484 := fun e => hn524 (e ▸ hm313)
  have hn651 : q16 ≠ q485 := fun e => hn527 (e ▸ hm313)
  have hn652 : q16 ≠ q486 := fun e => hn530 (e ▸ hm313)
  have hn653 : q16 ≠ q487 := fun e => hn533 (e ▸ hm313)
  have hn654 : q16 ≠ q488 := fun e => hn536 (e ▸ hm313)
  have hn655 : q16 ≠ q489 := fun e => hn539 (e ▸ hm313)
  have hn656 : q16 ≠ q490 := fun e => hn542 (e ▸ hm313)
  have hn657 : q16 ≠ q491 := fun e => hn545 (e ▸ hm313)
  have hn658 : q16 ≠ q492 := fun e => hn548 (e ▸ hm313)
  have hn659 : q16 ≠ q493 := fun e => hn551 (e ▸ hm313)
  have hn660 : q16 ≠ q494 := fun e => hn554 (e ▸ hm313)
  have hn661 : q16 ≠ q495 := fun e => hn557 (e ▸ hm313)
  have hn662 : q16 ≠ q496 := fun e => hn560 (e ▸ hm313)
  have hf663 := (fr565 q16 hm313 hn314).trans hf312
  have hm640 := sb566 _ hm313
  have hn665 : q17 ≠ q475 := fun e => hn497 (e ▸ hm316)
  have hn666 : q17 ≠ q476 := fun e => hn500 (e ▸ hm316)
  have hn667 : q17 ≠ q477 := fun e => hn503 (e ▸ hm316)
  have hn668 : q17 ≠ q478 := fun e => hn506 (e ▸ hm316)
  have hn669 : q17 ≠ q479 := fun e => hn509 (e ▸ hm316)
  have hn670 : q17 ≠ q480 := fun e => hn512 (e ▸ hm316)
  have hn671 : q17 ≠ q481 := fun e => hn515 (e ▸ hm316)
  have hn672 : q17 ≠ q482 := fun e => hn518 (e ▸ hm316)
  have hn673 : q17 ≠ q483 := fun e => hn521 (e ▸ hm316)
  have hn674 : q17 ≠ q484 := fun e => hn524 (e ▸ hm316)
  have hn675 : q17 ≠ q485 := fun e => hn527 (e ▸ hm316)
  have hn676 : q17 ≠ q486 := fun e => hn530 (e ▸ hm316)
  have hn677 : q17 ≠ q487 := fun e => hn533 (e ▸ hm316)
  have hn678 : q17 ≠ q488 := fun e => hn536 (e ▸ hm316)
  have hn679 : q17 ≠ q489 := fun e => hn539 (e ▸ hm316)
  have hn680 : q17 ≠ q490 := fun e => hn542 (e ▸ hm316)
  have hn681 : q17 ≠ q491 := fun e => hn545 (e ▸ hm316)
  have hn682 : q17 ≠ q492 := fun e => hn548 (e ▸ hm316)
  have hn683 : q17 ≠ q493 := fun e => hn551 (e ▸ hm316)
  have hn684 : q17 ≠ q494 := fun e => hn554 (e ▸ hm316)
  have hn685 : q17 ≠ q495 := fun e => hn557 (e ▸ hm316)
  have hn686 : q17 ≠ q496 := fun e => hn560 (e ▸ hm316)
  have hf687 := (fr565 q17 hm316 hn317).trans hf315
  have hm664 := sb566 _ hm316
  have hn689 : q18 ≠ q475 := fun e => hn497 (e ▸ hm319)
  have hn690 : q18 ≠ q476 := fun e => hn500 (e ▸ hm319)
  have hn691 : q18 ≠ q477 := fun e => hn503 (e ▸ hm319)
  have hn692 : q18 ≠ q478 := fun e => hn506 (e ▸ hm319)
  have hn693 : q18 ≠ q479 := fun e => hn509 (e ▸ hm319)
  have hn694 : q18 ≠ q480 := fun e => hn512 (e ▸ hm319)
  have hn695 : q18 ≠ q481 := fun e => hn515 (e ▸ hm319)
  have hn696 : q18 ≠ q482 := fun e => hn518 (e ▸ hm319)
  have hn697 : q18 ≠ q483 := fun e => hn521 (e ▸ hm319)
  have hn698 : q18 ≠ q484 := fun e => hn524 (e ▸ hm319)
  have hn699 : q18 ≠ q485 := fun e => hn527 (e ▸ hm319)
  have hn700 : q18 ≠ q486 := fun e => hn530 (e ▸ hm319)
  have hn701 : q18 ≠ q487 := fun e => hn533 (e ▸ hm319)
  have hn702 : q18 ≠ q488 := fun e => hn536 (e ▸ hm319)
  have hn703 : q18 ≠ q489 := fun e => hn539 (e ▸ hm319)
  have hn704 : q18 ≠ q490 := fun e => hn542 (e ▸ hm319)
  have hn705 : q18 ≠ q491 := fun e => hn545 (e ▸ hm319)
  have hn706 : q18 ≠ q492 := fun e => hn548 (e ▸ hm319)
  have hn707 : q18 ≠ q493 := fun e => hn551 (e ▸ hm319)
  have hn708 : q18 ≠ q494 := fun e => hn554 (e ▸ hm319)
  have hn709 : q18 ≠ q495 := fun e => hn557 (e ▸ hm319)
  have hn710 : q18 ≠ q496 := fun e => hn560 (e ▸ hm319)
  have hf711 := (fr565 q18 hm319 hn320).trans hf318
  have hm688 := sb566 _ hm319
  have hn713 : q19 ≠ q475 := fun e => hn497 (e ▸ hm322)
  have hn714 : q19 ≠ q476 := fun e => hn500 (e ▸ hm322)
  have hn715 : q19 ≠ q477 := fun e => hn503 (e ▸ hm322)
  have hn716 : q19 ≠ q478 := fun e => hn506 (e ▸ hm322)
  have hn717 : q19 ≠ q479 := fun e => hn509 (e ▸ hm322)
  have hn718 : q19 ≠ q480 := fun e => hn512 (e ▸ hm322)
  have hn719 : q19 ≠ q481 := fun e => hn515 (e ▸ hm322)
  have hn720 : q19 ≠ q482 := fun e => hn518 (e ▸ hm322)
  have hn721 : q19 ≠ q483 := fun e => hn521 (e ▸ hm322)
  have hn722 : q19 ≠ q484 := fun e => hn524 (e ▸ hm322)
  have hn723 : q19 ≠ q485 := fun e => hn527 (e ▸ hm322)
  have hn724 : q19 ≠ q486 := fun e => hn530 (e ▸ hm322)
  have hn725 : q19 ≠ q487 := fun e => hn533 (e ▸ hm322)
  have hn726 : q19 ≠ q488 := fun e => hn536 (e ▸ hm322)
  have hn727 : q19 ≠ q489 := fun e => hn539 (e ▸ hm322)
  have hn728 : q19 ≠ q490 := fun e => hn542 (e ▸ hm322)
  have hn729 : q19 ≠ q491 := fun e => hn545 (e ▸ hm322)
  have hn730 : q19 ≠ q492 := fun e => hn548 (e ▸ hm322)
  have hn731 : q19 ≠ q493 := fun e => hn551 (e ▸ hm322)
  have hn732 : q19 ≠ q494 := fun e => hn554 (e ▸ hm322)
  have hn733 : q19 ≠ q495 := fun e => hn557 (e ▸ hm322)
  have hn734 : q19 ≠ q496 := fun e => hn560 (e ▸ hm322)
  have hf735 := (fr565 q19 hm322 hn323).trans hf321
  have hm712 := sb566 _ hm322
  have hn737 : q20 ≠ q475 := fun e => hn497 (e ▸ hm325)
  have hn738 : q20 ≠ q476 := fun e => hn500 (e ▸ hm325)
  have hn739 : q20 ≠ q477 := fun e => hn503 (e ▸ hm325)
  have hn740 : q20 ≠ q478 := fun e => hn506 (e ▸ hm325)
  have hn741 : q20 ≠ q479 := fun e => hn509 (e ▸ hm325)
  have hn742 : q20 ≠ q480 := fun e => hn512 (e ▸ hm325)
  have hn743 : q20 ≠ q481 := fun e => hn515 (e ▸ hm325)
  have hn744 : q20 ≠ q482 := fun e => hn518 (e ▸ hm325)
  have hn745 : q20 ≠ q483 := fun e => hn521 (e ▸ hm325)
  have hn746 : q20 ≠ q484 := fun e => hn524 (e ▸ hm325)
  have hn747 : q20 ≠ q485 := fun e => hn527 (e ▸ hm325)
  have hn748 : q20 ≠ q486 := fun e => hn530 (e ▸ hm325)
  have hn749 : q20 ≠ q487 := fun e => hn533 (e ▸ hm325)
  have hn750 : q20 ≠ q488 := fun e => hn536 (e ▸ hm325)
  have hn751 : q20 ≠ q489 := fun e => hn539 (e ▸ hm325)
  have hn752 : q20 ≠ q490 := fun e => hn542 (e ▸ hm325)
  have hn753 : q20 ≠ q491 := fun e => hn545 (e ▸ hm325)
  have hn754 : q20 ≠ q492 := fun e => hn548 (e ▸ hm325)
  have hn755 : q20 ≠ q493 := fun e => hn551 (e ▸ hm325)
  have hn756 : q20 ≠ q494 := fun e => hn554 (e ▸ hm325)
  have hn757 : q20 ≠ q495 := fun e => hn557 (e ▸ hm325)
  have hn758 : q20 ≠ q496 := fun e => hn560 (e ▸ hm325)
  have hf759 := (fr565 q20 hm325 hn326).trans hf324
  have hm736 := sb566 _ hm325
  have hn761 : q21 ≠ q475 := fun e => hn497 (e ▸ hm328)
  have hn762 : q21 ≠ q476 := fun e => hn500 (e ▸ hm328)
  have hn763 : q21 ≠ q477 := fun e => hn503 (e ▸ hm328)
  have hn764 : q21 ≠ q478 := fun e => hn506 (e ▸ hm328)
  have hn765 : q21 ≠ q479 := fun e => hn509 (e ▸ hm328)
  have hn766 : q21 ≠ q480 := fun e => hn512 (e ▸ hm328)
  have hn767 : q21 ≠ q481 := fun e => hn515 (e ▸ hm328)
  have hn768 : q21 ≠ q482 := fun e => hn518 (e ▸ hm328)
  have hn769 : q21 ≠ q483 := fun e => hn521 (e ▸ hm328)
  have hn770 : q21 ≠ q484 := fun e => hn524 (e ▸ hm328)
  have hn771 : q21 ≠ q485 := fun e => hn527 (e ▸ hm328)
  have hn772 : q21 ≠ q486 := fun e => hn530 (e ▸ hm328)
  have hn773 : q21 ≠ q487 := fun e => hn533 (e ▸ hm328)
  have hn774 : q21 ≠ q488 := fun e => hn536 (e ▸ hm328)
  have hn775 : q21 ≠ q489 := fun e => hn539 (e ▸ hm328)
  have hn776 : q21 ≠ q490 := fun e => hn542 (e ▸ hm328)
  have hn777 : q21 ≠ q491 := fun e => hn545 (e ▸ hm328)
  have hn778 : q21 ≠ q492 := fun e => hn548 (e ▸ hm328)
  have hn779 : q21 ≠ q493 := fun e => hn551 (e ▸ hm328)
  have hn780 : q21 ≠ q494 := fun e => hn554 (e ▸ hm328)
  have hn781 : q21 ≠ q495 := fun e => hn557 (e ▸ hm328)
  have hn782 : q21 ≠ q496 := fun e => hn560 (e ▸ hm328)
  have hf783 := (fr565 q21 hm328 hn329).trans hf327
  have hm760 := sb566 _ hm328
  have hn785 : q22 ≠ q475 := fun e => hn497 (e ▸ hm331)
  have hn786 : q22 ≠ q476 := fun e => hn500 (e ▸ hm331)
  have hn787 : q22 ≠ q477 := fun e => hn503 (e ▸ hm331)
  have hn788 : q22 ≠ q478 := fun e => hn506 (e ▸ hm331)
  have hn789 : q22 ≠ q479 := fun e => hn509 (e ▸ hm331)
  have hn790 : q22 ≠ q480 := fun e => hn512 (e ▸ hm331)
  have hn791 : q22 ≠ q481 := fun e => hn515 (e ▸ hm331)
  have hn792 : q22 ≠ q482 := fun e => hn518 (e ▸ hm331)
  have hn793 : q22 ≠ q483 := fun e => hn521 (e ▸ hm331)
  have hn794 : q22 ≠ q484 := fun e => hn524 (e ▸ hm331)
  have hn795 : q22 ≠ q485 := fun e => hn527 (e ▸ hm331)
  have hn796 : q22 ≠ q486 := fun e => hn530 (e ▸ hm331)
  have hn797 : q22 ≠ q487 := fun e => hn533 (e ▸ hm331)
  have hn798 : q22 ≠ q488 := fun e => hn536 (e ▸ hm331)
  have hn799 : q22 ≠ q489 := fun e => hn539 (e ▸ hm331)
  have hn800 : q22 ≠ q490 := fun e => hn542 (e ▸ hm331)
  have hn801 : q22 ≠ q491 := fun e => hn545 (e ▸ hm331)
  have hn802 : q22 ≠ q492 := fun e => hn548 (e ▸ hm331)
  have hn803 : q22 ≠ q493 := fun e => hn551 (e ▸ hm331)
  have hn804 : q22 ≠ q494 := fun e => hn554 (e ▸ hm331)
  have hn805 : q22 ≠ q495 := fun e => hn557 (e ▸ hm331)
  have hn806 : q22 ≠ q496 := fun e => hn560 (e ▸ hm331)
  have hf807 := (fr565 q22 hm331 hn332).trans hf330
  have hm784 := sb566 _ hm331
  have hn809 : q23 ≠ q475 := fun e => hn497 (e ▸ hm334)
  have hn810 : q23 ≠ q476 := fun e => hn500 (e ▸ hm334)
  have hn811 : q23 ≠ q477 := fun e => hn503 (e ▸ hm334)
  have hn812 : q23 ≠ q478 := fun e => hn506 (e ▸ hm334)
  have hn813 : q23 ≠ q479 := fun e => hn509 (e ▸ hm334)
  have hn814 : q23 ≠ q480 := fun e => hn512 (e ▸ hm334)
  have hn815 : q23 ≠ q481 := fun e => hn515 (e ▸ hm334)
  have hn816 : q23 ≠ q482 := fun e => hn518 (e ▸ hm334)
  have hn817 : q23 ≠ q483 := fun e => hn521 (e ▸ hm334)
  have hn818 : q23 ≠ q484 := fun e => hn524 (e ▸ hm334)
  have hn819 : q23 ≠ q485 := fun e => hn527 (e ▸ hm334)
  have hn820 : q23 ≠ q486 := fun e => hn530 (e ▸ hm334)
  have hn821 : q23 ≠ q487 := fun e => hn533 (e ▸ hm334)
  have hn822 : q23 ≠ q488 := fun e => hn536 (e ▸ hm334)
  have hn823 : q23 ≠ q489 := fun e => hn539 (e ▸ hm334)
  have hn824 : q23 ≠ q490 := fun e => hn542 (e ▸ hm334)
  have hn825 : q23 ≠ q491 := fun e => hn545 (e ▸ hm334)
  have hn826 : q23 ≠ q492 := fun e => hn548 (e ▸ hm334)
  have hn827 : q23 ≠ q493 := fun e => hn551 (e ▸ hm334)
  have hn828 : q23 ≠ q494 := fun e => hn554 (e ▸ hm334)
  have hn829 : q23 ≠ q495 := fun e => hn557 (e ▸ hm334)
  have hn830 : q23 ≠ q496 := fun e => hn560 (e ▸ hm334)
  have hf831 := (fr565 q23 hm334 hn335).trans hf333
  have hm808 := sb566 _ hm334
  have hn833 : q24 ≠ q475 := fun e => hn497 (e ▸ hm337)
  have hn834 : q24 ≠ q476 := fun e => hn500 (e ▸ hm337)
  have hn835 : q24 ≠ q477 := fun e => hn503 (e ▸ hm337)
  have hn836 : q24 ≠ q478 := fun e => hn506 (e ▸ hm337)
  have hn837 : q24 ≠ q479 := fun e => hn509 (e ▸ hm337)
  have hn838 : q24 ≠ q480 := fun e => hn512 (e ▸ hm337)
  have hn839 : q24 ≠ q481 := fun e => hn515 (e ▸ hm337)
  have hn840 : q24 ≠ q482 := fun e => hn518 (e ▸ hm337)
  have hn841 : q24 ≠ q483 := fun e => hn521 (e ▸ hm337)
  have hn842 : q24 ≠ q484 := fun e => hn524 (e ▸ hm337)
  have hn843 : q24 ≠ q485 := fun e => hn527 (e ▸ hm337)
  have hn844 : q24 ≠ q486 := fun e => hn530 (e ▸ hm337)
  have hn845 : q24 ≠ q487 := fun e => hn533 (e ▸ hm337)
  have hn846 : q24 ≠ q488 := fun e => hn536 (e ▸ hm337)
  have hn847 : q24 ≠ q489 := fun e => hn539 (e ▸ hm337)
  have hn848 : q24 ≠ q490 := fun e => hn542 (e ▸ hm337)
  have hn849 : q24 ≠ q491 := fun e => hn545 (e ▸ hm337)
  have hn850 : q24 ≠ q492 := fun e => hn548 (e ▸ hm337)
  have hn851 : q24 ≠ q493 := fun e => hn551 (e ▸ hm337)
  have hn852 : q24 ≠ q494 := fun e => hn554 (e ▸ hm337)
  have hn853 : q24 ≠ q495 := fun e => hn557 (e ▸ hm337)
  have hn854 : q24 ≠ q496 := fun e => hn560 (e ▸ hm337)
  have hf855 := (fr565 q24 hm337 hn338).trans hf336
  have hm832 := sb566 _ hm337
  have hn857 : q25 ≠ q475 := fun e => hn497 (e ▸ hm340)
  have hn858 : q25 ≠ q476 := fun e => hn500 (e ▸ hm340)
  have hn859 : q25 ≠ q477 := fun e => hn503 (e ▸ hm340)
  have hn860 : q25 ≠ q478 := fun e => hn506 (e ▸ hm340)
  have hn861 : q25 ≠ q479 := fun e => hn509 (e ▸ hm340)
  have hn862 : q25 ≠ q480 := fun e => hn512 (e ▸ hm340)
  have hn863 : q25 ≠ q481 := fun e => hn515 (e ▸ hm340)
  have hn864 : q25 ≠ q482 := fun e => hn518 (e ▸ hm340)
  have hn865 : q25 ≠ q483 := fun e => hn521 (e ▸ hm340)
  have hn866 : q25 ≠ q484 := fun e => hn524 (e ▸ hm340)
  have hn867 : q25 ≠ q485 := fun e => hn527 (e ▸ hm340)
  have hn868 : q25 ≠ q486 := fun e => hn530 (e ▸ hm340)
  have hn869 : q25 ≠ q487 := fun e => hn533 (e ▸ hm340)
  have hn870 : q25 ≠ q488 := fun e => hn536 (e ▸ hm340)
  have hn871 : q25 ≠ q489 := fun e => hn539 (e ▸ hm340)
  have hn872 : q25 ≠ q490 := fun e => hn542 (e ▸ hm340)
  have hn873 : q25 ≠ q491 := fun e => hn545 (e ▸ hm340)
  have hn874 : q25 ≠ q492 := fun e => hn548 (e ▸ hm340)
  have hn875 : q25 ≠ q493 := fun e => hn551 (e ▸ hm340)
  have hn876 : q25 ≠ q494 := fun e => hn554 (e ▸ hm340)
  have hn877 : q25 ≠ q495 := fun e => hn557 (e ▸ hm340)
  have hn878 : q25 ≠ q496 := fun e => hn560 (e ▸ hm340)
  have hf879 := (fr565 q25 hm340 hn341).trans hf339
  have hm856 := sb566 _ hm340
  have hn881 : q26 ≠ q475 := fun e => hn497 (e ▸ hm343)
  have hn882 : q26 ≠ q476 := fun e => hn500 (e ▸ hm343)
  have hn883 : q26 ≠ q477 := fun e => hn503 (e ▸ hm343)
  have hn884 : q26 ≠ q478 := fun e => hn506 (e ▸ hm343)
  have hn885 : q26 ≠ q479 := fun e => hn509 (e ▸ hm343)
  have hn886 : q26 ≠ q480 := fun e => hn512 (e ▸ hm343)
  have hn887 : q26 ≠ q481 := fun e => hn515 (e ▸ hm343)
  have hn888 : q26 ≠ q482 := fun e => hn518 (e ▸ hm343)
  have hn889 : q26 ≠ q483 := fun e => hn521 (e ▸ hm343)
  have hn890 : q26 ≠ q484 := fun e => hn524 (e ▸ hm343)
  have hn891 : q26 ≠ q485 := fun e => hn527 (e ▸ hm343)
  have hn892 : q26 ≠ q486 := fun e => hn530 (e ▸ hm343)
  have hn893 : q26 ≠ q487 := fun e => hn533 (e ▸ hm343)
  have hn894 : q26 ≠ q488 := fun e => hn536 (e ▸ hm343)
  have hn895 : q26 ≠ q489 := fun e => hn539 (e ▸ hm343)
  have hn896 : q26 ≠ q490 := fun e => hn542 (e ▸ hm343)
  have hn897 : q26 ≠ q491 := fun e => hn545 (e ▸ hm343)
  have hn898 : q26 ≠ q492 := fun e => hn548 (e ▸ hm343)
  have hn899 : q26 ≠ q493 := fun e => hn551 (e ▸ hm343)
  have hn900 : q26 ≠ q494 := fun e => hn554 (e ▸ hm343)
  have hn901 : q26 ≠ q495 := fun e => hn557 (e ▸ hm343)
  have hn902 : q26 ≠ q496 := fun e => hn560 (e ▸ hm343)
  have hf903 := (fr565 q26 hm343 hn344).trans hf342
  have hm880 := sb566 _ hm343
  have hn905 : q27 ≠ q475 := fun e => hn497 (e ▸ hm346)
  have hn906 : q27 ≠ q476 := fun e => hn500 (e ▸ hm346)
  have hn907 : q27 ≠ q477 := fun e => hn503 (e ▸ hm346)
  have hn908 : q27 ≠ q478 := fun e => hn506 (e ▸ hm346)
  have hn909 : q27 ≠ q479 := fun e => hn509 (e ▸ hm346)
  have hn910 : q27 ≠ q480 := fun e => hn512 (e ▸ hm346)
  have hn911 : q27 ≠ q481 := fun e => hn515 (e ▸ hm346)
  have hn912 : q27 ≠ q482 := fun e => hn518 (e ▸ hm346)
  have hn913 : q27 ≠ q483 := fun e => hn521 (e ▸ hm346)
  have hn914 : q27 ≠ q484 := fun e => hn524 (e ▸ hm346)
  have hn915 : q27 ≠ q485 := fun e => hn527 (e ▸ hm346)
  have hn916 : q27 ≠ q486 := fun e => hn530 (e ▸ hm346)
  have hn917 : q27 ≠ q487 := fun e => hn533 (e ▸ hm346)
  have hn918 : q27 ≠ q488 := fun e => hn536 (e ▸ hm346)
  have hn919 : q27 ≠ q489 := fun e => hn539 (e ▸ hm346)
  have hn920 : q27 ≠ q490 := fun e => hn542 (e ▸ hm346)
  have hn921 : q27 ≠ q491 := fun e => hn545 (e ▸ hm346)
  have hn922 : q27 ≠ q492 := fun e => hn548 (e ▸ hm346)
  have hn923 : q27 ≠ q493 := fun e => hn551 (e ▸ hm346)
  have hn924 : q27 ≠ q494 := fun e => hn554 (e ▸ hm346)
  have hn925 : q27 ≠ q495 := fun e => hn557 (e ▸ hm346)
  have hn926 : q27 ≠ q496 := fun e => hn560 (e ▸ hm346)
  have hf927 := (fr565 q27 hm346 hn347).trans hf345
  have hm904 := sb566 _ hm346
  have hn929 : q28 ≠ q475 := fun e => hn497 (e ▸ hm349)
  have hn930 : q28 ≠ q476 := fun e => hn500 (e ▸ hm349)
  have hn931 : q28 ≠ q477 := fun e => hn503 (e ▸ hm349)
  have hn932 : q28 ≠ q478 := fun e => hn506 (e ▸ hm349)
  have hn933 : q28 ≠ q479 := fun e => hn509 (e ▸ hm349)
  have hn934 : q28 ≠ q480 := fun e => hn512 (e ▸ hm349)
  have hn935 : q28 ≠ q481 := fun e => hn515 (e ▸ hm349)
  have hn936 : q28 ≠ q482 := fun e => hn518 (e ▸ hm349)
  have hn937 : q28 ≠ q483 := fun e => hn521 (e ▸ hm349)
  have hn938 : q28 ≠ q484 := fun e => hn524 (e ▸ hm349)
  have hn939 : q28 ≠ q485 := fun e => hn527 (e ▸ hm349)
  have hn940 : q28 ≠ q486 := fun e => hn530 (e ▸ hm349)
  have hn941 : q28 ≠ q487 := fun e => hn533 (e ▸ hm349)
  have hn942 : q28 ≠ q488 := fun e => hn536 (e ▸ hm349)
  have hn943 : q28 ≠ q489 := fun e => hn539 (e ▸ hm349)
  have hn944 : q28 ≠ q490 := fun e => hn542 (e ▸ hm349)
  have hn945 : q28 ≠ q491 := fun e => hn545 (e ▸ hm349)
  have hn946 : q28 ≠ q492 := fun e => hn548 (e ▸ hm349)
  have hn947 : q28 ≠ q493 := fun e => hn551 (e ▸ hm349)
  have hn948 : q28 ≠ q494 := fun e => hn554 (e ▸ hm349)
  have hn949 : q28 ≠ q495 := fun e => hn557 (e ▸ hm349)
  have hn950 : q28 ≠ q496 := fun e => hn560 (e ▸ hm349)
  have hf951 := (fr565 q28 hm349 hn350).trans hf348
  have hm928 := sb566 _ hm349
  have hn953 : q29 ≠ q475 := fun e => hn497 (e ▸ hm352)
  have hn954 : q29 ≠ q476 := fun e => hn500 (e ▸ hm352)
  have hn955 : q29 ≠ q477 := fun e => hn503 (e ▸ hm352)
  have hn956 : q29 ≠ q478 := fun e => hn506 (e ▸ hm352)
  have hn957 : q29 ≠ q479 := fun e => hn509 (e ▸ hm352)
  have hn958 : q29 ≠ q480 := fun e => hn512 (e ▸ hm352)
  have hn959 : q29 ≠ q481 := fun e => hn515 (e ▸ hm352)
  have hn960 : q29 ≠ q482 := fun e => hn518 (e ▸ hm352)
  have hn961 : q29 ≠ q483 := fun e => hn521 (e ▸ hm352)
  have hn962 : q29 ≠ q484 := fun e => hn524 (e ▸ hm352)
  have hn963 : q29 ≠ q485 := fun e => hn527 (e ▸ hm352)
  have hn964 : q29 ≠ q486 := fun e => hn530 (e ▸ hm352)
  have hn965 : q29 ≠ q487 := fun e => hn533 (e ▸ hm352)
  have hn966 : q29 ≠ q488 := fun e => hn536 (e ▸ hm352)
  have hn967 : q29 ≠ q489 := fun e => hn539 (e ▸ hm352)
  have hn968 : q29 ≠ q490 := fun e => hn542 (e ▸ hm352)
  have hn969 : q29 ≠ q491 := fun e => hn545 (e ▸ hm352)
  have hn970 : q29 ≠ q492 := fun e => hn548 (e ▸ hm352)
  have hn971 : q29 ≠ q493 := fun e => hn551 (e ▸ hm352)
  have hn972 : q29 ≠ q494 := fun e => hn554 (e ▸ hm352)
  have hn973 : q29 ≠ q495 := fun e => hn557 (e ▸ hm352)
  have hn974 : q29 ≠ q496 := fun e => hn560 (e ▸ hm352)
  have hf975 := (fr565 q29 hm352 hn353).trans hf351
  have hm952 := sb566 _ hm352
  have hn977 : q30 ≠ q475 := fun e => hn497 (e ▸ hm355)
  have hn978 : q30 ≠ q476 := fun e => hn500 (e ▸ hm355)
  have hn979 : q30 ≠ q477 := fun e => hn503 (e ▸ hm355)
  have hn980 : q30 ≠ q478 := fun e => hn506 (e ▸ hm355)
  have hn981 : q30 ≠ q479 := fun e => hn509 (e ▸ hm355)
  have hn982 : q30 ≠ q480 := fun e => hn512 (e ▸ hm355)
  have hn983 : q30 ≠ q481 := fun e => hn515 (e ▸ hm355)
  have hn984 : q30 ≠ q482 := fun e => hn518 (e ▸ hm355)
  have hn985 : q30 ≠ q483 := fun e => hn521 (e ▸ hm355)
  have hn986 : q30 ≠ q484 := fun e => hn524 (e ▸ hm355)
  have hn987 : q30 ≠ q485 := fun e => hn527 (e ▸ hm355)
  have hn988 : q30 ≠ q486 := fun e => hn530 (e ▸ hm355)
  have hn989 : q30 ≠ q487 := fun e => hn533 (e ▸ hm355)
  have hn990 : q30 ≠ q488 := fun e => hn536 (e ▸ hm355)
  have hn991 : q30 ≠ q489 := fun e => hn539 (e ▸ hm355)
  have hn992 : q30 ≠ q490 := fun e => hn542 (e ▸ hm355)
  have hn993 : q30 ≠ q491 := fun e => hn545 (e ▸ hm355)
  have hn994 : q30 ≠ q492 := fun e => hn548 (e ▸ hm355)
  have hn995 : q30 ≠ q493 := fun e => hn551 (e ▸ hm355)
  have hn996 : q30 ≠ q494 := fun e => hn554 (e ▸ hm355)
  have hn997 : q30 ≠ q495 := fun e => hn557 (e ▸ hm355)
  have hn998 : q30 ≠ q496 := fun e => hn560 (e ▸ hm355)
  have hf999 := (fr565 q30 hm355 hn356).trans hf354
  have hm976 := sb566 _ hm355
  have hn1001 : q31 ≠ q475 := fun e => hn497 (e ▸ hm358)
  have hn1002 : q31 ≠ q476 := fun e => hn500 (e ▸ hm358)
  have hn1003 : q31 ≠ q477 := fun e => hn503 (e ▸ hm358)
  have hn1004 : q31 ≠ q478 := fun e => hn506 (e ▸ hm358)
  have hn1005 : q31 ≠ q479 := fun e => hn509 (e ▸ hm358)
  have hn1006 : q31 ≠ q480 := fun e => hn512 (e ▸ hm358)
  have hn1007 : q31 ≠ q481 := fun e => hn515 (e ▸ hm358)
  have hn1008 : q31 ≠ q482 := fun e => hn518 (e ▸ hm358)
  have hn1009 : q31 ≠ q483 := fun e => hn521 (e ▸ hm358)
  have hn1010 : q31 ≠ q484 := fun e => hn524 (e ▸ hm358)
  have hn1011 : q31 ≠ q485 := fun e => hn527 (e ▸ hm358)
  have hn1012 : q31 ≠ q486 := fun e => hn530 (e ▸ hm358)
  have hn1013 : q31 ≠ q487 := fun e => hn533 (e ▸ hm358)
  have hn1014 : q31 ≠ q488 := fun e => hn536 (e ▸ hm358)
  have hn1015 : q31 ≠ q489 := fun e => hn539 (e ▸ hm358)
  have hn1016 : q31 ≠ q490 := fun e => hn542 (e ▸ hm358)
  have hn1017 : q31 ≠ q491 := fun e => hn545 (e ▸ hm358)
  have hn1018 : q31 ≠ q492 := fun e => hn548 (e ▸ hm358)
  have hn1019 : q31 ≠ q493 := fun e => hn551 (e ▸ hm358)
  have hn1020 : q31 ≠ q494 := fun e => hn554 (e ▸ hm358)
  have hn1021 : q31 ≠ q495 := fun e => hn557 (e ▸ hm358)
  have hn1022 : q31 ≠ q496 := fun e => hn560 (e ▸ hm358)
  have hf1023 := (fr565 q31 hm358 hn359).trans hf357
  have hm1000 := sb566 _ hm358
  have hn1025 : q32 ≠ q475 := fun e => hn497 (e ▸ hm361)
  have hn1026 : q32 ≠ q476 := fun e => hn500 (e ▸ hm361)
  have hn1027 : q32 ≠ q477 := fun e => hn503 (e ▸ hm361)
  have hn1028 : q32 ≠ q478 := fun e => hn506 (e ▸ hm361)
  have hn1029 : q32 ≠ q479 := fun e => hn509 (e ▸ hm361)
  have hn1030 : q32 ≠ q480 := fun e => hn512 (e ▸ hm361)
  have hn1031 : q32 ≠ q481 := fun e => hn515 (e ▸ hm361)
  have hn1032 : q32 ≠ q482 := fun e => hn518 (e ▸ hm361)
  have hn1033 : q32 ≠ q483 := fun e => hn521 (e ▸ hm361)
  have hn1034 : q32 ≠ q484 := fun e => hn524 (e ▸ hm361)
  have hn1035 : q32 ≠ q485 := fun e => hn527 (e ▸ hm361)
  have hn1036 : q32 ≠ q486 := fun e => hn530 (e ▸ hm361)
  have hn1037 : q32 ≠ q487 := fun e => hn533 (e ▸ hm361)
  have hn1038 : q32 ≠ q488 := fun e => hn536 (e ▸ hm361)
  have hn1039 : q32 ≠ q489 := fun e => hn539 (e ▸ hm361)
  have hn1040 : q32 ≠ q490 := fun e => hn542 (e ▸ hm361)
  have hn1041 : q32 ≠ q491 := fun e => hn545 (e ▸ hm361)
  have hn1042 : q32 ≠ q492 := fun e => hn548 (e ▸ hm361)
  have hn1043 : q32 ≠ q493 := fun e => hn551 (e ▸ hm361)
  have hn1044 : q32 ≠ q494 := fun e => hn554 (e ▸ hm361)
  have hn1045 : q32 ≠ q495 := fun e => hn557 (e ▸ hm361)
  have hn1046 : q32 ≠ q496 := fun e => hn560 (e ▸ hm361)
  have hf1047 := (fr565 q32 hm361 hn362).trans hf360
  have hm1024 := sb566 _ hm361
  have hn1049 : q33 ≠ q475 := fun e => hn497 (e ▸ hm364)
  have hn1050 : q33 ≠ q476 := fun e => hn500 (e ▸ hm364)
  have hn1051 : q33 ≠ q477 := fun e => hn503 (e ▸ hm364)
  have hn1052 : q33 ≠ q478 := fun e => hn506 (e ▸ hm364)
  have hn1053 : q33 ≠ q479 := fun e => hn509 (e ▸ hm364)
  have hn1054 : q33 ≠ q480 := fun e => hn512 (e ▸ hm364)
  have hn1055 : q33 ≠ q481 := fun e => hn515 (e ▸ hm364)
  have hn1056 : q33 ≠ q482 := fun e => hn518 (e ▸ hm364)
  have hn1057 : q33 ≠ q483 := fun e => hn521 (e ▸ hm364)
  have hn1058 : q33 ≠ q484 := fun e => hn524 (e ▸ hm364)
  have hn1059 : q33 ≠ q485 := fun e => hn527 (e ▸ hm364)
  have hn1060 : q33 ≠ q486 := fun e => hn530 (e ▸ hm364)
  have hn1061 : q33 ≠ q487 := fun e => hn533 (e ▸ hm364)
  have hn1062 : q33 ≠ q488 := fun e => hn536 (e ▸ hm364)
  have hn1063 : q33 ≠ q489 := fun e => hn539 (e ▸ hm364)
  have hn1064 : q33 ≠ q490 := fun e => hn542 (e ▸ hm364)
  have hn1065 : q33 ≠ q491 := fun e => hn545 (e ▸ hm364)
  have hn1066 : q33 ≠ q492 := fun e => hn548 (e ▸ hm364)
  have hn1067 : q33 ≠ q493 := fun e => hn551 (e ▸ hm364)
  have hn1068 : q33 ≠ q494 := fun e => hn554 (e ▸ hm364)
  have hn1069 : q33 ≠ q495 := fun e => hn557 (e ▸ hm364)
  have hn1070 : q33 ≠ q496 := fun e => hn560 (e ▸ hm364)
  have hf1071 := (fr565 q33 hm364 hn365).trans hf363
  have hm1048 := sb566 _ hm364
  have hn1073 : q34 ≠ q475 := fun e => hn497 (e ▸ hm367)
  have hn1074 : q34 ≠ q476 := fun e => hn500 (e ▸ hm367)
  have hn1075 : q34 ≠ q477 := fun e => hn503 (e ▸ hm367)
  have hn1076 : q34 ≠ q478 := fun e => hn506 (e ▸ hm367)
  have hn1077 : q34 ≠ q479 := fun e => hn509 (e ▸ hm367)
  have hn1078 : q34 ≠ q480 := fun e => hn512 (e ▸ hm367)
  have hn1079 : q34 ≠ q481 := fun e => hn515 (e ▸ hm367)
  have hn1080 : q34 ≠ q482 := fun e => hn518 (e ▸ hm367)
  have hn1081 : q34 ≠ q483 := fun e => hn521 (e ▸ hm367)
  have hn1082 : q34 ≠ q484 := fun e => hn524 (e ▸ hm367)
  have hn1083 : q34 ≠ q485 := fun e => hn527 (e ▸ hm367)
  have hn1084 : q34 ≠ q486 := fun e => hn530 (e ▸ hm367)
  have hn1085 : q34 ≠ q487 := fun e => hn533 (e ▸ hm367)
  have hn1086 : q34 ≠ q488 := fun e => hn536 (e ▸ hm367)
  have hn1087 : q34 ≠ q489 := fun e => hn539 (e ▸ hm367)
  have hn1088 : q34 ≠ q490 := fun e => hn542 (e ▸ hm367)
  have hn1089 : q34 ≠ q491 := fun e => hn545 (e ▸ hm367)
  have hn1090 : q34 ≠ q492 := fun e => hn548 (e ▸ hm367)
  have hn1091 : q34 ≠ q493 := fun e => hn551 (e ▸ hm367)
  have hn1092 : q34 ≠ q494 := fun e => hn554 (e ▸ hm367)
  have hn1093 : q34 ≠ q495 := fun e => hn557 (e ▸ hm367)
  have hn1094 : q34 ≠ q496 := fun e => hn560 (e ▸ hm367)
  have hf1095 := (fr565 q34 hm367 hn368).trans hf366
  have hm1072 := sb566 _ hm367
  have hn1097 : q35 ≠ q475 := fun e => hn497 (e ▸ hm370)
  have hn1098 : q35 ≠ q476 := fun e => hn500 (e ▸ hm370)
  have hn1099 : q35 ≠ q477 := fun e => hn503 (e ▸ hm370)
  have hn1100 : q35 ≠ q478 := fun e => hn506 (e ▸ hm370)
  have hn1101 : q35 ≠ q479 := fun e => hn509 (e ▸ hm370)
  have hn1102 : q35 ≠ q480 := fun e => hn512 (e ▸ hm370)
  have hn1103 : q35 ≠ q481 := fun e => hn515 (e ▸ hm370)
  have hn1104 : q35 ≠ q482 := fun e => hn518 (e ▸ hm370)
  have hn1105 : q35 ≠ q483 := fun e => hn521 (e ▸ hm370)
  have hn1106 : q35 ≠ q484 := fun e => hn524 (e ▸ hm370)
  have hn1107 : q35 ≠ q485 := fun e => hn527 (e ▸ hm370)
  have hn1108 : q35 ≠ q486 := fun e => hn530 (e ▸ hm370)
  have hn1109 : q35 ≠ q487 := fun e => hn533 (e ▸ hm370)
  have hn1110 : q35 ≠ q488 := fun e => hn536 (e ▸ hm370)
  have hn1111 : q35 ≠ q489 := fun e => hn539 (e ▸ hm370)
  have hn1112 : q35 ≠ q490 := fun e => hn542 (e ▸ hm370)
  have hn1113 : q35 ≠ q491 := fun e => hn545 (e ▸ hm370)
  have hn1114 : q35 ≠ q492 := fun e => hn548 (e ▸ hm370)
  have hn1115 : q35 ≠ q493 := fun e => hn551 (e ▸ hm370)
  have hn1116 : q35 ≠ q494 := fun e => hn554 (e ▸ hm370)
  have hn1117 : q35 ≠ q495 := fun e => hn557 (e ▸ hm370)
  have hn1118 : q35 ≠ q496 := fun e => hn560 (e ▸ hm370)
  have hf1119 := (fr565 q35 hm370 hn371).trans hf369
  have hm1096 := sb566 _ hm370
  have hn1121 : q36 ≠ q475 := fun e => hn497 (e ▸ hm373)
  have hn1122 : q36 ≠ q476 := fun e => hn500 (e ▸ hm373)
  have hn1123 : q36 ≠ q477 := fun e => hn503 (e ▸ hm373)
  have hn1124 : q36 ≠ q478 := fun e => hn506 (e ▸ hm373)
  have hn1125 : q36 ≠ q479 := fun e => hn509 (e ▸ hm373)
  have hn1126 : q36 ≠ q480 := fun e => hn512 (e ▸ hm373)
  have hn1127 : q36 ≠ q481 := fun e => hn515 (e ▸ hm373)
  have hn1128 : q36 ≠ q482 := fun e => hn518 (e ▸ hm373)
  have hn1129 : q36 ≠ q483 := fun e => hn521 (e ▸ hm373)
  have hn1130 : q36 ≠ q484 := fun e => hn524 (e ▸ hm373)
  have hn1131 : q36 ≠ q485 := fun e => hn527 (e ▸ hm373)
  have hn1132 : q36 ≠ q486 := fun e => hn530 (e ▸ hm373)
  have hn1133 : q36 ≠ q487 := fun e => hn533 (e ▸ hm373)
  have hn1134 : q36 ≠ q488 := fun e => hn536 (e ▸ hm373)
  have hn1135 : q36 ≠ q489 := fun e => hn539 (e ▸ hm373)
  have hn1136 : q36 ≠ q490 := fun e => hn542 (e ▸ hm373)
  have hn1137 : q36 ≠ q491 := fun e => hn545 (e ▸ hm373)
  have hn1138 : q36 ≠ q492 := fun e => hn548 (e ▸ hm373)
  have hn1139 : q36 ≠ q493 := fun e => hn551 (e ▸ hm373)
  have hn1140 : q36 ≠ q494 := fun e => hn554 (e ▸ hm373)
  have hn1141 : q36 ≠ q495 := fun e => hn557 (e ▸ hm373)
  have hn1142 : q36 ≠ q496 := fun e => hn560 (e ▸ hm373)
  have hf1143 := (fr565 q36 hm373 hn374).trans hf372
  have hm1120 := sb566 _ hm373
  have hn1145 : q37 ≠ q475 := fun e => hn497 (e ▸ hm376)
  have hn1146 : q37 ≠ q476 := fun e => hn500 (e ▸ hm376)
  have hn1147 : q37 ≠ q477 := fun e => hn503 (e ▸ hm376)
  have hn1148 : q37 ≠ q478 := fun e => hn506 (e ▸ hm376)
  have hn1149 : q37 ≠ q479 := fun e => hn509 (e ▸ hm376)
  have hn1150 : q37 ≠ q480 := fun e => hn512 (e ▸ hm376)
  have hn1151 : q37 ≠ q481 := fun e => hn515 (e ▸ hm376)
  have hn1152 : q37 ≠ q482 := fun e => hn518 (e ▸ hm376)
  have hn1153 : q37 ≠ q483 := fun e => hn521 (e ▸ hm376)
  have hn1154 : q37 ≠ q484 := fun e => hn524 (e ▸ hm376)
  have hn1155 : q37 ≠ q485 := fun e => hn527 (e ▸ hm376)
  have hn1156 : q37 ≠ q486 := fun e => hn530 (e ▸ hm376)
  have hn1157 : q37 ≠ q487 := fun e => hn533 (e ▸ hm376)
  have hn1158 : q37 ≠ q488 := fun e => hn536 (e ▸ hm376)
  have hn1159 : q37 ≠ q489 := fun e => hn539 (e ▸ hm376)
  have hn1160 : q37 ≠ q490 := fun e => hn542 (e ▸ hm376)
  have hn1161 : q37 ≠ q491 := fun e => hn545 (e ▸ hm376)
  have hn1162 : q37 ≠ q492 := fun e => hn548 (e ▸ hm376)
  have hn1163 : q37 ≠ q493 := fun e => hn551 (e ▸ hm376)
  have hn1164 : q37 ≠ q494 := fun e => hn554 (e ▸ hm376)
  have hn1165 : q37 ≠ q495 := fun e => hn557 (e ▸ hm376)
  have hn1166 : q37 ≠ q496 := fun e => hn560 (e ▸ hm376)
  have hf1167 := (fr565 q37 hm376 hn377).trans hf375
  have hm1144 := sb566 _ hm376
  have hn1169 : q38 ≠ q475 := fun e => hn497 (e ▸ hm379)
  have hn1170 : q38 ≠ q476 := fun e => hn500 (e ▸ hm379)
  have hn1171 : q38 ≠ q477 := fun e => hn503 (e ▸ hm379)
  have hn1172 : q38 ≠ q478 := fun e => hn506 (e ▸ hm379)
  have hn1173 : q38 ≠ q479 := fun e => hn509 (e ▸ hm379)
  have hn1174 : q38 ≠ q480 := fun e => hn512 (e ▸ hm379)
  have hn1175 : q38 ≠ q481 := fun e => hn515 (e ▸ hm379)
  have hn1176 : q38 ≠ q482 := fun e => hn518 (e ▸ hm379)
  have hn1177 : q38 ≠ q483 := fun e => hn521 (e ▸ hm379)
  have hn1178 : q38 ≠ q484 := fun e => hn524 (e ▸ hm379)
  have hn1179 : q38 ≠ q485 := fun e => hn527 (e ▸ hm379)
  have hn1180 : q38 ≠ q486 := fun e => hn530 (e ▸ hm379)
  have hn1181 : q38 ≠ q487 := fun e => hn533 (e ▸ hm379)
  have hn1182 : q38 ≠ q488 := fun e => hn536 (e ▸ hm379)
  have hn1183 : q38 ≠ q489 := fun e => hn539 (e ▸ hm379)
  have hn1184 : q38 ≠ q490 := fun e => hn542 (e ▸ hm379)
  have hn1185 : q38 ≠ q491 := fun e => hn545 (e ▸ hm379)
  have hn1186 : q38 ≠ q492 := fun e => hn548 (e ▸ hm379)
  have hn1187 : q38 ≠ q493 := fun e => hn551 (e ▸ hm379)
  have hn1188 : q38 ≠ q494 := fun e => hn554 (e ▸ hm379)
  have hn1189 : q38 ≠ q495 := fun e => hn557 (e ▸ hm379)
  have hn1190 : q38 ≠ q496 := fun e => hn560 (e ▸ hm379)
  have hf1191 := (fr565 q38 hm379 hn380).trans hf378
  have hm1168 := sb566 _ hm379
  have hn1193 : q39 ≠ q475 := fun e => hn497 (e ▸ hm382)
  have hn1194 : q39 ≠ q476 := fun e => hn500 (e ▸ hm382)
  have hn1195 : q39 ≠ q477 := fun e => hn503 (e ▸ hm382)
  have hn1196 : q39 ≠ q478 := fun e => hn506 (e ▸ hm382)
  have hn1197 : q39 ≠ q479 := fun e => hn509 (e ▸ hm382)
  have hn1198 : q39 ≠ q480 := fun e => hn512 (e ▸ hm382)
  have hn1199 : q39 ≠ q481 := fun e => hn515 (e ▸ hm382)
  have hn1200 : q39 ≠ q482 := fun e => hn518 (e ▸ hm382)
  have hn1201 : q39 ≠ q483 := fun e => hn521 (e ▸ hm382)
  have hn1202 : q39 ≠ q484 := fun e => hn524 (e ▸ hm382)
  have hn1203 : q39 ≠ q485 := fun e => hn527 (e ▸ hm382)
  have hn1204 : q39 ≠ q486 := fun e => hn530 (e ▸ hm382)
  have hn1205 : q39 ≠ q487 := fun e => hn533 (e ▸ hm382)
  have hn1206 : q39 ≠ q488 := fun e => hn536 (e ▸ hm382)
  have hn1207 : q39 ≠ q489 := fun e => hn539 (e ▸ hm382)
  have hn1208 : q39 ≠ q490 := fun e => hn542 (e ▸ hm382)
  have hn1209 : q39 ≠ q491 := fun e => hn545 (e ▸ hm382)
  have hn1210 : q39 ≠ q492 := fun e => hn548 (e ▸ hm382)
  have hn1211 : q39 ≠ q493 := fun e => hn551 (e ▸ hm382)
  have hn1212 : q39 ≠ q494 := fun e => hn554 (e ▸ hm382)
  have hn1213 : q39 ≠ q495 := fun e => hn557 (e ▸ hm382)
  have hn1214 : q39 ≠ q496 := fun e => hn560 (e ▸ hm382)
  have hf1215 := (fr565 q39 hm382 hn383).trans hf381
  have hm1192 := sb566 _ hm382
  have hn1217 : q40 ≠ q475 := fun e => hn497 (e ▸ hm385)
  have hn1218 : q40 ≠ q476 := fun e => hn500 (e ▸ hm385)
  have hn1219 : q40 ≠ q477 := fun e => hn503 (e ▸ hm385)
  have hn1220 : q40 ≠ q478 := fun e => hn506 (e ▸ hm385)
  have hn1221 : q40 ≠ q479 := fun e => hn509 (e ▸ hm385)
  have hn1222 : q40 ≠ q480 := fun e => hn512 (e ▸ hm385)
  have hn1223 : q40 ≠ q481 := fun e => hn515 (e ▸ hm385)
  have hn1224 : q40 ≠ q482 := fun e => hn518 (e ▸ hm385)
  have hn1225 : q40 ≠ q483 := fun e => hn521 (e ▸ hm385)
  have hn1226 : q40 ≠ q484 := fun e => hn524 (e ▸ hm385)
  have hn1227 : q40 ≠ q485 := fun e => hn527 (e ▸ hm385)
  have hn1228 : q40 ≠ q486 := fun e => hn530 (e ▸ hm385)
  have hn1229 : q40 ≠ q487 := fun e => hn533 (e ▸ hm385)
  have hn1230 : q40 ≠ q488 := fun e => hn536 (e ▸ hm385)
  have hn1231 : q40 ≠ q489 := fun e => hn539 (e ▸ hm385)
  have hn1232 : q40 ≠ q490 := fun e => hn542 (e ▸ hm385)
  have hn1233 : q40 ≠ q491 := fun e => hn545 (e ▸ hm385)
  have hn1234 : q40 ≠ q492 := fun e => hn548 (e ▸ hm385)
  have hn1235 : q40 ≠ q493 := fun e => hn551 (e ▸ hm385)
  have hn1236 : q40 ≠ q494 := fun e => hn554 (e ▸ hm385)
  have hn1237 : q40 ≠ q495 := fun e => hn557 (e ▸ hm385)
  have hn1238 : q40 ≠ q496 := fun e => hn560 (e ▸ hm385)
  have hf1239 := (fr565 q40 hm385 hn386).trans hf384
  have hm1216 := sb566 _ hm385
  have hn1241 : q41 ≠ q475 := fun e => hn497 (e ▸ hm388)
  have hn1242 : q41 ≠ q476 := fun e => hn500 (e ▸ hm388)
  have hn1243 : q41 ≠ q477 := fun e => hn503 (e ▸ hm388)
  have hn1244 : q41 ≠ q478 := fun e => hn506 (e ▸ hm388)
  have hn1245 : q41 ≠ q479 := fun e => hn509 (e ▸ hm388)
  have hn1246 : q41 ≠ q480 := fun e => hn512 (e ▸ hm388)
  have hn1247 : q41 ≠ q481 := fun e => hn515 (e ▸ hm388)
  have hn1248 : q41 ≠ q482 := fun e => hn518 (e ▸ hm388)
  have hn1249 : q41 ≠ q483 := fun e => hn521 (e ▸ hm388)
  have hn1250 : q41 ≠ q484 := fun e => hn524 (e ▸ hm388)
  have hn1251 : q41 ≠ q485 := fun e => hn527 (e ▸ hm388)
  have hn1252 : q41 ≠ q486 := fun e => hn530 (e ▸ hm388)
  have hn1253 : q41 ≠ q487 := fun e => hn533 (e ▸ hm388)
  have hn1254 : q41 ≠ q488 := fun e => hn536 (e ▸ hm388)
  have hn1255 : q41 ≠ q489 := fun e => hn539 (e ▸ hm388)
  have hn1256 : q41 ≠ q490 := fun e => hn542 (e ▸ hm388)
  have hn1257 : q41 ≠ q491 := fun e => hn545 (e ▸ hm388)
  have hn1258 : q41 ≠ q492 := fun e => hn548 (e ▸ hm388)
  have hn1259 : q41 ≠ q493 := fun e => hn551 (e ▸ hm388)
  have hn1260 : q41 ≠ q494 := fun e => hn554 (e ▸ hm388)
  have hn1261 : q41 ≠ q495 := fun e => hn557 (e ▸ hm388)
  have hn1262 : q41 ≠ q496 := fun e => hn560 (e ▸ hm388)
  have hf1263 := (fr565 q41 hm388 hn389).trans hf387
  have hm1240 := sb566 _ hm388
  have hn1265 : q42 ≠ q475 := fun e => hn497 (e ▸ hm391)
  have hn1266 : q42 ≠ q476 := fun e => hn500 (e ▸ hm391)
  have hn1267 : q42 ≠ q477 := fun e => hn503 (e ▸ hm391)
  have hn1268 : q42 ≠ q478 := fun e => hn506 (e ▸ hm391)
  have hn1269 : q42 ≠ q479 := fun e => hn509 (e ▸ hm391)
  have hn1270 : q42 ≠ q480 := fun e => hn512 (e ▸ hm391)
  have hn1271 : q42 ≠ q481 := fun e => hn515 (e ▸ hm391)
  have hn1272 : q42 ≠ q482 := fun e => hn518 (e ▸ hm391)
  have hn1273 : q42 ≠ q483 := fun e => hn521 (e ▸ hm391)
  have hn1274 : q42 ≠ q484 := fun e => hn524 (e ▸ hm391)
  have hn1275 : q42 ≠ q485 := fun e => hn527 (e ▸ hm391)
  have hn1276 : q42 ≠ q486 := fun e => hn530 (e ▸ hm391)
  have hn1277 : q42 ≠ q487 := fun e => hn533 (e ▸ hm391)
  have hn1278 : q42 ≠ q488 := fun e => hn536 (e ▸ hm391)
  have hn1279 : q42 ≠ q489 := fun e => hn539 (e ▸ hm391)
  have hn1280 : q42 ≠ q490 := fun e => hn542 (e ▸ hm391)
  have hn1281 : q42 ≠ q491 := fun e => hn545 (e ▸ hm391)
  have hn1282 : q42 ≠ q492 := fun e => hn548 (e ▸ hm391)
  have hn1283 : q42 ≠ q493 := fun e => hn551 (e ▸ hm391)
  have hn1284 : q42 ≠ q494 := fun e => hn554 (e ▸ hm391)
  have hn1285 : q42 ≠ q495 := fun e => hn557 (e ▸ hm391)
  have hn1286 : q42 ≠ q496 := fun e => hn560 (e ▸ hm391)
  have hf1287 := (fr565 q42 hm391 hn392).trans hf390
  have hm1264 := sb566 _ hm391
  have hn1289 : q43 ≠ q475 := fun e => hn497 (e ▸ hm394)
  have hn1290 : q43 ≠ q476 := fun e => hn500 (e ▸ hm394)
  have hn1291 : q43 ≠ q477 := fun e => hn503 (e ▸ hm394)
  have hn1292 : q43 ≠ q478 := fun e => hn506 (e ▸ hm394)
  have hn1293 : q43 ≠ q479 := fun e => hn509 (e ▸ hm394)
  have hn1294 : q43 ≠ q480 := fun e => hn512 (e ▸ hm394)
  have hn1295 : q43 ≠ q481 := fun e => hn515 (e ▸ hm394)
  have hn1296 : q43 ≠ q482 := fun e => hn518 (e ▸ hm394)
  have hn1297 : q43 ≠ q483 := fun e => hn521 (e ▸ hm394)
  have hn1298 : q43 ≠ q484 := fun e => hn524 (e ▸ hm394)
  have hn1299 : q43 ≠ q485 := fun e => hn527 (e ▸ hm394)
  have hn1300 : q43 ≠ q486 := fun e => hn530 (e ▸ hm394)
  have hn1301 : q43 ≠ q487 := fun e => hn533 (e ▸ hm394)
  have hn1302 : q43 ≠ q488 := fun e => hn536 (e ▸ hm394)
  have hn1303 : q43 ≠ q489 := fun e => hn539 (e ▸ hm394)
  have hn1304 : q43 ≠ q490 := fun e => hn542 (e ▸ hm394)
  have hn1305 : q43 ≠ q491 := fun e => hn545 (e ▸ hm394)
  have hn1306 : q43 ≠ q492 := fun e => hn548 (e ▸ hm394)
  have hn1307 : q43 ≠ q493 := fun e => hn551 (e ▸ hm394)
  have hn1308 : q43 ≠ q494 := fun e => hn554 (e ▸ hm394)
  have hn1309 : q43 ≠ q495 := fun e => hn557 (e ▸ hm394)
  have hn1310 : q43 ≠ q496 := fun e => hn560 (e ▸ hm394)
  have hf1311 := (fr565 q43 hm394 hn395).trans hf393
  have hm1288 := sb566 _ hm394
  have hn1313 : q44 ≠ q475 := fun e => hn497 (e ▸ hm397)
  have hn1314 : q44 ≠ q476 := fun e => hn500 (e ▸ hm397)
  have hn1315 : q44 ≠ q477 := fun e => hn503 (e ▸ hm397)
  have hn1316 : q44 ≠ q478 := fun e => hn506 (e ▸ hm397)
  have hn1317 : q44 ≠ q479 := fun e => hn509 (e ▸ hm397)
  have hn1318 : q44 ≠ q480 := fun e => hn512 (e ▸ hm397)
  have hn1319 : q44 ≠ q481 := fun e => hn515 (e ▸ hm397)
  have hn1320 : q44 ≠ q482 := fun e => hn518 (e ▸ hm397)
  have hn1321 : q44 ≠ q483 := fun e => hn521 (e ▸ hm397)
  have hn1322 : q44 ≠ q484 := fun e => hn524 (e ▸ hm397)
  have hn1323 : q44 ≠ q485 := fun e => hn527 (e ▸ hm397)
  have hn1324 : q44 ≠ q486 := fun e => hn530 (e ▸ hm397)
  have hn1325 : q44 ≠ q487 := fun e => hn533 (e ▸ hm397)
  have hn1326 : q44 ≠ q488 := fun e => hn536 (e ▸ hm397)
  have hn1327 : q44 ≠ q489 := fun e => hn539 (e ▸ hm397)
  have hn1328 : q44 ≠ q490 := fun e => hn542 (e ▸ hm397)
  have hn1329 : q44 ≠ q491 := fun e => hn545 (e ▸ hm397)
  have hn1330 : q44 ≠ q492 := fun e => hn548 (e ▸ hm397)
  have hn1331 : q44 ≠ q493 := fun e => hn551 (e ▸ hm397)
  have hn1332 : q44 ≠ q494 := fun e => hn554 (e ▸ hm397)
  have hn1333 : q44 ≠ q495 := fun e => hn557 (e ▸ hm397)
  have hn1334 : q44 ≠ q496 := fun e => hn560 (e ▸ hm397)
  have hf1335 := (fr565 q44 hm397 hn398).trans hf396
  have hm1312 := sb566 _ hm397
  have hn1337 : q45 ≠ q475 := fun e => hn497 (e ▸ hm400)
  have hn1338 : q45 ≠ q476 := fun e => hn500 (e ▸ hm400)
  have hn1339 : q45 ≠ q477 := fun e => hn503 (e ▸ hm400)
  have hn1340 : q45 ≠ q478 := fun e => hn506 (e ▸ hm400)
  have hn1341 : q45 ≠ q479 := fun e => hn509 (e ▸ hm400)
  have hn1342 : q45 ≠ q480 := fun e => hn512 (e ▸ hm400)
  have hn1343 : q45 ≠ q481 := fun e => hn515 (e ▸ hm400)
  have hn1344 : q45 ≠ q482 := fun e => hn518 (e ▸ hm400)
  have hn1345 : q45 ≠ q483 := fun e => hn521 (e ▸ hm400)
  have hn1346 : q45 ≠ q484 := fun e => hn524 (e ▸ hm400)
  have hn1347 : q45 ≠ q485 := fun e => hn527 (e ▸ hm400)
  have hn1348 : q45 ≠ q486 := fun e => hn530 (e ▸ hm400)
  have hn1349 : q45 ≠ q487 := fun e => hn533 (e ▸ hm400)
  have hn1350 : q45 ≠ q488 := fun e => hn536 (e ▸ hm400)
  have hn1351 : q45 ≠ q489 := fun e => hn539 (e ▸ hm400)
  have hn1352 : q45 ≠ q490 := fun e => hn542 (e ▸ hm400)
  have hn1353 : q45 ≠ q491 := fun e => hn545 (e ▸ hm400)
  have hn1354 : q45 ≠ q492 := fun e => hn548 (e ▸ hm400)
  have hn1355 : q45 ≠ q493 := fun e => hn551 (e ▸ hm400)
  have hn1356 : q45 ≠ q494 := fun e => hn554 (e ▸ hm400)
  have hn1357 : q45 ≠ q495 := fun e => hn557 (e ▸ hm400)
  have hn1358 : q45 ≠ q496 := fun e => hn560 (e ▸ hm400)
  have hf1359 := (fr565 q45 hm400 hn401).trans hf399
  have hm1336 := sb566 _ hm400
  have hn1361 : q46 ≠ q475 := fun e => hn497 (e ▸ hm403)
  have hn1362 : q46 ≠ q476 := fun e => hn500 (e ▸ hm403)
  have hn1363 : q46 ≠ q477 := fun e => hn503 (e ▸ hm403)
  have hn1364 : q46 ≠ q478 := fun e => hn506 (e ▸ hm403)
  have hn1365 : q46 ≠ q479 := fun e => hn509 (e ▸ hm403)
  have hn1366 : q46 ≠ q480 := fun e => hn512 (e ▸ hm403)
  have hn1367 : q46 ≠ q481 := fun e => hn515 (e ▸ hm403)
  have hn1368 : q46 ≠ q482 := fun e => hn518 (e ▸ hm403)
  have hn1369 : q46 ≠ q483 := fun e => hn521 (e ▸ hm403)
  have hn1370 : q46 ≠ q484 := fun e => hn524 (e ▸ hm403)
  have hn1371 : q46 ≠ q485 := fun e => hn527 (e ▸ hm403)
  have hn1372 : q46 ≠ q486 := fun e => hn530 (e ▸ hm403)
  have hn1373 : q46 ≠ q487 := fun e => hn533 (e ▸ hm403)
  have hn1374 : q46 ≠ q488 := fun e => hn536 (e ▸ hm403)
  have hn1375 : q46 ≠ q489 := fun e => hn539 (e ▸ hm403)
  have hn1376 : q46 ≠ q490 := fun e => hn542 (e ▸ hm403)
  have hn1377 : q46 ≠ q491 := fun e => hn545 (e ▸ hm403)
  have hn1378 : q46 ≠ q492 := fun e => hn548 (e ▸ hm403)
  have hn1379 : q46 ≠ q493 := fun e => hn551 (e ▸ hm403)
  have hn1380 : q46 ≠ q494 := fun e => hn554 (e ▸ hm403)
  have hn1381 : q46 ≠ q495 := fun e => hn557 (e ▸ hm403)
  have hn1382 : q46 ≠ q496 := fun e => hn560 (e ▸ hm403)
  have hf1383 := (fr565 q46 hm403 hn404).trans hf402
  have hm1360 := sb566 _ hm403
  have hn1385 : q47 ≠ q475 := fun e => hn497 (e ▸ hm406)
  have hn1386 : q47 ≠ q476 := fun e => hn500 (e ▸ hm406)
  have hn1387 : q47 ≠ q477 := fun e => hn503 (e ▸ hm406)
  have hn1388 : q47 ≠ q478 := fun e => hn506 (e ▸ hm406)
  have hn1389 : q47 ≠ q479 := fun e => hn509 (e ▸ hm406)
  have hn1390 : q47 ≠ q480 := fun e => hn512 (e ▸ hm406)
  have hn1391 : q47 ≠ q481 := fun e => hn515 (e ▸ hm406)
  have hn1392 : q47 ≠ q482 := fun e => hn518 (e ▸ hm406)
  have hn1393 : q47 ≠ q483 := fun e => hn521 (e ▸ hm406)
  have hn1394 : q47 ≠ q484 := fun e => hn524 (e ▸ hm406)
  have hn1395 : q47 ≠ q485 := fun e => hn527 (e ▸ hm406)
  have hn1396 : q47 ≠ q486 := fun e => hn530 (e ▸ hm406)
  have hn1397 : q47 ≠ q487 := fun e => hn533 (e ▸ hm406)
  have hn1398 : q47 ≠ q488 := fun e => hn536 (e ▸ hm406)
  have hn1399 : q47 ≠ q489 := fun e => hn539 (e ▸ hm406)
  have hn1400 : q47 ≠ q490 := fun e => hn542 (e ▸ hm406)
  have hn1401 : q47 ≠ q491 := fun e => hn545 (e ▸ hm406)
  have hn1402 : q47 ≠ q492 := fun e => hn548 (e ▸ hm406)
  have hn1403 : q47 ≠ q493 := fun e => hn551 (e ▸ hm406)
  have hn1404 : q47 ≠ q494 := fun e => hn554 (e ▸ hm406)
  have hn1405 : q47 ≠ q495 := fun e => hn557 (e ▸ hm406)
  have hn1406 : q47 ≠ q496 := fun e => hn560 (e ▸ hm406)
  have hf1407 := (fr565 q47 hm406 hn407).trans hf405
  have hm1384 := sb566 _ hm406
  have hn1409 : q48 ≠ q475 := fun e => hn497 (e ▸ hm409)
  have hn1410 : q48 ≠ q476 := fun e => hn500 (e ▸ hm409)
  have hn1411 : q48 ≠ q477 := fun e => hn503 (e ▸ hm409)
  have hn1412 : q48 ≠ q478 := fun e => hn506 (e ▸ hm409)
  have hn1413 : q48 ≠ q479 := fun e => hn509 (e ▸ hm409)
  have hn1414 : q48 ≠ q480 := fun e => hn512 (e ▸ hm409)
  have hn1415 : q48 ≠ q481 := fun e => hn515 (e ▸ hm409)
  have hn1416 : q48 ≠ q482 := fun e => hn518 (e ▸ hm409)
  have hn1417 : q48 ≠ q483 := fun e => hn521 (e ▸ hm409)
  have hn1418 : q48 ≠ q484 := fun e => hn524 (e ▸ hm409)
  have hn1419 : q48 ≠ q485 := fun e => hn527 (e ▸ hm409)
  have hn1420 : q48 ≠ q486 := fun e => hn530 (e ▸ hm409)
  have hn1421 : q48 ≠ q487 := fun e => hn533 (e ▸ hm409)
  have hn1422 : q48 ≠ q488 := fun e => hn536 (e ▸ hm409)
  have hn1423 : q48 ≠ q489 := fun e => hn539 (e ▸ hm409)
  have hn1424 : q48 ≠ q490 := fun e => hn542 (e ▸ hm409)
  have hn1425 : q48 ≠ q491 := fun e => hn545 (e ▸ hm409)
  have hn1426 : q48 ≠ q492 := fun e => hn548 (e ▸ hm409)
  have hn1427 : q48 ≠ q493 := fun e => hn551 (e ▸ hm409)
  have hn1428 : q48 ≠ q494 := fun e => hn554 (e ▸ hm409)
  have hn1429 : q48 ≠ q495 := fun e => hn557 (e ▸ hm409)
  have hn1430 : q48 ≠ q496 := fun e => hn560 (e ▸ hm409)
  have hf1431 := (fr565 q48 hm409 hn410).trans hf408
  have hm1408 := sb566 _ hm409
  have hn1433 : q49 ≠ q475 := fun e => hn497 (e ▸ hm412)
  have hn1434 : q49 ≠ q476 := fun e => hn500 (e ▸ hm412)
  have hn1435 : q49 ≠ q477 := fun e => hn503 (e ▸ hm412)
  have hn1436 : q49 ≠ q478 := fun e => hn506 (e ▸ hm412)
  have hn1437 : q49 ≠ q479 := fun e => hn509 (e ▸ hm412)
  have hn1438 : q49 ≠ q480 := fun e => hn512 (e ▸ hm412)
  have hn1439 : q49 ≠ q481 := fun e => hn515 (e ▸ hm412)
  have hn1440 : q49 ≠ q482 := fun e => hn518 (e ▸ hm412)
  have hn1441 : q49 ≠ q483 := fun e => hn521 (e ▸ hm412)
  have hn1442 : q49 ≠ q484 := fun e => hn524 (e ▸ hm412)
  have hn1443 : q49 ≠ q485 := fun e => hn527 (e ▸ hm412)
  have hn1444 : q49 ≠ q486 := fun e => hn530 (e ▸ hm412)
  have hn1445 : q49 ≠ q487 := fun e => hn533 (e ▸ hm412)
  have hn1446 : q49 ≠ q488 := fun e => hn536 (e ▸ hm412)
  have hn1447 : q49 ≠ q489 := fun e => hn539 (e ▸ hm412)
  have hn1448 : q49 ≠ q490 := fun e => hn542 (e ▸ hm412)
  have hn1449 : q49 ≠ q491 := fun e => hn545 (e ▸ hm412)
  have hn1450 : q49 ≠ q492 := fun e => hn548 (e ▸ hm412)
  have hn1451 : q49 ≠ q493 := fun e => hn551 (e ▸ hm412)
  have hn1452 : q49 ≠ q494 := fun e => hn554 (e ▸ hm412)
  have hn1453 : q49 ≠ q495 := fun e => hn557 (e ▸ hm412)
  have hn1454 : q49 ≠ q496 := fun e => hn560 (e ▸ hm412)
  have hf1455 := (fr565 q49 hm412 hn413).trans hf411
  have hm1432 := sb566 _ hm412
  have hn1457 : q50 ≠ q475 := fun e => hn497 (e ▸ hm415)
  have hn1458 : q50 ≠ q476 := fun e => hn500 (e ▸ hm415)
  have hn1459 : q50 ≠ q477 := fun e => hn503 (e ▸ hm415)
  have hn1460 : q50 ≠ q478 := fun e => hn506 (e ▸ hm415)
  have hn1461 : q50 ≠ q479 := fun e => hn509 (e ▸ hm415)
  have hn1462 : q50 ≠ q480 := fun e => hn512 (e ▸ hm415)
  have hn1463 : q50 ≠ q481 := fun e => hn515 (e ▸ hm415)
  have hn1464 : q50 ≠ q482 := fun e => hn518 (e ▸ hm415)
  have hn1465 : q50 ≠ q483 := fun e => hn521 (e ▸ hm415)
  have hn1466 : q50 ≠ q484 := fun e => hn524 (e ▸ hm415)
  have hn1467 : q50 ≠ q485 := fun e => hn527 (e ▸ hm415)
  have hn1468 : q50 ≠ q486 := fun e => hn530 (e ▸ hm415)
  have hn1469 : q50 ≠ q487 := fun e => hn533 (e ▸ hm415)
  have hn1470 : q50 ≠ q488 := fun e => hn536 (e ▸ hm415)
  have hn1471 : q50 ≠ q489 := fun e => hn539 (e ▸ hm415)
  have hn1472 : q50 ≠ q490 := fun e => hn542 (e ▸ hm415)
  have hn1473 : q50 ≠ q491 := fun e => hn545 (e ▸ hm415)
  have hn1474 : q50 ≠ q492 := fun e => hn548 (e ▸ hm415)
  have hn1475 : q50 ≠ q493 := fun e => hn551 (e ▸ hm415)
  have hn1476 : q50 ≠ q494 := fun e => hn554 (e ▸ hm415)
  have hn1477 : q50 ≠ q495 := fun e => hn557 (e ▸ hm415)
  have hn1478 : q50 ≠ q496 := fun e => hn560 (e ▸ hm415)
  have hf1479 := (fr565 q50 hm415 hn416).trans hf414
  have hm1456 := sb566 _ hm415
  have hn1481 : q51 ≠ q475 := fun e => hn497 (e ▸ hm418)
  have hn1482 : q51 ≠ q476 := fun e => hn500 (e ▸ hm418)
  have hn1483 : q51 ≠ q477 := fun e => hn503 (e ▸ hm418)
  have hn1484 : q51 ≠ q478 := fun e => hn506 (e ▸ hm418)
  have hn1485 : q51 ≠ q479 := fun e => hn509 (e ▸ hm418)
  have hn1486 : q51 ≠ q480 := fun e => hn512 (e ▸ hm418)
  have hn1487 : q51 ≠ q481 := fun e => hn515 (e ▸ hm418)
  have hn1488 : q51 ≠ q482 := fun e => hn518 (e ▸ hm418)
  have hn1489 : q51 ≠ q483 := fun e => hn521 (e ▸ hm418)
  have hn1490 : q51 ≠ q484 := fun e => hn524 (e ▸ hm418)
  have hn1491 : q51 ≠ q485 := fun e => hn527 (e ▸ hm418)
  have hn1492 : q51 ≠ q486 := fun e => hn530 (e ▸ hm418)
  have hn1493 : q51 ≠ q487 := fun e => hn533 (e ▸ hm418)
  have hn1494 : q51 ≠ q488 := fun e => hn536 (e ▸ hm418)
  have hn1495 : q51 ≠ q489 := fun e => hn539 (e ▸ hm418)
  have hn1496 : q51 ≠ q490 := fun e => hn542 (e ▸ hm418)
  have hn1497 : q51 ≠ q491 := fun e => hn545 (e ▸ hm418)
  have hn1498 : q51 ≠ q492 := fun e => hn548 (e ▸ hm418)
  have hn1499 : q51 ≠ q493 := fun e => hn551 (e ▸ hm418)
  have hn1500 : q51 ≠ q494 := fun e => hn554 (e ▸ hm418)
  have hn1501 : q51 ≠ q495 := fun e => hn557 (e ▸ hm418)
  have hn1502 : q51 ≠ q496 := fun e => hn560 (e ▸ hm418)
  have hf1503 := (fr565 q51 hm418 hn419).trans hf417
  have hm1480 := sb566 _ hm418
  have hn1505 : q52 ≠ q475 := fun e => hn497 (e ▸ hm421)
  have hn1506 : q52 ≠ q476 := fun e => hn500 (e ▸ hm421)
  have hn1507 : q52 ≠ q477 := fun e => hn503 (e ▸ hm421)
  have hn1508 : q52 ≠ q478 := fun e => hn506 (e ▸ hm421)
  have hn1509 : q52 ≠ q479 := fun e => hn509 (e ▸ hm421)
  have hn1510 : q52 ≠ q480 := fun e => hn512 (e ▸ hm421)
  have hn1511 : q52 ≠ q481 := fun e => hn515 (e ▸ hm421)
  have hn1512 : q52 ≠ q482 := fun e => hn518 (e ▸ hm421)
  have hn1513 : q52 ≠ q483 := fun e => hn521 (e ▸ hm421)
  have hn1514 : q52 ≠ q484 := fun e => hn524 (e ▸ hm421)
  have hn1515 : q52 ≠ q485 := fun e => hn527 (e ▸ hm421)
  have hn1516 : q52 ≠ q486 := fun e => hn530 (e ▸ hm421)
  have hn1517 : q52 ≠ q487 := fun e => hn533 (e ▸ hm421)
  have hn1518 : q52 ≠ q488 := fun e => hn536 (e ▸ hm421)
  have hn1519 : q52 ≠ q489 := fun e => hn539 (e ▸ hm421)
  have hn1520 : q52 ≠ q490 := fun e => hn542 (e ▸ hm421)
  have hn1521 : q52 ≠ q491 := fun e => hn545 (e ▸ hm421)
  have hn1522 : q52 ≠ q492 := fun e => hn548 (e ▸ hm421)
  have hn1523 : q52 ≠ q493 := fun e => hn551 (e ▸ hm421)
  have hn1524 : q52 ≠ q494 := fun e => hn554 (e ▸ hm421)
  have hn1525 : q52 ≠ q495 := fun e => hn557 (e ▸ hm421)
  have hn1526 : q52 ≠ q496 := fun e => hn560 (e ▸ hm421)
  have hf1527 := (fr565 q52 hm421 hn422).trans hf420
  have hm1504 := sb566 _ hm421
  have hn1529 : q53 ≠ q475 := fun e => hn497 (e ▸ hm424)
  have hn1530 : q53 ≠ q476 := fun e => hn500 (e ▸ hm424)
  have hn1531 : q53 ≠ q477 := fun e => hn503 (e ▸ hm424)
  have hn1532 : q53 ≠ q478 := fun e => hn506 (e ▸ hm424)
  have hn1533 : q53 ≠ q479 := fun e => hn509 (e ▸ hm424)
  have hn1534 : q53 ≠ q480 := fun e => hn512 (e ▸ hm424)
  have hn1535 : q53 ≠ q481 := fun e => hn515 (e ▸ hm424)
  have hn1536 : q53 ≠ q482 := fun e => hn518 (e ▸ hm424)
  have hn1537 : q53 ≠ q483 := fun e => hn521 (e ▸ hm424)
  have hn1538 : q53 ≠ q484 := fun e => hn524 (e ▸ hm424)
  have hn1539 : q53 ≠ q485 := fun e => hn527 (e ▸ hm424)
  have hn1540 : q53 ≠ q486 := fun e => hn530 (e ▸ hm424)
  have hn1541 : q53 ≠ q487 := fun e => hn533 (e ▸ hm424)
  have hn1542 : q53 ≠ q488 := fun e => hn536 (e ▸ hm424)
  have hn1543 : q53 ≠ q489 := fun e => hn539 (e ▸ hm424)
  have hn1544 : q53 ≠ q490 := fun e => hn542 (e ▸ hm424)
  have hn1545 : q53 ≠ q491 := fun e => hn545 (e ▸ hm424)
  have hn1546 : q53 ≠ q492 := fun e => hn548 (e ▸ hm424)
  have hn1547 : q53 ≠ q493 := fun e => hn551 (e ▸ hm424)
  have hn1548 : q53 ≠ q494 := fun e => hn554 (e ▸ hm424)
  have hn1549 : q53 ≠ q495 := fun e => hn557 (e ▸ hm424)
  have hn1550 : q53 ≠ q496 := fun e => hn560 (e ▸ hm424)
  have hf1551 := (fr565 q53 hm424 hn425).trans hf423
  have hm1528 := sb566 _ hm424
  have hn1553 : q54 ≠ q475 := fun e => hn497 (e ▸ hm427)
  have hn1554 : q54 ≠ q476 := fun e => hn500 (e ▸ hm427)
  have hn1555 : q54 ≠ q477 := fun e => hn503 (e ▸ hm427)
  have hn1556 : q54 ≠ q478 := fun e => hn506 (e ▸ hm427)
  have hn1557 : q54 ≠ q479 := fun e => hn509 (e ▸ hm427)
  have hn1558 : q54 ≠ q480 := fun e => hn512 (e ▸ hm427)
  have hn1559 : q54 ≠ q481 := fun e => hn515 (e ▸ hm427)
  have hn1560 : q54 ≠ q482 := fun e => hn518 (e ▸ hm427)
  have hn1561 : q54 ≠ q483 := fun e => hn521 (e ▸ hm427)
  have hn1562 : q54 ≠ q484 := fun e => hn524 (e ▸ hm427)
  have hn1563 : q54 ≠ q485 := fun e => hn527 (e ▸ hm427)
  have hn1564 : q54 ≠ q486 := fun e => hn530 (e ▸ hm427)
  have hn1565 : q54 ≠ q487 := fun e => hn533 (e ▸ hm427)
  have hn1566 : q54 ≠ q488 := fun e => hn536 (e ▸ hm427)
  have hn1567 : q54 ≠ q489 := fun e => hn539 (e ▸ hm427)
  have hn1568 : q54 ≠ q490 := fun e => hn542 (e ▸ hm427)
  have hn1569 : q54 ≠ q491 := fun e => hn545 (e ▸ hm427)
  have hn1570 : q54 ≠ q492 := fun e => hn548 (e ▸ hm427)
  have hn1571 : q54 ≠ q493 := fun e => hn551 (e ▸ hm427)
  have hn1572 : q54 ≠ q494 := fun e => hn554 (e ▸ hm427)
  have hn1573 : q54 ≠ q495 := fun e => hn557 (e ▸ hm427)
  have hn1574 : q54 ≠ q496 := fun e => hn560 (e ▸ hm427)
  have hf1575 := (fr565 q54 hm427 hn428).trans hf426
  have hm1552 := sb566 _ hm427
  have hn1577 : q55 ≠ q475 := fun e => hn497 (e ▸ hm430)
  have hn1578 : q55 ≠ q476 := fun e => hn500 (e ▸ hm430)
  have hn1579 : q55 ≠ q477 := fun e => hn503 (e ▸ hm430)
  have hn1580 : q55 ≠ q478 := fun e => hn506 (e ▸ hm430)
  have hn1581 : q55 ≠ q479 := fun e => hn509 (e ▸ hm430)
  have hn1582 : q55 ≠ q480 := fun e => hn512 (e ▸ hm430)
  have hn1583 : q55 ≠ q481 := fun e => hn515 (e ▸ hm430)
  have hn1584 : q55 ≠ q482 := fun e => hn518 (e ▸ hm430)
  have hn1585 : q55 ≠ q483 := fun e => hn521 (e ▸ hm430)
  have hn1586 : q55 ≠ q484 := fun e => hn524 (e ▸ hm430)
  have hn1587 : q55 ≠ q485 := fun e => hn527 (e ▸ hm430)
  have hn1588 : q55 ≠ q486 := fun e => hn530 (e ▸ hm430)
  have hn1589 : q55 ≠ q487 := fun e => hn533 (e ▸ hm430)
  have hn1590 : q55 ≠ q488 := fun e => hn536 (e ▸ hm430)
  have hn1591 : q55 ≠ q489 := fun e => hn539 (e ▸ hm430)
  have hn1592 : q55 ≠ q490 := fun e => hn542 (e ▸ hm430)
  have hn1593 : q55 ≠ q491 := fun e => hn545 (e ▸ hm430)
  have hn1594 : q55 ≠ q492 := fun e => hn548 (e ▸ hm430)
  have hn1595 : q55 ≠ q493 := fun e => hn551 (e ▸ hm430)
  have hn1596 : q55 ≠ q494 := fun e => hn554 (e ▸ hm430)
  have hn1597 : q55 ≠ q495 := fun e => hn557 (e ▸ hm430)
  have hn1598 : q55 ≠ q496 := fun e => hn560 (e ▸ hm430)
  have hf1599 := (fr565 q55 hm430 hn431).trans hf429
  have hm1576 := sb566 _ hm430
  have hn1601 : q56 ≠ q475 := fun e => hn497 (e ▸ hm433)
  have hn1602 : q56 ≠ q476 := fun e => hn500 (e ▸ hm433)
  have hn1603 : q56 ≠ q477 := fun e => hn503 (e ▸ hm433)
  have hn1604 : q56 ≠ q478 := fun e => hn506 (e ▸ hm433)
  have hn1605 : q56 ≠ q479 := fun e => hn509 (e ▸ hm433)
  have hn1606 : q56 ≠ q480 := fun e => hn512 (e ▸ hm433)
  have hn1607 : q56 ≠ q481 := fun e => hn515 (e ▸ hm433)
  have hn1608 : q56 ≠ q482 := fun e => hn518 (e ▸ hm433)
  have hn1609 : q56 ≠ q483 := fun e => hn521 (e ▸ hm433)
  have hn1610 : q56 ≠ q484 := fun e => hn524 (e ▸ hm433)
  have hn1611 : q56 ≠ q485 := fun e => hn527 (e ▸ hm433)
  have hn1612 : q56 ≠ q486 := fun e => hn530 (e ▸ hm433)
  have hn1613 : q56 ≠ q487 := fun e => hn533 (e ▸ hm433)
  have hn1614 : q56 ≠ q488 := fun e => hn536 (e ▸ hm433)
  have hn1615 : q56 ≠ q489 := fun e => hn539 (e ▸ hm433)
  have hn1616 : q56 ≠ q490 := fun e => hn542 (e ▸ hm433)
  have hn1617 : q56 ≠ q491 := fun e => hn545 (e ▸ hm433)
  have hn1618 : q56 ≠ q492 := fun e => hn548 (e ▸ hm433)
  have hn1619 : q56 ≠ q493 := fun e => hn551 (e ▸ hm433)
  have hn1620 : q56 ≠ q494 := fun e => hn554 (e ▸ hm433)
  have hn1621 : q56 ≠ q495 := fun e => hn557 (e ▸ hm433)
  have hn1622 : q56 ≠ q496 := fun e => hn560 (e ▸ hm433)
  have hf1623 := (fr565 q56 hm433 hn434).trans hf432
  have hm1600 := sb566 _ hm433
  have hn1625 : q57 ≠ q475 := fun e => hn497 (e ▸ hm436)
  have hn1626 : q57 ≠ q476 := fun e => hn500 (e ▸ hm436)
  have hn1627 : q57 ≠ q477 := fun e => hn503 (e ▸ hm436)
  have hn1628 : q57 ≠ q478 := fun e => hn506 (e ▸ hm436)
  have hn1629 : q57 ≠ q479 := fun e => hn509 (e ▸ hm436)
  have hn1630 : q57 ≠ q480 := fun e => hn512 (e ▸ hm436)
  have hn1631 : q57 ≠ q481 := fun e => hn515 (e ▸ hm436)
  have hn1632 : q57 ≠ q482 := fun e => hn518 (e ▸ hm436)
  have hn1633 : q57 ≠ q483 := fun e => hn521 (e ▸ hm436)
  have hn1634 : q57 ≠ q484 := fun e => hn524 (e ▸ hm436)
  have hn1635 : q57 ≠ q485 := fun e => hn527 (e ▸ hm436)
  have hn1636 : q57 ≠ q486 := fun e => hn530 (e ▸ hm436)
  have hn1637 : q57 ≠ q487 := fun e => hn533 (e ▸ hm436)
  have hn1638 : q57 ≠ q488 := fun e => hn536 (e ▸ hm436)
  have hn1639 : q57 ≠ q489 := fun e => hn539 (e ▸ hm436)
  have hn1640 : q57 ≠ q490 := fun e => hn542 (e ▸ hm436)
  have hn1641 : q57 ≠ q491 := fun e => hn545 (e ▸ hm436)
  have hn1642 : q57 ≠ q492 := fun e => hn548 (e ▸ hm436)
  have hn1643 : q57 ≠ q493 := fun e => hn551 (e ▸ hm436)
  have hn1644 : q57 ≠ q494 := fun e => hn554 (e ▸ hm436)
  have hn1645 : q57 ≠ q495 := fun e => hn557 (e ▸ hm436)
  have hn1646 : q57 ≠ q496 := fun e => hn560 (e ▸ hm436)
  have hf1647 := (fr565 q57 hm436 hn437).trans hf435
  have hm1624 := sb566 _ hm436
  have hn1649 : q58 ≠ q475 := fun e => hn497 (e ▸ hm439)
  have hn1650 : q58 ≠ q476 := fun e => hn500 (e ▸ hm439)
  have hn1651 : q58 ≠ q477 := fun e => hn503 (e ▸ hm439)
  have hn1652 : q58 ≠ q478 := fun e => hn506 (e ▸ hm439)
  have hn1653 : q58 ≠ q479 := fun e => hn509 (e ▸ hm439)
  have hn1654 : q58 ≠ q480 := fun e => hn512 (e ▸ hm439)
  have hn1655 : q58 ≠ q481 := fun e => hn515 (e ▸ hm439)
  have hn1656 : q58 ≠ q482 := fun e => hn518 (e ▸ hm439)
  have hn1657 : q58 ≠ q483 := fun e => hn521 (e ▸ hm439)
  have hn1658 : q58 ≠ q484 := fun e => hn524 (e ▸ hm439)
  have hn1659 : q58 ≠ q485 := fun e => hn527 (e ▸ hm439)
  have hn1660 : q58 ≠ q486 := fun e => hn530 (e ▸ hm439)
  have hn1661 : q58 ≠ q487 := fun e => hn533 (e ▸ hm439)
  have hn1662 : q58 ≠ q488 := fun e => hn536 (e ▸ hm439)
  have hn1663 : q58 ≠ q489 := fun e => hn539 (e ▸ hm439)
  have hn1664 : q58 ≠ q490 := fun e => hn542 (e ▸ hm439)
  have hn1665 : q58 ≠ q491 := fun e => hn545 (e ▸ hm439)
  have hn1666 : q58 ≠ q492 := fun e => hn548 (e ▸ hm439)
  have hn1667 : q58 ≠ q493 := fun e => hn551 (e ▸ hm439)
  have hn1668 : q58 ≠ q494 := fun e => hn554 (e ▸ hm439)
  have hn1669 : q58 ≠ q495 := fun e => hn557 (e ▸ hm439)
  have hn1670 : q58 ≠ q496 := fun e => hn560 (e ▸ hm439)
  have hf1671 := (fr565 q58 hm439 hn440).trans hf438
  have hm1648 := sb566 _ hm439
  have hn1673 : q59 ≠ q475 := fun e => hn497 (e ▸ hm442)
  have hn1674 : q59 ≠ q476 := fun e => hn500 (e ▸ hm442)
  have hn1675 : q59 ≠ q477 := fun e => hn503 (e ▸ hm442)
  have hn1676 : q59 ≠ q478 := fun e => hn506 (e ▸ hm442)
  have hn1677 : q59 ≠ q479 := fun e => hn509 (e ▸ hm442)
  have hn1678 : q59 ≠ q480 := fun e => hn512 (e ▸ hm442)
  have hn1679 : q59 ≠ q481 := fun e => hn515 (e ▸ hm442)
  have hn1680 : q59 ≠ q482 := fun e => hn518 (e ▸ hm442)
  have hn1681 : q59 ≠ q483 := fun e => hn521 (e ▸ hm442)
  have hn1682 : q59 ≠ q484 := fun e => hn524 (e ▸ hm442)
  have hn1683 : q59 ≠ q485 := fun e => hn527 (e ▸ hm442)
  have hn1684 : q59 ≠ q486 := fun e => hn530 (e ▸ hm442)
  have hn1685 : q59 ≠ q487 := fun e => hn533 (e ▸ hm442)
  have hn1686 : q59 ≠ q488 := fun e => hn536 (e ▸ hm442)
  have hn1687 : q59 ≠ q489 := fun e => hn539 (e ▸ hm442)
  have hn1688 : q59 ≠ q490 := fun e => hn542 (e ▸ hm442)
  have hn1689 : q59 ≠ q491 := fun e => hn545 (e ▸ hm442)
  have hn1690 : q59 ≠ q492 := fun e => hn548 (e ▸ hm442)
  have hn1691 : q59 ≠ q493 := fun e => hn551 (e ▸ hm442)
  have hn1692 : q59 ≠ q494 := fun e => hn554 (e ▸ hm442)
  have hn1693 : q59 ≠ q495 := fun e => hn557 (e ▸ hm442)
  have hn1694 : q59 ≠ q496 := fun e => hn560 (e ▸ hm442)
  have hf1695 := (fr565 q59 hm442 hn443).trans hf441
  have hm1672 := sb566 _ hm442
  have hn1697 : q60 ≠ q475 := fun e => hn497 (e ▸ hm445)
  have hn1698 : q60 ≠ q476 := fun e => hn500 (e ▸ hm445)
  have hn1699 : q60 ≠ q477 := fun e => hn503 (e ▸ hm445)
  have hn1700 : q60 ≠ q478 := fun e => hn506 (e ▸ hm445)
  have hn1701 : q60 ≠ q479 := fun e => hn509 (e ▸ hm445)
  have hn1702 : q60 ≠ q480 := fun e => hn512 (e ▸ hm445)
  have hn1703 : q60 ≠ q481 := fun e => hn515 (e ▸ hm445)
  have hn1704 : q60 ≠ q482 := fun e => hn518 (e ▸ hm445)
  have hn1705 : q60 ≠ q483 := fun e => hn521 (e ▸ hm445)
  have hn1706 : q60 ≠ q484 := fun e => hn524 (e ▸ hm445)
  have hn1707 : q60 ≠ q485 := fun e => hn527 (e ▸ hm445)
  have hn1708 : q60 ≠ q486 := fun e => hn530 (e ▸ hm445)
  have hn1709 : q60 ≠ q487 := fun e => hn533 (e ▸ hm445)
  have hn1710 : q60 ≠ q488 := fun e => hn536 (e ▸ hm445)
  have hn1711 : q60 ≠ q489 := fun e => hn539 (e ▸ hm445)
  have hn1712 : q60 ≠ q490 := fun e => hn542 (e ▸ hm445)
  have hn1713 : q60 ≠ q491 := fun e => hn545 (e ▸ hm445)
  have hn1714 : q60 ≠ q492 := fun e => hn548 (e ▸ hm445)
  have hn1715 : q60 ≠ q493 := fun e => hn551 (e ▸ hm445)
  have hn1716 : q60 ≠ q494 := fun e => hn554 (e ▸ hm445)
  have hn1717 : q60 ≠ q495 := fun e => hn557 (e ▸ hm445)
  have hn1718 : q60 ≠ q496 := fun e => hn560 (e ▸ hm445)
  have hf1719 := (fr565 q60 hm445 hn446).trans hf444
  have hm1696 := sb566 _ hm445
  have hn1721 : q61 ≠ q475 := fun e => hn497 (e ▸ hm448)
  have hn1722 : q61 ≠ q476 := fun e => hn500 (e ▸ hm448)
  have hn1723 : q61 ≠ q477 := fun e => hn503 (e ▸ hm448)
  have hn1724 : q61 ≠ q478 := fun e => hn506 (e ▸ hm448)
  have hn1725 : q61 ≠ q479 := fun e => hn509 (e ▸ hm448)
  have hn1726 : q61 ≠ q480 := fun e => hn512 (e ▸ hm448)
  have hn1727 : q61 ≠ q481 := fun e => hn515 (e ▸ hm448)
  have hn1728 : q61 ≠ q482 := fun e => hn518 (e ▸ hm448)
  have hn1729 : q61 ≠ q483 := fun e => hn521 (e ▸ hm448)
  have hn1730 : q61 ≠ q484 := fun e => hn524 (e ▸ hm448)
  have hn1731 : q61 ≠ q485 := fun e => hn527 (e ▸ hm448)
  have hn1732 : q61 ≠ q486 := fun e => hn530 (e ▸ hm448)
  have hn1733 : q61 ≠ q487 := fun e => hn533 (e ▸ hm448)
  have hn1734 : q61 ≠ q488 := fun e => hn536 (e ▸ hm448)
  have hn1735 : q61 ≠ q489 := fun e => hn539 (e ▸ hm448)
  have hn1736 : q61 ≠ q490 := fun e => hn542 (e ▸ hm448)
  have hn1737 : q61 ≠ q491 := fun e => hn545 (e ▸ hm448)
  have hn1738 : q61 ≠ q492 := fun e => hn548 (e ▸ hm448)
  have hn1739 : q61 ≠ q493 := fun e => hn551 (e ▸ hm448)
  have hn1740 : q61 ≠ q494 := fun e => hn554 (e ▸ hm448)
  have hn1741 : q61 ≠ q495 := fun e => hn557 (e ▸ hm448)
  have hn1742 : q61 ≠ q496 := fun e => hn560 (e ▸ hm448)
  have hf1743 := (fr565 q61 hm448 hn449).trans hf447
  have hm1720 := sb566 _ hm448
  have hn1745 : q62 ≠ q475 := fun e => hn497 (e ▸ hm451)
  have hn1746 : q62 ≠ q476 := fun e => hn500 (e ▸ hm451)
  have hn1747 : q62 ≠ q477 := fun e => hn503 (e ▸ hm451)
  have hn1748 : q62 ≠ q478 := fun e => hn506 (e ▸ hm451)
  have hn1749 : q62 ≠ q479 := fun e => hn509 (e ▸ hm451)
  have hn1750 : q62 ≠ q480 := fun e => hn512 (e ▸ hm451)
  have hn1751 : q62 ≠ q481 := fun e => hn515 (e ▸ hm451)
  have hn1752 : q62 ≠ q482 := fun e => hn518 (e ▸ hm451)
  have hn1753 : q62 ≠ q483 := fun e => hn521 (e ▸ hm451)
  have hn1754 : q62 ≠ q484 := fun e => hn524 (e ▸ hm451)
  have hn1755 : q62 ≠ q485 := fun e => hn527 (e ▸ hm451)
  have hn1756 : q62 ≠ q486 := fun e => hn530 (e ▸ hm451)
  have hn1757 : q62 ≠ q487 := fun e => hn533 (e ▸ hm451)
  have hn1758 : q62 ≠ q488 := fun e => hn536 (e ▸ hm451)
  have hn1759 : q62 ≠ q489 := fun e => hn539 (e ▸ hm451)
  have hn1760 : q62 ≠ q490 := fun e => hn542 (e ▸ hm451)
  have hn1761 : q62 ≠ q491 := fun e => hn545 (e ▸ hm451)
  have hn1762 : q62 ≠ q492 := fun e => hn548 (e ▸ hm451)
  have hn1763 : q62 ≠ q493 := fun e => hn551 (e ▸ hm451)
  have hn1764 : q62 ≠ q494 := fun e => hn554 (e ▸ hm451)
  have hn1765 : q62 ≠ q495 := fun e => hn557 (e ▸ hm451)
  have hn1766 : q62 ≠ q496 := fun e => hn560 (e ▸ hm451)
  have hf1767 := (fr565 q62 hm451 hn452).trans hf450
  have hm1744 := sb566 _ hm451
  have hn1769 : q63 ≠ q475 := fun e => hn497 (e ▸ hm454)
  have hn1770 : q63 ≠ q476 := fun e => hn500 (e ▸ hm454)
  have hn1771 : q63 ≠ q477 := fun e => hn503 (e ▸ hm454)
  have hn1772 : q63 ≠ q478 := fun e => hn506 (e ▸ hm454)
  have hn1773 : q63 ≠ q479 := fun e => hn509 (e ▸ hm454)
  have hn1774 : q63 ≠ q480 := fun e => hn512 (e ▸ hm454)
  have hn1775 : q63 ≠ q481 := fun e => hn515 (e ▸ hm454)
  have hn1776 : q63 ≠ q482 := fun e => hn518 (e ▸ hm454)
  have hn1777 : q63 ≠ q483 := fun e => hn521 (e ▸ hm454)
  have hn1778 : q63 ≠ q484 := fun e => hn524 (e ▸ hm454)
  have hn1779 : q63 ≠ q485 := fun e => hn527 (e ▸ hm454)
  have hn1780 : q63 ≠ q486 := fun e => hn530 (e ▸ hm454)
  have hn1781 : q63 ≠ q487 := fun e => hn533 (e ▸ hm454)
  have hn1782 : q63 ≠ q488 := fun e => hn536 (e ▸ hm454)
  have hn1783 : q63 ≠ q489 := fun e => hn539 (e ▸ hm454)
  have hn1784 : q63 ≠ q490 := fun e => hn542 (e ▸ hm454)
  have hn1785 : q63 ≠ q491 := fun e => hn545 (e ▸ hm454)
  have hn1786 : q63 ≠ q492 := fun e => hn548 (e ▸ hm454)
  have hn1787 : q63 ≠ q493 := fun e => hn551 (e ▸ hm454)
  have hn1788 : q63 ≠ q494 := fun e => hn554 (e ▸ hm454)
  have hn1789 : q63 ≠ q495 := fun e => hn557 (e ▸ hm454)
  have hn1790 : q63 ≠ q496 := fun e => hn560 (e ▸ hm454)
  have hf1791 := (fr565 q63 hm454 hn455).trans hf453
  have hm1768 := sb566 _ hm454
  have hn1793 : q64 ≠ q475 := fun e => hn497 (e ▸ hm457)
  have hn1794 : q64 ≠ q476 := fun e => hn500 (e ▸ hm457)
  have hn1795 : q64 ≠ q477 := fun e => hn503 (e ▸ hm457)
  have hn1796 : q64 ≠ q478 := fun e => hn506 (e ▸ hm457)
  have hn1797 : q64 ≠ q479 := fun e => hn509 (e ▸ hm457)
  have hn1798 : q64 ≠ q480 := fun e => hn512 (e ▸ hm457)
  have hn1799 : q64 ≠ q481 := fun e => hn515 (e ▸ hm457)
  have hn1800 : q64 ≠ q482 := fun e => hn518 (e ▸ hm457)
  have hn1801 : q64 ≠ q483 := fun e => hn521 (e ▸ hm457)
  have hn1802 : q64 ≠ q484 := fun e => hn524 (e ▸ hm457)
  have hn1803 : q64 ≠ q485 := fun e => hn527 (e ▸ hm457)
  have hn1804 : q64 ≠ q486 := fun e => hn530 (e ▸ hm457)
  have hn1805 : q64 ≠ q487 := fun e => hn533 (e ▸ hm457)
  have hn1806 : q64 ≠ q488 := fun e => hn536 (e ▸ hm457)
  have hn1807 : q64 ≠ q489 := fun e => hn539 (e ▸ hm457)
  have hn1808 : q64 ≠ q490 := fun e => hn542 (e ▸ hm457)
  have hn1809 : q64 ≠ q491 := fun e => hn545 (e ▸ hm457)
  have hn1810 : q64 ≠ q492 := fun e => hn548 (e ▸ hm457)
  have hn1811 : q64 ≠ q493 := fun e => hn551 (e ▸ hm457)
  have hn1812 : q64 ≠ q494 := fun e => hn554 (e ▸ hm457)
  have hn1813 : q64 ≠ q495 := fun e => hn557 (e ▸ hm457)
  have hn1814 : q64 ≠ q496 := fun e => hn560 (e ▸ hm457)
  have hf1815 := (fr565 q64 hm457 hn458).trans hf456
  have hm1792 := sb566 _ hm457
  have hn1817 : q65 ≠ q475 := fun e => hn497 (e ▸ hm460)
  have hn1818 : q65 ≠ q476 := fun e => hn500 (e ▸ hm460)
  have hn1819 : q65 ≠ q477 := fun e => hn503 (e ▸ hm460)
  have hn1820 : q65 ≠ q478 := fun e => hn506 (e ▸ hm460)
  have hn1821 : q65 ≠ q479 := fun e => hn509 (e ▸ hm460)
  have hn1822 : q65 ≠ q480 := fun e => hn512 (e ▸ hm460)
  have hn1823 : q65 ≠ q481 := fun e => hn515 (e ▸ hm460)
  have hn1824 : q65 ≠ q482 := fun e => hn518 (e ▸ hm460)
  have hn1825 : q65 ≠ q483 := fun e => hn521 (e ▸ hm460)
  have hn1826 : q65 ≠ q484 := fun e => hn524 (e ▸ hm460)
  have hn1827 : q65 ≠ q485 := fun e => hn527 (e ▸ hm460)
  have hn1828 : q65 ≠ q486 := fun e => hn530 (e ▸ hm460)
  have hn1829 : q65 ≠ q487 := fun e => hn533 (e ▸ hm460)
  have hn1830 : q65 ≠ q488 := fun e => hn536 (e ▸ hm460)
  have hn1831 : q65 ≠ q489 := fun e => hn539 (e ▸ hm460)
  have hn1832 : q65 ≠ q490 := fun e => hn542 (e ▸ hm460)
  have hn1833 : q65 ≠ q491 := fun e => hn545 (e ▸ hm460)
  have hn1834 : q65 ≠ q492 := fun e => hn548 (e ▸ hm460)
  have hn1835 : q65 ≠ q493 := fun e => hn551 (e ▸ hm460)
  have hn1836 : q65 ≠ q494 := fun e => hn554 (e ▸ hm460)
  have hn1837 : q65 ≠ q495 := fun e => hn557 (e ▸ hm460)
  have hn1838 : q65 ≠ q496 := fun e => hn560 (e ▸ hm460)
  have hf1839 := (fr565 q65 hm460 hn461).trans hf459
  have hm1816 := sb566 _ hm460
  have hn1841 : q66 ≠ q475 := fun e => hn497 (e ▸ hm463)
  have hn1842 : q66 ≠ q476 := fun e => hn500 (e ▸ hm463)
  have hn1843 : q66 ≠ q477 := fun e => hn503 (e ▸ hm463)
  have hn1844 : q66 ≠ q478 := fun e => hn506 (e ▸ hm463)
  have hn1845 : q66 ≠ q479 := fun e => hn509 (e ▸ hm463)
  have hn1846 : q66 ≠ q480 := fun e => hn512 (e ▸ hm463)
  have hn1847 : q66 ≠ q481 := fun e => hn515 (e ▸ hm463)
  have hn1848 : q66 ≠ q482 := fun e => hn518 (e ▸ hm463)
  have hn1849 : q66 ≠ q483 := fun e => hn521 (e ▸ hm463)
  have hn1850 : q66 ≠ q484 := fun e => hn524 (e ▸ hm463)
  have hn1851 : q66 ≠ q485 := fun e => hn527 (e ▸ hm463)
  have hn1852 : q66 ≠ q486 := fun e => hn530 (e ▸ hm463)
  have hn1853 : q66 ≠ q487 := fun e => hn533 (e ▸ hm463)
  have hn1854 : q66 ≠ q488 := fun e => hn536 (e ▸ hm463)
  have hn1855 : q66 ≠ q489 := fun e => hn539 (e ▸ hm463)
  have hn1856 : q66 ≠ q490 := fun e => hn542 (e ▸ hm463)
  have hn1857 : q66 ≠ q491 := fun e => hn545 (e ▸ hm463)
  have hn1858 : q66 ≠ q492 := fun e => hn548 (e ▸ hm463)
  have hn1859 : q66 ≠ q493 := fun e => hn551 (e ▸ hm463)
  have hn1860 : q66 ≠ q494 := fun e => hn554 (e ▸ hm463)
  have hn1861 : q66 ≠ q495 := fun e => hn557 (e ▸ hm463)
  have hn1862 : q66 ≠ q496 := fun e => hn560 (e ▸ hm463)
  have hf1863 := (fr565 q66 hm463 hn464).trans hf462
  have hm1840 := sb566 _ hm463
  have hn1865 : q67 ≠ q475 := fun e => hn497 (e ▸ hm466)
  have hn1866 : q67 ≠ q476 := fun e => hn500 (e ▸ hm466)
  have hn1867 : q67 ≠ q477 := fun e => hn503 (e ▸ hm466)
  have hn1868 : q67 ≠ q478 := fun e => hn506 (e ▸ hm466)
  have hn1869 : q67 ≠ q479 := fun e => hn509 (e ▸ hm466)
  have hn1870 : q67 ≠ q480 := fun e => hn512 (e ▸ hm466)
  have hn1871 : q67 ≠ q481 := fun e => hn515 (e ▸ hm466)
  have hn1872 : q67 ≠ q482 := fun e => hn518 (e ▸ hm466)
  have hn1873 : q67 ≠ q483 := fun e => hn521 (e ▸ hm466)
  have hn1874 : q67 ≠ q484 := fun e => hn524 (e ▸ hm466)
  have hn1875 : q67 ≠ q485 := fun e => hn527 (e ▸ hm466)
  have hn1876 : q67 ≠ q486 := fun e => hn530 (e ▸ hm466)
  have hn1877 : q67 ≠ q487 := fun e => hn533 (e ▸ hm466)
  have hn1878 : q67 ≠ q488 := fun e => hn536 (e ▸ hm466)
  have hn1879 : q67 ≠ q489 := fun e => hn539 (e ▸ hm466)
  have hn1880 : q67 ≠ q490 := fun e => hn542 (e ▸ hm466)
  have hn1881 : q67 ≠ q491 := fun e => hn545 (e ▸ hm466)
  have hn1882 : q67 ≠ q492 := fun e => hn548 (e ▸ hm466)
  have hn1883 : q67 ≠ q493 := fun e => hn551 (e ▸ hm466)
  have hn1884 : q67 ≠ q494 := fun e => hn554 (e ▸ hm466)
  have hn1885 : q67 ≠ q495 := fun e => hn557 (e ▸ hm466)
  have hn1886 : q67 ≠ q496 := fun e => hn560 (e ▸ hm466)
  have hf1887 := (fr565 q67 hm466 hn467).trans hf465
  have hm1864 := sb566 _ hm466
  have hn1889 : q68 ≠ q475 := fun e => hn497 (e ▸ hm469)
  have hn1890 : q68 ≠ q476 := fun e => hn500 (e ▸ hm469)
  have hn1891 : q68 ≠ q477 := fun e => hn503 (e ▸ hm469)
  have hn1892 : q68 ≠ q478 := fun e => hn506 (e ▸ hm469)
  have hn1893 : q68 ≠ q479 := fun e => hn509 (e ▸ hm469)
  have hn1894 : q68 ≠ q480 := fun e => hn512 (e ▸ hm469)
  have hn1895 : q68 ≠ q481 := fun e => hn515 (e ▸ hm469)
  have hn1896 : q68 ≠ q482 := fun e => hn518 (e ▸ hm469)
  have hn1897 : q68 ≠ q483 := fun e => hn521 (e ▸ hm469)
  have hn1898 : q68 ≠ q484 := fun e => hn524 (e ▸ hm469)
  have hn1899 : q68 ≠ q485 := fun e => hn527 (e ▸ hm469)
  have hn1900 : q68 ≠ q486 := fun e => hn530 (e ▸ hm469)
  have hn1901 : q68 ≠ q487 := fun e => hn533 (e ▸ hm469)
  have hn1902 : q68 ≠ q488 := fun e => hn536 (e ▸ hm469)
  have hn1903 : q68 ≠ q489 := fun e => hn539 (e ▸ hm469)
  have hn1904 : q68 ≠ q490 := fun e => hn542 (e ▸ hm469)
  have hn1905 : q68 ≠ q491 := fun e => hn545 (e ▸ hm469)
  have hn1906 : q68 ≠ q492 := fun e => hn548 (e ▸ hm469)
  have hn1907 : q68 ≠ q493 := fun e => hn551 (e ▸ hm469)
  have hn1908 : q68 ≠ q494 := fun e => hn554 (e ▸ hm469)
  have hn1909 : q68 ≠ q495 := fun e => hn557 (e ▸ hm469)
  have hn1910 : q68 ≠ q496 := fun e => hn560 (e ▸ hm469)
  have hf1911 := (fr565 q68 hm469 hn470).trans hf468
  have hm1888 := sb566 _ hm469
  have hn1913 : q294 ≠ q475 := fun e => hn497 (e ▸ hm299)
  have hn1914 : q294 ≠ q476 := fun e => hn500 (e ▸ hm299)
  have hn1915 : q294 ≠ q477 := fun e => hn503 (e ▸ hm299)
  have hn1916 : q294 ≠ q478 := fun e => hn506 (e ▸ hm299)
  have hn1917 : q294 ≠ q479 := fun e => hn509 (e ▸ hm299)
  have hn1918 : q294 ≠ q480 := fun e => hn512 (e ▸ hm299)
  have hn1919 : q294 ≠ q481 := fun e => hn515 (e ▸ hm299)
  have hn1920 : q294 ≠ q482 := fun e => hn518 (e ▸ hm299)
  have hn1921 : q294 ≠ q483 := fun e => hn521 (e ▸ hm299)
  have hn1922 : q294 ≠ q484 := fun e => hn524 (e ▸ hm299)
  have hn1923 : q294 ≠ q485 := fun e => hn527 (e ▸ hm299)
  have hn1924 : q294 ≠ q486 := fun e => hn530 (e ▸ hm299)
  have hn1925 : q294 ≠ q487 := fun e => hn533 (e ▸ hm299)
  have hn1926 : q294 ≠ q488 := fun e => hn536 (e ▸ hm299)
  have hn1927 : q294 ≠ q489 := fun e => hn539 (e ▸ hm299)
  have hn1928 : q294 ≠ q490 := fun e => hn542 (e ▸ hm299)
  have hn1929 : q294 ≠ q491 := fun e => hn545 (e ▸ hm299)
  have hn1930 : q294 ≠ q492 := fun e => hn548 (e ▸ hm299)
  have hn1931 : q294 ≠ q493 := fun e => hn551 (e ▸ hm299)
  have hn1932 : q294 ≠ q494 := fun e => hn554 (e ▸ hm299)
  have hn1933 : q294 ≠ q495 := fun e => hn557 (e ▸ hm299)
  have hn1934 : q294 ≠ q496 := fun e => hn560 (e ▸ hm299)
  have hm1912 := sb566 _ hm299
  refine lv_astore_n (lv' := [(2, .ref q294), (1, .ref q1), (0, .ref b)]) hx hb dL_law_15 rfl hl (by decide) rfl (fun ls hl => ?_)
  refine lv_iconst (v := 1) hx hb dL_law_16 (by decide) ?_
  refine pl_newa (atype := .long) (ty := .long) (N' := 1) (a0 := (1, .inr (.inl (fun _ => 0)))) hx hb (hts _ (mT wg_403)) rfl hG.1 hP hD hS hA 1 rfl (fun _ h => h) (fun _ => rfl) (by decide) (by decide) (Nat.le_of_ble_eq_true rfl) (Nat.le_of_ble_eq_true rfl) (Nat.le_of_ble_eq_true rfl) dL_law_17 (fun q1935 H L1936 f1937 hq1938 hs1939 hm1940 hf1941 ho1942 hP hD hS => ?_)
  have hN1943 : [q1935, q475, q476, q477, q478, q479, q480, q481, q482, q483, q484, q485, q486, q487, q488, q489, q490, q491, q492, q493, q494, q495, q496, q294, q15, q16, q17, q18, q19, q20, q21, q22, q23, q24, q25, q26, q27, q28, q29, q30, q31, q32, q33, q34, q35, q36, q37, q38, q39, q40, q41, q42, q43, q44, q45, q46, q47, q48, q49, q50, q51, q52, q53, q54, q55, q56, q57, q58, q59, q60, q61, q62, q63, q64, q65, q66, q67, q68, q1].Nodup := List.nodup_cons.mpr ⟨fun h => hq1938 (hNs568 _ h), hN567⟩
  have hNs1944 : ∀ b, b ∈ [q1935, q475, q476, q477, q478, q479, q480, q481, q482, q483, q484, q485, q486, q487, q488, q489, q490, q491, q492, q493, q494, q495, q496, q294, q15, q16, q17, q18, q19, q20, q21, q22, q23, q24, q25, q26, q27, q28, q29, q30, q31, q32, q33, q34, q35, q36, q37, q38, q39, q40, q41, q42, q43, q44, q45, q46, q47, q48, q49, q50, q51, q52, q53, q54, q55, q56, q57, q58, q59, q60, q61, q62, q63, q64, q65, q66, q67, q68, q1] → b ∈ L1936 := List.forall_mem_cons.mpr ⟨hm1940, fun b hb => hs1939 b (hNs568 b hb)⟩
  have hRq1945 : ∀ j, j < 20 → ∀ k, k < 10 → aa70 j k ≠ q1935 := fun j hj k hk e => hq1938 (e ▸ (hR591.1 j hj k hk).1)
  have hR1946 : RINGP g L2 L1936 f1937 20 aa70 := RINGP.tr hR591 hRq1945 hs1939 (fun b hb _ => ho1942 b hb)
  have hf1947 := (ho1942 q1 hm592).trans hf615
  have hn1949 : q1 ≠ q1935 := fun e => hq1938 (e ▸ hm592)
  have hm1948 := hs1939 _ hm592
  have hf1950 := (ho1942 q15 hm616).trans hf639
  have hn1952 : q15 ≠ q1935 := fun e => hq1938 (e ▸ hm616)
  have hm1951 := hs1939 _ hm616
  have hf1953 := (ho1942 q16 hm640).trans hf663
  have hn1955 : q16 ≠ q1935 := fun e => hq1938 (e ▸ hm640)
  have hm1954 := hs1939 _ hm640
  have hf1956 := (ho1942 q17 hm664).trans hf687
  have hn1958 : q17 ≠ q1935 := fun e => hq1938 (e ▸ hm664)
  have hm1957 := hs1939 _ hm664
  have hf1959 := (ho1942 q18 hm688).trans hf711
  have hn1961 : q18 ≠ q1935 := fun e => hq1938 (e ▸ hm688)
  have hm1960 := hs1939 _ hm688
  have hf1962 := (ho1942 q19 hm712).trans hf735
  have hn1964 : q19 ≠ q1935 := fun e => hq1938 (e ▸ hm712)
  have hm1963 := hs1939 _ hm712
  have hf1965 := (ho1942 q20 hm736).trans hf759
  have hn1967 : q20 ≠ q1935 := fun e => hq1938 (e ▸ hm736)
  have hm1966 := hs1939 _ hm736
  have hf1968 := (ho1942 q21 hm760).trans hf783
  have hn1970 : q21 ≠ q1935 := fun e => hq1938 (e ▸ hm760)
  have hm1969 := hs1939 _ hm760
  have hf1971 := (ho1942 q22 hm784).trans hf807
  have hn1973 : q22 ≠ q1935 := fun e => hq1938 (e ▸ hm784)
  have hm1972 := hs1939 _ hm784
  have hf1974 := (ho1942 q23 hm808).trans hf831
  have hn1976 : q23 ≠ q1935 := fun e => hq1938 (e ▸ hm808)
  have hm1975 := hs1939 _ hm808
  have hf1977 := (ho1942 q24 hm832).trans hf855
  have hn1979 : q24 ≠ q1935 := fun e => hq1938 (e ▸ hm832)
  have hm1978 := hs1939 _ hm832
  have hf1980 := (ho1942 q25 hm856).trans hf879
  have hn1982 : q25 ≠ q1935 := fun e => hq1938 (e ▸ hm856)
  have hm1981 := hs1939 _ hm856
  have hf1983 := (ho1942 q26 hm880).trans hf903
  have hn1985 : q26 ≠ q1935 := fun e => hq1938 (e ▸ hm880)
  have hm1984 := hs1939 _ hm880
  have hf1986 := (ho1942 q27 hm904).trans hf927
  have hn1988 : q27 ≠ q1935 := fun e => hq1938 (e ▸ hm904)
  have hm1987 := hs1939 _ hm904
  have hf1989 := (ho1942 q28 hm928).trans hf951
  have hn1991 : q28 ≠ q1935 := fun e => hq1938 (e ▸ hm928)
  have hm1990 := hs1939 _ hm928
  have hf1992 := (ho1942 q29 hm952).trans hf975
  have hn1994 : q29 ≠ q1935 := fun e => hq1938 (e ▸ hm952)
  have hm1993 := hs1939 _ hm952
  have hf1995 := (ho1942 q30 hm976).trans hf999
  have hn1997 : q30 ≠ q1935 := fun e => hq1938 (e ▸ hm976)
  have hm1996 := hs1939 _ hm976
  have hf1998 := (ho1942 q31 hm1000).trans hf1023
  have hn2000 : q31 ≠ q1935 := fun e => hq1938 (e ▸ hm1000)
  have hm1999 := hs1939 _ hm1000
  have hf2001 := (ho1942 q32 hm1024).trans hf1047
  have hn2003 : q32 ≠ q1935 := fun e => hq1938 (e ▸ hm1024)
  have hm2002 := hs1939 _ hm1024
  have hf2004 := (ho1942 q33 hm1048).trans hf1071
  have hn2006 : q33 ≠ q1935 := fun e => hq1938 (e ▸ hm1048)
  have hm2005 := hs1939 _ hm1048
  have hf2007 := (ho1942 q34 hm1072).trans hf1095
  have hn2009 : q34 ≠ q1935 := fun e => hq1938 (e ▸ hm1072)
  have hm2008 := hs1939 _ hm1072
  have hf2010 := (ho1942 q35 hm1096).trans hf1119
  have hn2012 : q35 ≠ q1935 := fun e => hq1938 (e ▸ hm1096)
  have hm2011 := hs1939 _ hm1096
  have hf2013 := (ho1942 q36 hm1120).trans hf1143
  have hn2015 : q36 ≠ q1935 := fun e => hq1938 (e ▸ hm1120)
  have hm2014 := hs1939 _ hm1120
  have hf2016 := (ho1942 q37 hm1144).trans hf1167
  have hn2018 : q37 ≠ q1935 := fun e => hq1938 (e ▸ hm1144)
  have hm2017 := hs1939 _ hm1144
  have hf2019 := (ho1942 q38 hm1168).trans hf1191
  have hn2021 : q38 ≠ q1935 := fun e => hq1938 (e ▸ hm1168)
  have hm2020 := hs1939 _ hm1168
  have hf2022 := (ho1942 q39 hm1192).trans hf1215
  have hn2024 : q39 ≠ q1935 := fun e => hq1938 (e ▸ hm1192)
  have hm2023 := hs1939 _ hm1192
  have hf2025 := (ho1942 q40 hm1216).trans hf1239
  have hn2027 : q40 ≠ q1935 := fun e => hq1938 (e ▸ hm1216)
  have hm2026 := hs1939 _ hm1216
  have hf2028 := (ho1942 q41 hm1240).trans hf1263
  have hn2030 : q41 ≠ q1935 := fun e => hq1938 (e ▸ hm1240)
  have hm2029 := hs1939 _ hm1240
  have hf2031 := (ho1942 q42 hm1264).trans hf1287
  have hn2033 : q42 ≠ q1935 := fun e => hq1938 (e ▸ hm1264)
  have hm2032 := hs1939 _ hm1264
  have hf2034 := (ho1942 q43 hm1288).trans hf1311
  have hn2036 : q43 ≠ q1935 := fun e => hq1938 (e ▸ hm1288)
  have hm2035 := hs1939 _ hm1288
  have hf2037 := (ho1942 q44 hm1312).trans hf1335
  have hn2039 : q44 ≠ q1935 := fun e => hq1938 (e ▸ hm1312)
  have hm2038 := hs1939 _ hm1312
  have hf2040 := (ho1942 q45 hm1336).trans hf1359
  have hn2042 : q45 ≠ q1935 := fun e => hq1938 (e ▸ hm1336)
  have hm2041 := hs1939 _ hm1336
  have hf2043 := (ho1942 q46 hm1360).trans hf1383
  have hn2045 : q46 ≠ q1935 := fun e => hq1938 (e ▸ hm1360)
  have hm2044 := hs1939 _ hm1360
  have hf2046 := (ho1942 q47 hm1384).trans hf1407
  have hn2048 : q47 ≠ q1935 := fun e => hq1938 (e ▸ hm1384)
  have hm2047 := hs1939 _ hm1384
  have hf2049 := (ho1942 q48 hm1408).trans hf1431
  have hn2051 : q48 ≠ q1935 := fun e => hq1938 (e ▸ hm1408)
  have hm2050 := hs1939 _ hm1408
  have hf2052 := (ho1942 q49 hm1432).trans hf1455
  have hn2054 : q49 ≠ q1935 := fun e => hq1938 (e ▸ hm1432)
  have hm2053 := hs1939 _ hm1432
  have hf2055 := (ho1942 q50 hm1456).trans hf1479
  have hn2057 : q50 ≠ q1935 := fun e => hq1938 (e ▸ hm1456)
  have hm2056 := hs1939 _ hm1456
  have hf2058 := (ho1942 q51 hm1480).trans hf1503
  have hn2060 : q51 ≠ q1935 := fun e => hq1938 (e ▸ hm1480)
  have hm2059 := hs1939 _ hm1480
  have hf2061 := (ho1942 q52 hm1504).trans hf1527
  have hn2063 : q52 ≠ q1935 := fun e => hq1938 (e ▸ hm1504)
  have hm2062 := hs1939 _ hm1504
  have hf2064 := (ho1942 q53 hm1528).trans hf1551
  have hn2066 : q53 ≠ q1935 := fun e => hq1938 (e ▸ hm1528)
  have hm2065 := hs1939 _ hm1528
  have hf2067 := (ho1942 q54 hm1552).trans hf1575
  have hn2069 : q54 ≠ q1935 := fun e => hq1938 (e ▸ hm1552)
  have hm2068 := hs1939 _ hm1552
  have hf2070 := (ho1942 q55 hm1576).trans hf1599
  have hn2072 : q55 ≠ q1935 := fun e => hq1938 (e ▸ hm1576)
  have hm2071 := hs1939 _ hm1576
  have hf2073 := (ho1942 q56 hm1600).trans hf1623
  have hn2075 : q56 ≠ q1935 := fun e => hq1938 (e ▸ hm1600)
  have hm2074 := hs1939 _ hm1600
  have hf2076 := (ho1942 q57 hm1624).trans hf1647
  have hn2078 : q57 ≠ q1935 := fun e => hq1938 (e ▸ hm1624)
  have hm2077 := hs1939 _ hm1624
  have hf2079 := (ho1942 q58 hm1648).trans hf1671
  have hn2081 : q58 ≠ q1935 := fun e => hq1938 (e ▸ hm1648)
  have hm2080 := hs1939 _ hm1648
  have hf2082 := (ho1942 q59 hm1672).trans hf1695
  have hn2084 : q59 ≠ q1935 := fun e => hq1938 (e ▸ hm1672)
  have hm2083 := hs1939 _ hm1672
  have hf2085 := (ho1942 q60 hm1696).trans hf1719
  have hn2087 : q60 ≠ q1935 := fun e => hq1938 (e ▸ hm1696)
  have hm2086 := hs1939 _ hm1696
  have hf2088 := (ho1942 q61 hm1720).trans hf1743
  have hn2090 : q61 ≠ q1935 := fun e => hq1938 (e ▸ hm1720)
  have hm2089 := hs1939 _ hm1720
  have hf2091 := (ho1942 q62 hm1744).trans hf1767
  have hn2093 : q62 ≠ q1935 := fun e => hq1938 (e ▸ hm1744)
  have hm2092 := hs1939 _ hm1744
  have hf2094 := (ho1942 q63 hm1768).trans hf1791
  have hn2096 : q63 ≠ q1935 := fun e => hq1938 (e ▸ hm1768)
  have hm2095 := hs1939 _ hm1768
  have hf2097 := (ho1942 q64 hm1792).trans hf1815
  have hn2099 : q64 ≠ q1935 := fun e => hq1938 (e ▸ hm1792)
  have hm2098 := hs1939 _ hm1792
  have hf2100 := (ho1942 q65 hm1816).trans hf1839
  have hn2102 : q65 ≠ q1935 := fun e => hq1938 (e ▸ hm1816)
  have hm2101 := hs1939 _ hm1816
  have hf2103 := (ho1942 q66 hm1840).trans hf1863
  have hn2105 : q66 ≠ q1935 := fun e => hq1938 (e ▸ hm1840)
  have hm2104 := hs1939 _ hm1840
  have hf2106 := (ho1942 q67 hm1864).trans hf1887
  have hn2108 : q67 ≠ q1935 := fun e => hq1938 (e ▸ hm1864)
  have hm2107 := hs1939 _ hm1864
  have hf2109 := (ho1942 q68 hm1888).trans hf1911
  have hn2111 : q68 ≠ q1935 := fun e => hq1938 (e ▸ hm1888)
  have hm2110 := hs1939 _ hm1888
  have hf2112 := (ho1942 q294 hm1912).trans hf563
  have hn2114 : q294 ≠ q1935 := fun e => hq1938 (e ▸ hm1912)
  have hm2113 := hs1939 _ hm1912
  have hf2115 := (ho1942 q475 hm498).trans hf499
  have hn2117 : q475 ≠ q1935 := fun e => hq1938 (e ▸ hm498)
  have hm2116 := hs1939 _ hm498
  have hf2118 := (ho1942 q476 hm501).trans hf502
  have hn2120 : q476 ≠ q1935 := fun e => hq1938 (e ▸ hm501)
  have hm2119 := hs1939 _ hm501
  have hf2121 := (ho1942 q477 hm504).trans hf505
  have hn2123 : q477 ≠ q1935 := fun e => hq1938 (e ▸ hm504)
  have hm2122 := hs1939 _ hm504
  have hf2124 := (ho1942 q478 hm507).trans hf508
  have hn2126 : q478 ≠ q1935 := fun e => hq1938 (e ▸ hm507)
  have hm2125 := hs1939 _ hm507
  have hf2127 := (ho1942 q479 hm510).trans hf511
  have hn2129 : q479 ≠ q1935 := fun e => hq1938 (e ▸ hm510)
  have hm2128 := hs1939 _ hm510
  have hf2130 := (ho1942 q480 hm513).trans hf514
  have hn2132 : q480 ≠ q1935 := fun e => hq1938 (e ▸ hm513)
  have hm2131 := hs1939 _ hm513
  have hf2133 := (ho1942 q481 hm516).trans hf517
  have hn2135 : q481 ≠ q1935 := fun e => hq1938 (e ▸ hm516)
  have hm2134 := hs1939 _ hm516
  have hf2136 := (ho1942 q482 hm519).trans hf520
  have hn2138 : q482 ≠ q1935 := fun e => hq1938 (e ▸ hm519)
  have hm2137 := hs1939 _ hm519
  have hf2139 := (ho1942 q483 hm522).trans hf523
  have hn2141 : q483 ≠ q1935 := fun e => hq1938 (e ▸ hm522)
  have hm2140 := hs1939 _ hm522
  have hf2142 := (ho1942 q484 hm525).trans hf526
  have hn2144 : q484 ≠ q1935 := fun e => hq1938 (e ▸ hm525)
  have hm2143 := hs1939 _ hm525
  have hf2145 := (ho1942 q485 hm528).trans hf529
  have hn2147 : q485 ≠ q1935 := fun e => hq1938 (e ▸ hm528)
  have hm2146 := hs1939 _ hm528
  have hf2148 := (ho1942 q486 hm531).trans hf532
  have hn2150 : q486 ≠ q1935 := fun e => hq1938 (e ▸ hm531)
  have hm2149 := hs1939 _ hm531
  have hf2151 := (ho1942 q487 hm534).trans hf535
  have hn2153 : q487 ≠ q1935 := fun e => hq1938 (e ▸ hm534)
  have hm2152 := hs1939 _ hm534
  have hf2154 := (ho1942 q488 hm537).trans hf538
  have hn2156 : q488 ≠ q1935 := fun e => hq1938 (e ▸ hm537)
  have hm2155 := hs1939 _ hm537
  have hf2157 := (ho1942 q489 hm540).trans hf541
  have hn2159 : q489 ≠ q1935 := fun e => hq1938 (e ▸ hm540)
  have hm2158 := hs1939 _ hm540
  have hf2160 := (ho1942 q490 hm543).trans hf544
  have hn2162 : q490 ≠ q1935 := fun e => hq1938 (e ▸ hm543)
  have hm2161 := hs1939 _ hm543
  have hf2163 := (ho1942 q491 hm546).trans hf547
  have hn2165 : q491 ≠ q1935 := fun e => hq1938 (e ▸ hm546)
  have hm2164 := hs1939 _ hm546
  have hf2166 := (ho1942 q492 hm549).trans hf550
  have hn2168 : q492 ≠ q1935 := fun e => hq1938 (e ▸ hm549)
  have hm2167 := hs1939 _ hm549
  have hf2169 := (ho1942 q493 hm552).trans hf553
  have hn2171 : q493 ≠ q1935 := fun e => hq1938 (e ▸ hm552)
  have hm2170 := hs1939 _ hm552
  have hf2172 := (ho1942 q494 hm555).trans hf556
  have hn2174 : q494 ≠ q1935 := fun e => hq1938 (e ▸ hm555)
  have hm2173 := hs1939 _ hm555
  have hf2175 := (ho1942 q495 hm558).trans hf559
  have hn2177 : q495 ≠ q1935 := fun e => hq1938 (e ▸ hm558)
  have hm2176 := hs1939 _ hm558
  have hf2178 := (ho1942 q496 hm561).trans hf562
  have hn2180 : q496 ≠ q1935 := fun e => hq1938 (e ▸ hm561)
  have hm2179 := hs1939 _ hm561
  refine lv_astore_n (lv' := [(3, .ref q1935), (2, .ref q294), (1, .ref q1), (0, .ref b)]) hx hb dL_law_19 rfl hl (by decide) rfl (fun ls hl => ?_)
  refine lv_iconst (v := 0) hx hb dL_law_20 (by decide) ?_
  refine lv_istore (lv' := [(4, .int 0), (3, .ref q1935), (2, .ref q294), (1, .ref q1), (0, .ref b)]) hx hb dL_law_21 hl (by decide) rfl (fun ls hl => ?_)
  have hT := ti_start g f1937 q1 q68 q67 q17 q16 q66 q65 q64 q23 q63 q62 q60 q59 q61 q58 q57 q26 q25 q24 q22 q21 q20 q19 q18 q15 q56 q55 q54 q53 q52 q51 q50 q49 q48 q47 q46 q45 q44 q43 q42 q41 q40 q39 q38 q37 q36 q35 q34 q33 q32 q31 q30 q29 q28 q27 q294 q496 q495 q494 q493 q492 q491 q490 q489 q488 q487 q486 q485 q484 q483 q482 q481 q480 q479 q478 q477 q476 q475 q1935 r69 aa70 hR1946 er234rr hf1947 hf2109 hf2106 hf1956 hf1953 hf2103 hf2100 hf2097 hf1974 hf2094 hf2091 hf2085 hf2082 hf2088 hf2079 hf2076 hf1983 hf1980 hf1977 hf1971 hf1968 hf1965 hf1962 hf1959 hf1950 hf2073 hf2070 hf2067 hf2064 hf2061 hf2058 hf2055 hf2052 hf2049 hf2046 hf2043 hf2040 hf2037 hf2034 hf2031 hf2028 hf2025 hf2022 hf2019 hf2016 hf2013 hf2010 hf2007 hf2004 hf2001 hf1998 hf1995 hf1992 hf1989 hf1986 hf2112 hf2178 hf2175 hf2172 hf2169 hf2166 hf2163 hf2160 hf2157 hf2154 hf2151 hf2148 hf2145 hf2142 hf2139 hf2136 hf2133 hf2130 hf2127 hf2124 hf2121 hf2118 hf2115 hf1941
  have hst := st_mk (al := [q1935, q475, q476, q477, q478, q479, q480, q481, q482, q483, q484, q485, q486, q487, q488, q489, q490, q491, q492, q493, q494, q495, q496, q294, q15, q16, q17, q18, q19, q20, q21, q22, q23, q24, q25, q26, q27, q28, q29, q30, q31, q32, q33, q34, q35, q36, q37, q38, q39, q40, q41, q42, q43, q44, q45, q46, q47, q48, q49, q50, q51, q52, q53, q54, q55, q56, q57, q58, q59, q60, q61, q62, q63, q64, q65, q66, q67, q68, q1]) rfl hN1943 hNs1944 hR1946 (List.forall_mem_cons.mpr ⟨(hRq1945), (List.forall_mem_cons.mpr ⟨(hRq569), (List.forall_mem_cons.mpr ⟨(hRq570), (List.forall_mem_cons.mpr ⟨(hRq571), (List.forall_mem_cons.mpr ⟨(hRq572), (List.forall_mem_cons.mpr ⟨(hRq573), (List.forall_mem_cons.mpr ⟨(hRq574), (List.forall_mem_cons.mpr ⟨(hRq575), (List.forall_mem_cons.mpr ⟨(hRq576), (List.forall_mem_cons.mpr ⟨(hRq577), (List.forall_mem_cons.mpr ⟨(hRq578), (List.forall_mem_cons.mpr ⟨(hRq579), (List.forall_mem_cons.mpr ⟨(hRq580), (List.forall_mem_cons.mpr ⟨(hRq581), (List.forall_mem_cons.mpr ⟨(hRq582), (List.forall_mem_cons.mpr ⟨(hRq583), (List.forall_mem_cons.mpr ⟨(hRq584), (List.forall_mem_cons.mpr ⟨(hRq585), (List.forall_mem_cons.mpr ⟨(hRq586), (List.forall_mem_cons.mpr ⟨(hRq587), (List.forall_mem_cons.mpr ⟨(hRq588), (List.forall_mem_cons.mpr ⟨(hRq589), (List.forall_mem_cons.mpr ⟨(hRq590), (List.forall_mem_cons.mpr ⟨(hRq304), (List.forall_mem_cons.mpr ⟨((fun j hj k hk => (er234ne j hj k hk).1)), (List.forall_mem_cons.mpr ⟨((fun j hj k hk => (er234ne j hj k hk).2.1)), (List.forall_mem_cons.mpr ⟨((fun j hj k hk => (er234ne j hj k hk).2.2.1)), (List.forall_mem_cons.mpr ⟨((fun j hj k hk => (er234ne j hj k hk).2.2.2.1)), (List.forall_mem_cons.mpr ⟨((fun j hj k hk => (er234ne j hj k hk).2.2.2.2.1)), (List.forall_mem_cons.mpr ⟨((fun j hj k hk => (er234ne j hj k hk).2.2.2.2.2.1)), (List.forall_mem_cons.mpr ⟨((fun j hj k hk => (er234ne j hj k hk).2.2.2.2.2.2.1)), (List.forall_mem_cons.mpr ⟨((fun j hj k hk => (er234ne j hj k hk).2.2.2.2.2.2.2.1)), (List.forall_mem_cons.mpr ⟨((fun j hj k hk => (er234ne j hj k hk).2.2.2.2.2.2.2.2.1)), (List.forall_mem_cons.mpr ⟨((fun j hj k hk => (er234ne j hj k hk).2.2.2.2.2.2.2.2.2.1)), (List.forall_mem_cons.mpr ⟨((fun j hj k hk => (er234ne j hj k hk).2.2.2.2.2.2.2.2.2.2.1)), (List.forall_mem_cons.mpr ⟨((fun j hj k hk => (er234ne j hj k hk).2.2.2.2.2.2.2.2.2.2.2.1)), (List.forall_mem_cons.mpr ⟨((fun j hj k hk => (er234ne j hj k hk).2.2.2.2.2.2.2.2.2.2.2.2.1)), (List.forall_mem_cons.mpr ⟨((fun j hj k hk => (er234ne j hj k hk).2.2.2.2.2.2.2.2.2.2.2.2.2.1)), (List.forall_mem_cons.mpr ⟨((fun j hj k hk => (er234ne j hj k hk).2.2.2.2.2.2.2.2.2.2.2.2.2.2.1)), (List.forall_mem_cons.mpr ⟨((fun j hj k hk => (er234ne j hj k hk).2.2.2.2.2.2.2.2.2.2.2.2.2.2.2.1)), (List.forall_mem_cons.mpr ⟨((fun j hj k hk => (er234ne j hj k hk).2.2.2.2.2.2.2.2.2.2.2.2.2.2.2.2.1)), (List.forall_mem_cons.mpr ⟨((fun j hj k hk => (er234ne j hj k hk).2.2.2.2.2.2.2.2.2.2.2.2.2.2.2.2.2.1)), (List.forall_mem_cons.mpr ⟨((fun j hj k hk => (er234ne j hj k hk).2.2.2.2.2.2.2.2.2.2.2.2.2.2.2.2.2.2.1)), (List.forall_mem_cons.mpr ⟨((fun j hj k hk => (er234ne j hj k hk).2.2.2.2.2.2.2.2.2.2.2.2.2.2.2.2.2.2.2.1)), (List.forall_mem_cons.mpr ⟨((fun j hj k hk => (er234ne j hj k hk).2.2.2.2.2.2.2.2.2.2.2.2.2.2.2.2.2.2.2.2.1)), (List.forall_mem_cons.mpr ⟨((fun j hj k hk => (er234ne j hj k hk).2.2.2.2.2.2.2.2.2.2.2.2.2.2.2.2.2.2.2.2.2.1)), (List.forall_mem_cons.mpr ⟨((fun j hj k hk => (er234ne j hj k hk).2.2.2.2.2.2.2.2.2.2.2.2.2.2.2.2.2.2.2.2.2.2.1)), (List.forall_mem_cons.mpr ⟨((fun j hj k hk => (er234ne j hj k hk).2.2.2.2.2.2.2.2.2.2.2.2.2.2.2.2.2.2.2.2.2.2.2.1)), (List.forall_mem_cons.mpr ⟨((fun j hj k hk => (er234ne j hj k hk).2.2.2.2.2.2.2.2.2.2.2.2.2.2.2.2.2.2.2.2.2.2.2.2.1)), (List.forall_mem_cons.mpr ⟨((fun j hj k hk => (er234ne j hj k hk).2.2.2.2.2.2.2.2.2.2.2.2.2.2.2.2.2.2.2.2.2.2.2.2.2.1)), (List.forall_mem_cons.mpr ⟨((fun j hj k hk => (er234ne j hj k hk).2.2.2.2.2.2.2.2.2.2.2.2.2.2.2.2.2.2.2.2.2.2.2.2.2.2.1)), (List.forall_mem_cons.mpr ⟨((fun j hj k hk => (er234ne j hj k hk).2.2.2.2.2.2.2.2.2.2.2.2.2.2.2.2.2.2.2.2.2.2.2.2.2.2.2.1)), (List.forall_mem_cons.mpr ⟨((fun j hj k hk => (er234ne j hj k hk).2.2.2.2.2.2.2.2.2.2.2.2.2.2.2.2.2.2.2.2.2.2.2.2.2.2.2.2.1)), (List.forall_mem_cons.mpr ⟨((fun j hj k hk => (er234ne j hj k hk).2.2.2.2.2.2.2.2.2.2.2.2.2.2.2.2.2.2.2.2.2.2.2.2.2.2.2.2.2.1)), (List.forall_mem_cons.mpr ⟨((fun j hj k hk => (er234ne j hj k hk).2.2.2.2.2.2.2.2.2.2.2.2.2.2.2.2.2.2.2.2.2.2.2.2.2.2.2.2.2.2.1)), (List.forall_mem_cons.mpr ⟨((fun j hj k hk => (er234ne j hj k hk).2.2.2.2.2.2.2.2.2.2.2.2.2.2.2.2.2.2.2.2.2.2.2.2.2.2.2.2.2.2.2.1)), (List.forall_mem_cons.mpr ⟨((fun j hj k hk => (er234ne j hj k hk).2.2.2.2.2.2.2.2.2.2.2.2.2.2.2.2.2.2.2.2.2.2.2.2.2.2.2.2.2.2.2.2.1)), (List.forall_mem_cons.mpr ⟨((fun j hj k hk => (er234ne j hj k hk).2.2.2.2.2.2.2.2.2.2.2.2.2.2.2.2.2.2.2.2.2.2.2.2.2.2.2.2.2.2.2.2.2.1)), (List.forall_mem_cons.mpr ⟨((fun j hj k hk => (er234ne j hj k hk).2.2.2.2.2.2.2.2.2.2.2.2.2.2.2.2.2.2.2.2.2.2.2.2.2.2.2.2.2.2.2.2.2.2.1)), (List.forall_mem_cons.mpr ⟨((fun j hj k hk => (er234ne j hj k hk).2.2.2.2.2.2.2.2.2.2.2.2.2.2.2.2.2.2.2.2.2.2.2.2.2.2.2.2.2.2.2.2.2.2.2.1)), (List.forall_mem_cons.mpr ⟨((fun j hj k hk => (er234ne j hj k hk).2.2.2.2.2.2.2.2.2.2.2.2.2.2.2.2.2.2.2.2.2.2.2.2.2.2.2.2.2.2.2.2.2.2.2.2.1)), (List.forall_mem_cons.mpr ⟨((fun j hj k hk => (er234ne j hj k hk).2.2.2.2.2.2.2.2.2.2.2.2.2.2.2.2.2.2.2.2.2.2.2.2.2.2.2.2.2.2.2.2.2.2.2.2.2.1)), (List.forall_mem_cons.mpr ⟨((fun j hj k hk => (er234ne j hj k hk).2.2.2.2.2.2.2.2.2.2.2.2.2.2.2.2.2.2.2.2.2.2.2.2.2.2.2.2.2.2.2.2.2.2.2.2.2.2.1)), (List.forall_mem_cons.mpr ⟨((fun j hj k hk => (er234ne j hj k hk).2.2.2.2.2.2.2.2.2.2.2.2.2.2.2.2.2.2.2.2.2.2.2.2.2.2.2.2.2.2.2.2.2.2.2.2.2.2.2.1)), (List.forall_mem_cons.mpr ⟨((fun j hj k hk => (er234ne j hj k hk).2.2.2.2.2.2.2.2.2.2.2.2.2.2.2.2.2.2.2.2.2.2.2.2.2.2.2.2.2.2.2.2.2.2.2.2.2.2.2.2.1)), (List.forall_mem_cons.mpr ⟨((fun j hj k hk => (er234ne j hj k hk).2.2.2.2.2.2.2.2.2.2.2.2.2.2.2.2.2.2.2.2.2.2.2.2.2.2.2.2.2.2.2.2.2.2.2.2.2.2.2.2.2.1)), (List.forall_mem_cons.mpr ⟨((fun j hj k hk => (er234ne j hj k hk).2.2.2.2.2.2.2.2.2.2.2.2.2.2.2.2.2.2.2.2.2.2.2.2.2.2.2.2.2.2.2.2.2.2.2.2.2.2.2.2.2.2.1)), (List.forall_mem_cons.mpr ⟨((fun j hj k hk => (er234ne j hj k hk).2.2.2.2.2.2.2.2.2.2.2.2.2.2.2.2.2.2.2.2.2.2.2.2.2.2.2.2.2.2.2.2.2.2.2.2.2.2.2.2.2.2.2.1)), (List.forall_mem_cons.mpr ⟨((fun j hj k hk => (er234ne j hj k hk).2.2.2.2.2.2.2.2.2.2.2.2.2.2.2.2.2.2.2.2.2.2.2.2.2.2.2.2.2.2.2.2.2.2.2.2.2.2.2.2.2.2.2.2.1)), (List.forall_mem_cons.mpr ⟨((fun j hj k hk => (er234ne j hj k hk).2.2.2.2.2.2.2.2.2.2.2.2.2.2.2.2.2.2.2.2.2.2.2.2.2.2.2.2.2.2.2.2.2.2.2.2.2.2.2.2.2.2.2.2.2.1)), (List.forall_mem_cons.mpr ⟨((fun j hj k hk => (er234ne j hj k hk).2.2.2.2.2.2.2.2.2.2.2.2.2.2.2.2.2.2.2.2.2.2.2.2.2.2.2.2.2.2.2.2.2.2.2.2.2.2.2.2.2.2.2.2.2.2.1)), (List.forall_mem_cons.mpr ⟨((fun j hj k hk => (er234ne j hj k hk).2.2.2.2.2.2.2.2.2.2.2.2.2.2.2.2.2.2.2.2.2.2.2.2.2.2.2.2.2.2.2.2.2.2.2.2.2.2.2.2.2.2.2.2.2.2.2.1)), (List.forall_mem_cons.mpr ⟨((fun j hj k hk => (er234ne j hj k hk).2.2.2.2.2.2.2.2.2.2.2.2.2.2.2.2.2.2.2.2.2.2.2.2.2.2.2.2.2.2.2.2.2.2.2.2.2.2.2.2.2.2.2.2.2.2.2.2.1)), (List.forall_mem_cons.mpr ⟨((fun j hj k hk => (er234ne j hj k hk).2.2.2.2.2.2.2.2.2.2.2.2.2.2.2.2.2.2.2.2.2.2.2.2.2.2.2.2.2.2.2.2.2.2.2.2.2.2.2.2.2.2.2.2.2.2.2.2.2.1)), (List.forall_mem_cons.mpr ⟨((fun j hj k hk => (er234ne j hj k hk).2.2.2.2.2.2.2.2.2.2.2.2.2.2.2.2.2.2.2.2.2.2.2.2.2.2.2.2.2.2.2.2.2.2.2.2.2.2.2.2.2.2.2.2.2.2.2.2.2.2.1)), (List.forall_mem_cons.mpr ⟨((fun j hj k hk => (er234ne j hj k hk).2.2.2.2.2.2.2.2.2.2.2.2.2.2.2.2.2.2.2.2.2.2.2.2.2.2.2.2.2.2.2.2.2.2.2.2.2.2.2.2.2.2.2.2.2.2.2.2.2.2.2.1)), (List.forall_mem_cons.mpr ⟨((fun j hj k hk => (er234ne j hj k hk).2.2.2.2.2.2.2.2.2.2.2.2.2.2.2.2.2.2.2.2.2.2.2.2.2.2.2.2.2.2.2.2.2.2.2.2.2.2.2.2.2.2.2.2.2.2.2.2.2.2.2.2.1)), (List.forall_mem_cons.mpr ⟨((fun j hj k hk => (er234ne j hj k hk).2.2.2.2.2.2.2.2.2.2.2.2.2.2.2.2.2.2.2.2.2.2.2.2.2.2.2.2.2.2.2.2.2.2.2.2.2.2.2.2.2.2.2.2.2.2.2.2.2.2.2.2.2)), (List.forall_mem_cons.mpr ⟨((fun j hj k hk e => (hR1946.1 j hj k hk).2 (e ▸ hm6))), (fun _ h => absurd h List.not_mem_nil)⟩)⟩)⟩)⟩)⟩)⟩)⟩)⟩)⟩)⟩)⟩)⟩)⟩)⟩)⟩)⟩)⟩)⟩)⟩)⟩)⟩)⟩)⟩)⟩)⟩)⟩)⟩)⟩)⟩)⟩)⟩)⟩)⟩)⟩)⟩)⟩)⟩)⟩)⟩)⟩)⟩)⟩)⟩)⟩)⟩)⟩)⟩)⟩)⟩)⟩)⟩)⟩)⟩)⟩)⟩)⟩)⟩)⟩)⟩)⟩)⟩)⟩)⟩)⟩)⟩)⟩)⟩)⟩)⟩)⟩)⟩)⟩)⟩)⟩)⟩)⟩)⟩)⟩)⟩)
  refine W.widen (k := 1000) (n := 200000) (Nat.le_of_ble_eq_true rfl) (Nat.le_of_ble_eq_true rfl) ?_
  exact law_loop l C0 hL htr hG hE hst 513 0 0 th0 _ _ _ _ hT ci0 mi0 hP hD hS (lv_sub hl [0, 1, 2, 3, 4] rfl) (by decide) (by decide) (by decide)
set_option maxHeartbeats 4000000 in
theorem lw_walk (l : Launch) (hflags : l.flags = flags0) (b : Addr) (xs : List Int32) : MetFree l x (headSpec (Jvm.Cond.code x code maxLocals ret :: tables_1) room_1) (lw_P b xs) (fun _ _ _ _ _ => True) lw_Q := by
  refine MetFree.of_bodyS (code := code) (maxLocals := maxLocals) (ret := ret) (by decide) ?_ ?_
  · intro args s m h hn
    obtain ⟨meth, c, h1, h2, h3, h4, h5, h6, -, -⟩ := Cond.code_spec hn (atoms_spec (ws := Jvm.Cond.code x code maxLocals ret :: tables_1) h _ List.mem_cons_self)
    exact ⟨meth, c, h1, h2, h3, h4, h5, h6⟩
  · intro p e s m args below meth c s₁ B hml0 hP _
    obtain ⟨rfl, hx, hbd, hgv⟩ := hP
    obtain ⟨scr, harrAt, hlist, hof, hsmall⟩ := hx
    obtain ⟨hcb, hkn, -, -⟩ := State.arrayAt?_spec harrAt
    have hown : s.vm.findClass R_law = some m.cls := findClass_of_methodNamed B.named
    have hts0 : ∀ c ∈ (Jvm.Cond.code x code maxLocals ret :: tables_1), c.before #[Value.ref b] s = true := atoms_spec (ws := Jvm.Cond.code x code maxLocals ret :: tables_1) B.pre
    have hts : ∀ w ∈ lw_tbl, w.before #[Value.ref b] s = true := k2_hts_sels lw_privs (fun w hw => hts0 w (List.mem_cons_of_mem _ hw)) lw_privs_ok
    have hml : c.maxLocals = 7 := B.maxLocals_eq (hts0 _ List.mem_cons_self)
    have X₀ : Stand p l e room_1 s m #[Value.ref b] below meth c s₁ [] 0 0 := Stand.of_body B
    have hh0 : s₁.heap = s.heap := by rw [B.state]; rfl
    have hsz : scr.slots.size = xs.length := by rw [← Array.length_toList, hlist, List.length_map]
    have hval : ∀ j : Nat, j < xs.length → scr.slots[j]? = some (.int (xs.getD j 0)) := fun j hj => by
      rw [← Array.getElem?_toList, hlist]
      simp [hj]
    have hbl : b < s.heap.size := (Array.getElem?_eq_some_iff.mp hcb).1
    have hX : va_X b xs.length (fun j => xs.getD j 0) s s.heap := ⟨scr, hcb, hof, hkn, hsz, hval⟩
    have K : W p l e room_1 s m #[Value.ref b] below meth c s₁.heap [] 0 0 (lw_Z below #[Value.ref b] s) (entryFrame m ([Value.ref b] : List Value).toArray 7) := by
      rw [hh0]
      exact whole_start l hflags hbd ⟨B.exec, B.bytes, B.returns, hml, hown, hts, hX, hbl, B.notSynchronized, hgv⟩
    obtain ⟨t, a1, o, b1, b2, b3⟩ := K s₁ rfl X₀
    exact ⟨t, o, a1, b1, b2, b3⟩
theorem lw_pre_spec {args : Array Value} {s : State} (h : (Jvm.Cond.and given_1 narrow_1).before args s = true) (hr : rest_1_c.before args s = true) : ∃ (b : Addr) (xs : List Int32), lw_P b xs args s := by
  have hs := flat_of_before _ h
  have hq := flat_of_before _ hr
  have hc : (Cond.count 1).before args s = true := hs _ (by decide +kernel)
  have harr : (Cond.arrayOf (.arg 0) .int).before args s = true := hs _ (by decide +kernel)
  have hle : (Cond.le (.length (.arg 0)) (.int 3072)).before args s = true := hs _ (by decide +kernel)
  have hlen : (Cond.isInt (.length (.arg 0))).before args s = true := hq _ (by decide +kernel)
  have hall : (Cond.all (.arg 0) (.isInt (.elem (.arg 0) (.index 0)))).before args s = true := hq _ (by decide +kernel)
  obtain ⟨b, xs, hb, hx⟩ := State.ints_of_pre rfl harr hlen hall
  have hsm : xs.length < 2 ^ 31 := hx.choose_spec.2.2.2
  have hev : (Term.length (.arg 0)).eval args s none [] s = some (.int xs.length.toInt32) := hx.length_eval hb
  have hv := Cond.le_ints hev (show (Term.int 3072).eval args s none [] s = some (.int 3072) from rfl)
  have hd : xs.length.toInt32 ≤ 3072 := by
    simpa [Cond.before, Cond.holds, hv] using hle
  have hN : xs.length ≤ 3072 := (Int32.ofNat_le_ofNat hsm (by decide)).mp (show Int32.ofNat xs.length ≤ Int32.ofNat 3072 from hd)
  exact ⟨b, xs, Cond.one_arg hc (show args[0]? = some (.ref b) from hb), hx, hN, h⟩
theorem lw_comes (l : Launch) (hflags : l.flags = flags0) : Comes l x (Jvm.Cond.code x code maxLocals ret :: tables_1) room_1 (fun tb e args s => Calls_1 tb e args s ∧ rest_1 tb e args s ∧ Pre_1 tb e args s)
    (fun _ _ args s o t => lw_Q args s o t) := by
  intro p e ha hc hk s m args below hf hfit hheap happ hpre
  obtain ⟨b, xs, hP⟩ := lw_pre_spec hpre.2.2 hpre.2.1
  obtain ⟨k, o, h1, h2, h3, hQ⟩ := lw_walk l hflags b xs p e ha hc hk s m args below hf ((Spec.applies_iff_loose hf).mp happ).1 hP trivial
  exact ⟨k, o, h1, h2, h3, hQ⟩
theorem lw_frame {s t : State} {o : Outcome} {args : Array Value} (h : Framed s o t [] 601024 7293034) :
    Framed s o t (fieldLocs frame_1_writes args s ++ arrayLocs frame_1_arrays args s ++ staticLocs frame_1_statics s) 601024 7293034 := h
theorem lw_limb (L : Cond) (hL : ∀ (args : Array Value) (s t : State), L.after args s (.returned (some (.int 1))) t = true) :
    ArmFor flags0 classFile x code maxLocals ret World_1 tables_1 room_1 Calls_1 rest_1 Pre_1
      (fun tb e a s o t => postC L tb e a s o t ∧ Framed s o t (fieldLocs frame_1_writes a s ++ arrayLocs frame_1_arrays a s ++ staticLocs frame_1_statics s) 601024 7293034) := by
  intro l hflags _ _ p e ha hc hk s m args below hf hfit hheap happ hpre
  obtain ⟨k, o, h1, h2, h3, rfl, hF⟩ := lw_comes l hflags p e ha hc hk s m args below hf hfit hheap happ hpre
  exact ⟨k, _, h1, h2, h3, hL args s _, lw_frame hF⟩
theorem i_vc : Claimed_1_1 ∧ Claimed_1_2 := ⟨lw_limb limb_1_1 (fun args s t => by simp [limb_1_1, Cond.after, Cond.holds, Cond.value]), lw_limb limb_1_2 (fun args s t => Cond.after_iff.mpr (by
  first | (rw [show limb_1_2 = Cond.eq .result (.int 1) from rfl, Cond.eq_ints (x := 1) (y := 1) rfl rfl]; simp; done) | (simp [limb_1_2, Cond.value, Term.eval]; done)))⟩
