theorem memP {L ms : List Nat} {a : Nat} (h : a ∈ L) (hn : a ∉ ms) : a ∈ L.filter (fun a => !(ms.contains a)) := List.mem_filter.mpr ⟨h, by simpa using hn⟩
theorem memN {L ms : List Nat} {a : Nat} (h : a ∈ L) (hn : a ∈ ms) : a ∈ L.filter (fun a => ms.contains a) := List.mem_filter.mpr ⟨h, by simpa using hn⟩
theorem nm {a b : Nat} {l : List Nat} (h : a ≠ b) (g : a ∉ l) : a ∉ b :: l := fun q => (List.mem_cons.mp q).elim h g
theorem disPN (L ms : List Nat) : ∀ a, a ∈ L.filter (fun a => ms.contains a) → a ∉ L.filter (fun a => !(ms.contains a)) := fun a h g => by
  have h1 := (List.mem_filter.mp h).2
  have h2 := (List.mem_filter.mp g).2
  rw [h1] at h2
  exact absurd h2 (by decide)
set_option maxHeartbeats 4000000 in
set_option maxRecDepth 100000 in
theorem whole_start {p : Program} {e : Env} {s : State} {m : MethodId} {below : List Frame} {meth : Method} {c : Code} (l : Launch) (hflags : l.flags = flags0) {b L : Nat} {xs : Nat → Int32} (hL : L ≤ 6) (C0 : lw_At p s m meth c b L xs) : W p l e room_1 s m #[Value.ref b] below meth c s.heap [] 0 0 (lw_Z below #[Value.ref b] s) (entryFrame m ([Value.ref b] : List Value).toArray 7) := by
  obtain ⟨hx, hb, hr, hml, hown, hts0, hXs, hbl, hlocks, hgv⟩ := id C0
  have htr : l.stackTraces = false := by unfold Launch.stackTraces; rw [hflags]; decide
  have hown : s.vm.findClass "RulerWordLaw" = some m.cls := hown
  have hts := hts1 hts0
  have hA : ∀ q, s.heap.size ≤ q → (fun q : Nat => s.heap.size ≤ q) q := fun _ h => h
  have hbA : ¬ (fun q : Nat => s.heap.size ≤ q) b := Nat.not_le.mpr hbl
  obtain ⟨g, hG, hE⟩ := world (A := (fun q : Nat => s.heap.size ≤ q)) hts0 hgv (fun a h1 h2 => absurd h1 (Nat.not_lt.mpr h2))
  have hP : va_P g.1 vwCl (va_pl [] (fun _ => .inr (0, []))) s.heap := fun k q h => by simp [va_pl] at h
  have hD : va_D (fun q : Nat => s.heap.size ≤ q) (va_pl [] (fun _ => .inr (0, []))) := ⟨fun i j p q h => by simp [va_pl] at h, fun k q h => by simp [va_pl] at h⟩
  have hS : va_S (fun q : Nat => s.heap.size ≤ q) s.heap s.heap [] := va_S.rf
  have hl := lv_entry ([.ref b]) (n := 7) (Nat.le_of_ble_eq_true rfl)
  rw [lg_entry_eq]
  generalize (lg_sl ([.ref b]) ++ List.replicate (7 - (lg_sl ([.ref b])).length) Slot.unset).toArray = ls at hl ⊢
  have hl : lv_has ls 7 [(0, .ref b)] := hl
  refine pl_new (ci := 9) (fs := [.null, .null, .null, .null, .null, .null, .null, .null, .null, .null, .null, .null, .null, .null, .null, .int 0, .int 0, .long 0]) (C := RX10) (T := TX10) (N := 18) hx hb hts (fun w h => mT (inX10 w h)) tyX10 tyX10_ok hown (hts _ (mT wg_181)) (hts _ (mT wg_182)) (hts _ (mT wg_157)) hG.1 hP hD hS hA rfl dvX10 (Nat.le_of_ble_eq_true rfl) (Nat.le_of_ble_eq_true rfl) dL_law_0 (fun q1 H L2 f3 hq4 hs5 hm6 hf7 ho8 hP hD hS => ?_)
  refine lv_dup hx hb dL_law_3 rfl ?_
  refine call_v (run_I (rm := { frames := 3, cells := 254, slots := 7965, locals := 53 }) hx hb hml hown hts (k_X10_init l g _ _ _ q1 hm6 hf7) cI_X10_init wg_183 ⟨Nat.le_of_ble_eq_true rfl, Nat.le_of_ble_eq_true rfl⟩ hG hE hA hP hD hS rfl hl.1 (As := []) (rest := [.ref q1]) rfl (Nat.le_of_ble_eq_true rfl) dL_law_4 ⟨Nat.le_of_ble_eq_true rfl, Nat.le_of_ble_eq_true rfl⟩) hA hD hS (fun L10 f11 H locs hp12 hP hD hS => ?_)
  obtain ⟨q13, q14, q15, q16, q17, q18, q19, q20, q21, q22, q23, q24, q25, q26, q27, q28, q29, q30, q31, q32, q33, q34, q35, q36, q37, q38, q39, q40, q41, hn42, hm43, hf44, hn45, hm46, hf47, hn48, hm49, hf50, hn51, hm52, hf53, hn54, hm55, hf56, hn57, hm58, hf59, hn60, hm61, hf62, hn63, hm64, hf65, hn66, hm67, hf68, hn69, hm70, hf71, hn72, hm73, hf74, hf75, fr76, sb77⟩ := hp12
  have hn79 : q1 ≠ q13 := fun e => hn42 (e ▸ hm6)
  have hn80 : q1 ≠ q14 := fun e => hn45 (e ▸ hm6)
  have hn81 : q1 ≠ q15 := fun e => hn48 (e ▸ hm6)
  have hn82 : q1 ≠ q16 := fun e => hn51 (e ▸ hm6)
  have hn83 : q1 ≠ q17 := fun e => hn54 (e ▸ hm6)
  have hn84 : q1 ≠ q18 := fun e => hn57 (e ▸ hm6)
  have hn85 : q1 ≠ q19 := fun e => hn60 (e ▸ hm6)
  have hn86 : q1 ≠ q20 := fun e => hn63 (e ▸ hm6)
  have hn87 : q1 ≠ q21 := fun e => hn66 (e ▸ hm6)
  have hn88 : q1 ≠ q22 := fun e => hn69 (e ▸ hm6)
  have hn89 : q1 ≠ q23 := fun e => hn72 (e ▸ hm6)
  have hm78 := sb77 _ hm6
  refine lv_astore_n (lv' := [(1, .ref q1), (0, .ref b)]) hx hb dL_law_7 rfl hl (by decide) rfl (fun ls hl => ?_)
  refine pl_new (ci := 10) (fs := [.int 0, .null, .int 0, .int 0, .int 0, .int 0, .int 0, .null, .int 0, .int 0, .null, .null, .int 0, .int 0, .int 0, .int 0, .int 0, .int 0, .int 0, .int 0, .int 0, .long 0, .long 0, .int 0, .null, .int 0, .null, .null, .null, .null, .null, .null, .null, .null, .null, .null, .int 0, .int 0, .int 0, .int 0, .int 0, .null, .null, .null, .null, .long 0, .long 0, .int 0, .int 0, .null, .int 0, .int 0, .null, .int 0, .null, .int 0]) (C := RX11) (T := TX11) (N := 56) hx hb hts (fun w h => mT (inX11 w h)) tyX11 tyX11_ok hown (hts _ (mT wg_1329)) (hts _ (mT wg_1330)) (hts _ (mT wg_168)) hG.1 hP hD hS hA rfl dvX11 (Nat.le_of_ble_eq_true rfl) (Nat.le_of_ble_eq_true rfl) dL_law_8 (fun q90 H L91 f92 hq93 hs94 hm95 hf96 ho97 hP hD hS => ?_)
  have hf98 := (ho97 q1 hm78).trans hf75
  have hn100 : q1 ≠ q90 := fun e => hq93 (e ▸ hm78)
  have hm99 := hs94 _ hm78
  have hf101 := (ho97 q13 hm43).trans hf44
  have hn103 : q13 ≠ q90 := fun e => hq93 (e ▸ hm43)
  have hm102 := hs94 _ hm43
  have hf104 := (ho97 q14 hm46).trans hf47
  have hn106 : q14 ≠ q90 := fun e => hq93 (e ▸ hm46)
  have hm105 := hs94 _ hm46
  have hf107 := (ho97 q15 hm49).trans hf50
  have hn109 : q15 ≠ q90 := fun e => hq93 (e ▸ hm49)
  have hm108 := hs94 _ hm49
  have hf110 := (ho97 q16 hm52).trans hf53
  have hn112 : q16 ≠ q90 := fun e => hq93 (e ▸ hm52)
  have hm111 := hs94 _ hm52
  have hf113 := (ho97 q17 hm55).trans hf56
  have hn115 : q17 ≠ q90 := fun e => hq93 (e ▸ hm55)
  have hm114 := hs94 _ hm55
  have hf116 := (ho97 q18 hm58).trans hf59
  have hn118 : q18 ≠ q90 := fun e => hq93 (e ▸ hm58)
  have hm117 := hs94 _ hm58
  have hf119 := (ho97 q19 hm61).trans hf62
  have hn121 : q19 ≠ q90 := fun e => hq93 (e ▸ hm61)
  have hm120 := hs94 _ hm61
  have hf122 := (ho97 q20 hm64).trans hf65
  have hn124 : q20 ≠ q90 := fun e => hq93 (e ▸ hm64)
  have hm123 := hs94 _ hm64
  have hf125 := (ho97 q21 hm67).trans hf68
  have hn127 : q21 ≠ q90 := fun e => hq93 (e ▸ hm67)
  have hm126 := hs94 _ hm67
  have hf128 := (ho97 q22 hm70).trans hf71
  have hn130 : q22 ≠ q90 := fun e => hq93 (e ▸ hm70)
  have hm129 := hs94 _ hm70
  have hf131 := (ho97 q23 hm73).trans hf74
  have hn133 : q23 ≠ q90 := fun e => hq93 (e ▸ hm73)
  have hm132 := hs94 _ hm73
  refine lv_dup hx hb dL_law_11 rfl ?_
  refine call_v (run_I (rm := { frames := 1, cells := 22, slots := 48415, locals := 12 }) hx hb hml hown hts (k_X11_init l g _ _ _ q90 hm95 hf96) cI_X11_init wg_1331 ⟨Nat.le_of_ble_eq_true rfl, Nat.le_of_ble_eq_true rfl⟩ hG hE hA hP hD hS rfl hl.1 (As := []) (rest := [.ref q90]) rfl (Nat.le_of_ble_eq_true rfl) dL_law_12 ⟨Nat.le_of_ble_eq_true rfl, Nat.le_of_ble_eq_true rfl⟩) hA hD hS (fun L135 f136 H locs hp137 hP hD hS => ?_)
  obtain ⟨q138, q139, q140, q141, q142, q143, q144, q145, q146, q147, q148, q149, q150, q151, q152, q153, q154, q155, q156, q157, q158, q159, hn160, hm161, hf162, hn163, hm164, hf165, hn166, hm167, hf168, hn169, hm170, hf171, hf172, fr173, sb174⟩ := hp137
  have hn176 : q1 ≠ q138 := fun e => hn160 (e ▸ hm99)
  have hn177 : q1 ≠ q139 := fun e => hn163 (e ▸ hm99)
  have hn178 : q1 ≠ q140 := fun e => hn166 (e ▸ hm99)
  have hn179 : q1 ≠ q141 := fun e => hn169 (e ▸ hm99)
  have hf180 := (fr173 q1 hm99 hn100).trans hf98
  have hm175 := sb174 _ hm99
  have hn182 : q13 ≠ q138 := fun e => hn160 (e ▸ hm102)
  have hn183 : q13 ≠ q139 := fun e => hn163 (e ▸ hm102)
  have hn184 : q13 ≠ q140 := fun e => hn166 (e ▸ hm102)
  have hn185 : q13 ≠ q141 := fun e => hn169 (e ▸ hm102)
  have hf186 := (fr173 q13 hm102 hn103).trans hf101
  have hm181 := sb174 _ hm102
  have hn188 : q14 ≠ q138 := fun e => hn160 (e ▸ hm105)
  have hn189 : q14 ≠ q139 := fun e => hn163 (e ▸ hm105)
  have hn190 : q14 ≠ q140 := fun e => hn166 (e ▸ hm105)
  have hn191 : q14 ≠ q141 := fun e => hn169 (e ▸ hm105)
  have hf192 := (fr173 q14 hm105 hn106).trans hf104
  have hm187 := sb174 _ hm105
  have hn194 : q15 ≠ q138 := fun e => hn160 (e ▸ hm108)
  have hn195 : q15 ≠ q139 := fun e => hn163 (e ▸ hm108)
  have hn196 : q15 ≠ q140 := fun e => hn166 (e ▸ hm108)
  have hn197 : q15 ≠ q141 := fun e => hn169 (e ▸ hm108)
  have hf198 := (fr173 q15 hm108 hn109).trans hf107
  have hm193 := sb174 _ hm108
  have hn200 : q16 ≠ q138 := fun e => hn160 (e ▸ hm111)
  have hn201 : q16 ≠ q139 := fun e => hn163 (e ▸ hm111)
  have hn202 : q16 ≠ q140 := fun e => hn166 (e ▸ hm111)
  have hn203 : q16 ≠ q141 := fun e => hn169 (e ▸ hm111)
  have hf204 := (fr173 q16 hm111 hn112).trans hf110
  have hm199 := sb174 _ hm111
  have hn206 : q17 ≠ q138 := fun e => hn160 (e ▸ hm114)
  have hn207 : q17 ≠ q139 := fun e => hn163 (e ▸ hm114)
  have hn208 : q17 ≠ q140 := fun e => hn166 (e ▸ hm114)
  have hn209 : q17 ≠ q141 := fun e => hn169 (e ▸ hm114)
  have hf210 := (fr173 q17 hm114 hn115).trans hf113
  have hm205 := sb174 _ hm114
  have hn212 : q18 ≠ q138 := fun e => hn160 (e ▸ hm117)
  have hn213 : q18 ≠ q139 := fun e => hn163 (e ▸ hm117)
  have hn214 : q18 ≠ q140 := fun e => hn166 (e ▸ hm117)
  have hn215 : q18 ≠ q141 := fun e => hn169 (e ▸ hm117)
  have hf216 := (fr173 q18 hm117 hn118).trans hf116
  have hm211 := sb174 _ hm117
  have hn218 : q19 ≠ q138 := fun e => hn160 (e ▸ hm120)
  have hn219 : q19 ≠ q139 := fun e => hn163 (e ▸ hm120)
  have hn220 : q19 ≠ q140 := fun e => hn166 (e ▸ hm120)
  have hn221 : q19 ≠ q141 := fun e => hn169 (e ▸ hm120)
  have hf222 := (fr173 q19 hm120 hn121).trans hf119
  have hm217 := sb174 _ hm120
  have hn224 : q20 ≠ q138 := fun e => hn160 (e ▸ hm123)
  have hn225 : q20 ≠ q139 := fun e => hn163 (e ▸ hm123)
  have hn226 : q20 ≠ q140 := fun e => hn166 (e ▸ hm123)
  have hn227 : q20 ≠ q141 := fun e => hn169 (e ▸ hm123)
  have hf228 := (fr173 q20 hm123 hn124).trans hf122
  have hm223 := sb174 _ hm123
  have hn230 : q21 ≠ q138 := fun e => hn160 (e ▸ hm126)
  have hn231 : q21 ≠ q139 := fun e => hn163 (e ▸ hm126)
  have hn232 : q21 ≠ q140 := fun e => hn166 (e ▸ hm126)
  have hn233 : q21 ≠ q141 := fun e => hn169 (e ▸ hm126)
  have hf234 := (fr173 q21 hm126 hn127).trans hf125
  have hm229 := sb174 _ hm126
  have hn236 : q22 ≠ q138 := fun e => hn160 (e ▸ hm129)
  have hn237 : q22 ≠ q139 := fun e => hn163 (e ▸ hm129)
  have hn238 : q22 ≠ q140 := fun e => hn166 (e ▸ hm129)
  have hn239 : q22 ≠ q141 := fun e => hn169 (e ▸ hm129)
  have hf240 := (fr173 q22 hm129 hn130).trans hf128
  have hm235 := sb174 _ hm129
  have hn242 : q23 ≠ q138 := fun e => hn160 (e ▸ hm132)
  have hn243 : q23 ≠ q139 := fun e => hn163 (e ▸ hm132)
  have hn244 : q23 ≠ q140 := fun e => hn166 (e ▸ hm132)
  have hn245 : q23 ≠ q141 := fun e => hn169 (e ▸ hm132)
  have hf246 := (fr173 q23 hm132 hn133).trans hf131
  have hm241 := sb174 _ hm132
  have hn248 : q90 ≠ q138 := fun e => hn160 (e ▸ hm95)
  have hn249 : q90 ≠ q139 := fun e => hn163 (e ▸ hm95)
  have hn250 : q90 ≠ q140 := fun e => hn166 (e ▸ hm95)
  have hn251 : q90 ≠ q141 := fun e => hn169 (e ▸ hm95)
  have hm247 := sb174 _ hm95
  refine lv_astore_n (lv' := [(2, .ref q90), (1, .ref q1), (0, .ref b)]) hx hb dL_law_15 rfl hl (by decide) rfl (fun ls hl => ?_)
  refine lv_iconst (v := 1) hx hb dL_law_16 (by decide) ?_
  refine pl_newa (atype := .long) (ty := .long) (N' := 1) (a0 := (1, .inr (.inl (fun _ => 0)))) hx hb (hts _ (mT wg_403)) rfl hG.1 hP hD hS hA 1 rfl (fun _ h => h) (fun _ => rfl) (by decide) (by decide) (Nat.le_of_ble_eq_true rfl) (Nat.le_of_ble_eq_true rfl) (Nat.le_of_ble_eq_true rfl) dL_law_17 (fun q252 H L253 f254 hq255 hs256 hm257 hf258 ho259 hP hD hS => ?_)
  have hf260 := (ho259 q1 hm175).trans hf180
  have hn262 : q1 ≠ q252 := fun e => hq255 (e ▸ hm175)
  have hm261 := hs256 _ hm175
  have hf263 := (ho259 q13 hm181).trans hf186
  have hn265 : q13 ≠ q252 := fun e => hq255 (e ▸ hm181)
  have hm264 := hs256 _ hm181
  have hf266 := (ho259 q14 hm187).trans hf192
  have hn268 : q14 ≠ q252 := fun e => hq255 (e ▸ hm187)
  have hm267 := hs256 _ hm187
  have hf269 := (ho259 q15 hm193).trans hf198
  have hn271 : q15 ≠ q252 := fun e => hq255 (e ▸ hm193)
  have hm270 := hs256 _ hm193
  have hf272 := (ho259 q16 hm199).trans hf204
  have hn274 : q16 ≠ q252 := fun e => hq255 (e ▸ hm199)
  have hm273 := hs256 _ hm199
  have hf275 := (ho259 q17 hm205).trans hf210
  have hn277 : q17 ≠ q252 := fun e => hq255 (e ▸ hm205)
  have hm276 := hs256 _ hm205
  have hf278 := (ho259 q18 hm211).trans hf216
  have hn280 : q18 ≠ q252 := fun e => hq255 (e ▸ hm211)
  have hm279 := hs256 _ hm211
  have hf281 := (ho259 q19 hm217).trans hf222
  have hn283 : q19 ≠ q252 := fun e => hq255 (e ▸ hm217)
  have hm282 := hs256 _ hm217
  have hf284 := (ho259 q20 hm223).trans hf228
  have hn286 : q20 ≠ q252 := fun e => hq255 (e ▸ hm223)
  have hm285 := hs256 _ hm223
  have hf287 := (ho259 q21 hm229).trans hf234
  have hn289 : q21 ≠ q252 := fun e => hq255 (e ▸ hm229)
  have hm288 := hs256 _ hm229
  have hf290 := (ho259 q22 hm235).trans hf240
  have hn292 : q22 ≠ q252 := fun e => hq255 (e ▸ hm235)
  have hm291 := hs256 _ hm235
  have hf293 := (ho259 q23 hm241).trans hf246
  have hn295 : q23 ≠ q252 := fun e => hq255 (e ▸ hm241)
  have hm294 := hs256 _ hm241
  have hf296 := (ho259 q90 hm247).trans hf172
  have hn298 : q90 ≠ q252 := fun e => hq255 (e ▸ hm247)
  have hm297 := hs256 _ hm247
  have hf299 := (ho259 q138 hm161).trans hf162
  have hn301 : q138 ≠ q252 := fun e => hq255 (e ▸ hm161)
  have hm300 := hs256 _ hm161
  have hf302 := (ho259 q139 hm164).trans hf165
  have hn304 : q139 ≠ q252 := fun e => hq255 (e ▸ hm164)
  have hm303 := hs256 _ hm164
  have hf305 := (ho259 q140 hm167).trans hf168
  have hn307 : q140 ≠ q252 := fun e => hq255 (e ▸ hm167)
  have hm306 := hs256 _ hm167
  have hf308 := (ho259 q141 hm170).trans hf171
  have hn310 : q141 ≠ q252 := fun e => hq255 (e ▸ hm170)
  have hm309 := hs256 _ hm170
  refine lv_astore_n (lv' := [(3, .ref q252), (2, .ref q90), (1, .ref q1), (0, .ref b)]) hx hb dL_law_19 rfl hl (by decide) rfl (fun ls hl => ?_)
  refine lv_iconst (v := 0) hx hb dL_law_20 (by decide) ?_
  refine lv_istore (lv' := [(4, .int 0), (3, .ref q252), (2, .ref q90), (1, .ref q1), (0, .ref b)]) hx hb dL_law_21 hl (by decide) rfl (fun ls hl => ?_)
  have hk_x := memP hm261 (nm hn100 (nm hn176 (nm hn177 (nm hn178 (nm hn179 List.not_mem_nil)))))
  have hk_t := memP hm264 (nm hn103 (nm hn182 (nm hn183 (nm hn184 (nm hn185 List.not_mem_nil)))))
  have hk_tb := memP hm267 (nm hn106 (nm hn188 (nm hn189 (nm hn190 (nm hn191 List.not_mem_nil)))))
  have hk_dr := memP hm270 (nm hn109 (nm hn194 (nm hn195 (nm hn196 (nm hn197 List.not_mem_nil)))))
  have hk_co := memP hm273 (nm hn112 (nm hn200 (nm hn201 (nm hn202 (nm hn203 List.not_mem_nil)))))
  have hk_dp := memP hm276 (nm hn115 (nm hn206 (nm hn207 (nm hn208 (nm hn209 List.not_mem_nil)))))
  have hk_pa := memP hm279 (nm hn118 (nm hn212 (nm hn213 (nm hn214 (nm hn215 List.not_mem_nil)))))
  have hk_pn := memP hm282 (nm hn121 (nm hn218 (nm hn219 (nm hn220 (nm hn221 List.not_mem_nil)))))
  have hk_pl := memP hm285 (nm hn124 (nm hn224 (nm hn225 (nm hn226 (nm hn227 List.not_mem_nil)))))
  have hk_nw := memP hm288 (nm hn127 (nm hn230 (nm hn231 (nm hn232 (nm hn233 List.not_mem_nil)))))
  have hk_ac := memP hm291 (nm hn130 (nm hn236 (nm hn237 (nm hn238 (nm hn239 List.not_mem_nil)))))
  have hk_rf := memP hm294 (nm hn133 (nm hn242 (nm hn243 (nm hn244 (nm hn245 List.not_mem_nil)))))
  have hk_mo := memN (ms := [q90, q138, q139, q140, q141]) hm297 (by simp)
  have hk_ar1 := memN (ms := [q90, q138, q139, q140, q141]) hm300 (by simp)
  have hk_ar7 := memN (ms := [q90, q138, q139, q140, q141]) hm303 (by simp)
  have hk_ar11 := memN (ms := [q90, q138, q139, q140, q141]) hm306 (by simp)
  have hk_ar49 := memN (ms := [q90, q138, q139, q140, q141]) hm309 (by simp)
  have hX : FX g f254 _ q1 q13 q14 q15 q16 q24 q17 q18 q19 q20 q31 q25 q26 q21 q32 q33 q34 q35 q36 q37 q38 q39 q40 q27 q28 q22 q41 q29 q30 q23 := ⟨hk_x, hf260, hk_t, hf263, hk_tb, hf266, hk_dr, hf269, hk_co, hf272, hk_dp, hf275, hk_pa, hf278, hk_pn, hf281, hk_pl, hf284, hk_nw, hf287, hk_ac, hf290, hk_rf, hf293⟩
  have hM : FM g f254 _ q90 q138 q139 q142 q140 q143 q144 q145 q146 q147 q148 q149 q150 q151 q152 q153 q154 q155 q156 q157 q141 q158 q159 := ⟨hk_mo, hf296, hk_ar1, hf299, hk_ar7, hf302, hk_ar11, hf305, hk_ar49, hf308⟩
  have hPx := sub_P (fun a => !([q90, q138, q139, q140, q141].contains a)) hP
  have hDx := sub_D (fun a => !([q90, q138, q139, q140, q141].contains a)) hD
  have hPm := sub_P (fun a => [q90, q138, q139, q140, q141].contains a) hP
  have hDm := sub_D (fun a => [q90, q138, q139, q140, q141].contains a) hD
  have hdis := disPN L253 [q90, q138, q139, q140, q141]
  refine W.widen (k := 1000) (n := 200000) (Nat.le_of_ble_eq_true rfl) (Nat.le_of_ble_eq_true rfl) ?_
  refine lv_iload hx hb dL_law_23 (lv_at hl 0 rfl) ?_
  refine lv_aload_n hx hb dL_law_25 rfl (lv_at hl 4 rfl) ?_
  refine va_slen hx hb hXs hbl hbA hS dL_law_26 ?_
  refine lv_bipush (v := 6) hx hb dL_law_27 (by decide) ?_
  refine lv_isub hx hb dL_law_29 ?_
  refine lv_topi (fun y1 ey1 => ?_)
  by_cases h6 : L = 6
  ·
    subst h6
    obtain rfl : y1 = 0 := ey1.trans (by decide)
    refine lv_icmp_gt (tgt := 1367) hx hb dL_law_30 (by decide) (fun c1 => absurd c1 (by decide)) (fun c1 => ?_)
    refine lv_aload_n hx hb dL_law_33 rfl (lv_at hl 4 rfl) ?_
    refine lv_iload hx hb dL_law_34 (lv_at hl 0 rfl) ?_
    refine va_sld hx hb hXs hbl hbA hS (i := 0) (by unfold vp_in; decide) dL_law_36 ?_
    refine lv_bipush (v := 63) hx hb dL_law_37 (by decide) ?_
    refine lv_iand hx hb dL_law_39 ?_
    refine lv_topi (fun y2 ey2 => ?_)
    by_cases cw0 : y2 = 0
    · rw [cw0]
      refine lv_tableIn (off := 168) (tgt := 208) hx hb dL_law_40 (by decide) (by decide) (by decide) (by decide) ?_
      exact law_c0 l C0 htr hG hE hPx hDx hPm hDm hdis hS hX hM hl
    by_cases cw1 : y2 = 1
    · rw [cw1]
      refine lv_tableIn (off := 241) (tgt := 281) hx hb dL_law_40 (by decide) (by decide) (by decide) (by decide) ?_
      exact law_c1 l C0 htr hG hE hPx hDx hPm hDm hdis hS hX hM hl
    by_cases cw2 : y2 = 2
    · rw [cw2]
      refine lv_tableIn (off := 266) (tgt := 306) hx hb dL_law_40 (by decide) (by decide) (by decide) (by decide) ?_
      exact law_c2 l C0 htr hG hE hPx hDx hPm hDm hdis hS hX hM hl
    by_cases cw3 : y2 = 3
    · rw [cw3]
      refine lv_tableIn (off := 291) (tgt := 331) hx hb dL_law_40 (by decide) (by decide) (by decide) (by decide) ?_
      exact law_c3 l C0 htr hG hE hPx hDx hPm hDm hdis hS hX hM hl
    by_cases cw4 : y2 = 4
    · rw [cw4]
      refine lv_tableIn (off := 348) (tgt := 388) hx hb dL_law_40 (by decide) (by decide) (by decide) (by decide) ?_
      exact law_c4 l C0 htr hG hE hPx hDx hPm hDm hdis hS hX hM hl
    by_cases cw5 : y2 = 5
    · rw [cw5]
      refine lv_tableIn (off := 361) (tgt := 401) hx hb dL_law_40 (by decide) (by decide) (by decide) (by decide) ?_
      exact law_c5 l C0 htr hG hE hPx hDx hPm hDm hdis hS hX hM hl
    by_cases cw6 : y2 = 6
    · rw [cw6]
      refine lv_tableIn (off := 386) (tgt := 426) hx hb dL_law_40 (by decide) (by decide) (by decide) (by decide) ?_
      exact law_c6 l C0 htr hG hE hPx hDx hPm hDm hdis hS hX hM hl
    by_cases cw7 : y2 = 7
    · rw [cw7]
      refine lv_tableIn (off := 454) (tgt := 494) hx hb dL_law_40 (by decide) (by decide) (by decide) (by decide) ?_
      exact law_c7 l C0 htr hG hE hPx hDx hPm hDm hdis hS hX hM hl
    by_cases cw8 : y2 = 8
    · rw [cw8]
      refine lv_tableIn (off := 467) (tgt := 507) hx hb dL_law_40 (by decide) (by decide) (by decide) (by decide) ?_
      exact law_c8 l C0 htr hG hE hPx hDx hPm hDm hdis hS hX hM hl
    by_cases cw9 : y2 = 9
    · rw [cw9]
      refine lv_tableIn (off := 480) (tgt := 520) hx hb dL_law_40 (by decide) (by decide) (by decide) (by decide) ?_
      exact law_c9 l C0 htr hG hE hPx hDx hPm hDm hdis hS hX hM hl
    by_cases cw10 : y2 = 10
    · rw [cw10]
      refine lv_tableIn (off := 553) (tgt := 593) hx hb dL_law_40 (by decide) (by decide) (by decide) (by decide) ?_
      exact law_c10 l C0 htr hG hE hPx hDx hPm hDm hdis hS hX hM hl
    by_cases cw11 : y2 = 11
    · rw [cw11]
      refine lv_tableIn (off := 578) (tgt := 618) hx hb dL_law_40 (by decide) (by decide) (by decide) (by decide) ?_
      exact law_c11 l C0 htr hG hE hPx hDx hPm hDm hdis hS hX hM hl
    by_cases cw12 : y2 = 12
    · rw [cw12]
      refine lv_tableIn (off := 603) (tgt := 643) hx hb dL_law_40 (by decide) (by decide) (by decide) (by decide) ?_
      exact law_c12 l C0 htr hG hE hPx hDx hPm hDm hdis hS hX hM hl
    by_cases cw13 : y2 = 13
    · rw [cw13]
      refine lv_tableIn (off := 664) (tgt := 704) hx hb dL_law_40 (by decide) (by decide) (by decide) (by decide) ?_
      exact law_c13 l C0 htr hG hE hPx hDx hPm hDm hdis hS hX hM hl
    by_cases cw14 : y2 = 14
    · rw [cw14]
      refine lv_tableIn (off := 701) (tgt := 741) hx hb dL_law_40 (by decide) (by decide) (by decide) (by decide) ?_
      exact law_c14 l C0 htr hG hE hPx hDx hPm hDm hdis hS hX hM hl
    by_cases cw15 : y2 = 15
    · rw [cw15]
      refine lv_tableIn (off := 750) (tgt := 790) hx hb dL_law_40 (by decide) (by decide) (by decide) (by decide) ?_
      exact law_c15 l C0 htr hG hE hPx hDx hPm hDm hdis hS hX hM hl
    by_cases cw16 : y2 = 16
    · rw [cw16]
      refine lv_tableIn (off := 763) (tgt := 803) hx hb dL_law_40 (by decide) (by decide) (by decide) (by decide) ?_
      exact law_c16 l C0 htr hG hE hPx hDx hPm hDm hdis hS hX hM hl
    by_cases cw17 : y2 = 17
    · rw [cw17]
      refine lv_tableIn (off := 788) (tgt := 828) hx hb dL_law_40 (by decide) (by decide) (by decide) (by decide) ?_
      exact law_c17 l C0 htr hG hE hPx hDx hPm hDm hdis hS hX hM hl
    by_cases cw18 : y2 = 18
    · rw [cw18]
      refine lv_tableIn (off := 813) (tgt := 853) hx hb dL_law_40 (by decide) (by decide) (by decide) (by decide) ?_
      exact law_c18 l C0 htr hG hE hPx hDx hPm hDm hdis hS hX hM hl
    by_cases cw19 : y2 = 19
    · rw [cw19]
      refine lv_tableIn (off := 826) (tgt := 866) hx hb dL_law_40 (by decide) (by decide) (by decide) (by decide) ?_
      exact law_c19 l C0 htr hG hE hPx hDx hPm hDm hdis hS hX hM hl
    by_cases cw20 : y2 = 20
    · rw [cw20]
      refine lv_tableIn (off := 863) (tgt := 903) hx hb dL_law_40 (by decide) (by decide) (by decide) (by decide) ?_
      exact law_c20 l C0 htr hG hE hPx hDx hPm hDm hdis hS hX hM hl
    by_cases cw21 : y2 = 21
    · rw [cw21]
      refine lv_tableIn (off := 876) (tgt := 916) hx hb dL_law_40 (by decide) (by decide) (by decide) (by decide) ?_
      exact law_c21 l C0 htr hG hE hPx hDx hPm hDm hdis hS hX hM hl
    by_cases cw22 : y2 = 22
    · rw [cw22]
      refine lv_tableIn (off := 889) (tgt := 929) hx hb dL_law_40 (by decide) (by decide) (by decide) (by decide) ?_
      exact law_c22 l C0 htr hG hE hPx hDx hPm hDm hdis hS hX hM hl
    by_cases cw23 : y2 = 23
    · rw [cw23]
      refine lv_tableIn (off := 914) (tgt := 954) hx hb dL_law_40 (by decide) (by decide) (by decide) (by decide) ?_
      exact law_c23 l C0 htr hG hE hPx hDx hPm hDm hdis hS hX hM hl
    by_cases cw24 : y2 = 24
    · rw [cw24]
      refine lv_tableIn (off := 939) (tgt := 979) hx hb dL_law_40 (by decide) (by decide) (by decide) (by decide) ?_
      exact law_c24 l C0 htr hG hE hPx hDx hPm hDm hdis hS hX hM hl
    by_cases cw25 : y2 = 25
    · rw [cw25]
      refine lv_tableIn (off := 964) (tgt := 1004) hx hb dL_law_40 (by decide) (by decide) (by decide) (by decide) ?_
      exact law_c25 l C0 htr hG hE hPx hDx hPm hDm hdis hS hX hM hl
    by_cases cw26 : y2 = 26
    · rw [cw26]
      refine lv_tableIn (off := 977) (tgt := 1017) hx hb dL_law_40 (by decide) (by decide) (by decide) (by decide) ?_
      exact law_c26 l C0 htr hG hE hPx hDx hPm hDm hdis hS hX hM hl
    by_cases cw27 : y2 = 27
    · rw [cw27]
      refine lv_tableIn (off := 1014) (tgt := 1054) hx hb dL_law_40 (by decide) (by decide) (by decide) (by decide) ?_
      exact law_c27 l C0 htr hG hE hPx hDx hPm hDm hdis hS hX hM hl
    by_cases cw28 : y2 = 28
    · rw [cw28]
      refine lv_tableIn (off := 1051) (tgt := 1091) hx hb dL_law_40 (by decide) (by decide) (by decide) (by decide) ?_
      exact law_c28 l C0 htr hG hE hPx hDx hPm hDm hdis hS hX hM hl
    by_cases cw29 : y2 = 29
    · rw [cw29]
      refine lv_tableIn (off := 1064) (tgt := 1104) hx hb dL_law_40 (by decide) (by decide) (by decide) (by decide) ?_
      exact law_c29 l C0 htr hG hE hPx hDx hPm hDm hdis hS hX hM hl
    by_cases cw30 : y2 = 30
    · rw [cw30]
      refine lv_tableIn (off := 1089) (tgt := 1129) hx hb dL_law_40 (by decide) (by decide) (by decide) (by decide) ?_
      exact law_c30 l C0 htr hG hE hPx hDx hPm hDm hdis hS hX hM hl
    by_cases cw31 : y2 = 31
    · rw [cw31]
      refine lv_tableIn (off := 1170) (tgt := 1210) hx hb dL_law_40 (by decide) (by decide) (by decide) (by decide) ?_
      exact law_c31 l C0 htr hG hE hPx hDx hPm hDm hdis hS hX hM hl
    by_cases cw32 : y2 = 32
    · rw [cw32]
      refine lv_tableIn (off := 1207) (tgt := 1247) hx hb dL_law_40 (by decide) (by decide) (by decide) (by decide) ?_
      exact law_c32 l C0 htr hG hE hPx hDx hPm hDm hdis hS hX hM hl
    by_cases cw33 : y2 = 33
    · rw [cw33]
      refine lv_tableIn (off := 1220) (tgt := 1260) hx hb dL_law_40 (by decide) (by decide) (by decide) (by decide) ?_
      exact law_c33 l C0 htr hG hE hPx hDx hPm hDm hdis hS hX hM hl
    by_cases cw34 : y2 = 34
    · rw [cw34]
      refine lv_tableIn (off := 1233) (tgt := 1273) hx hb dL_law_40 (by decide) (by decide) (by decide) (by decide) ?_
      exact law_c34 l C0 htr hG hE hPx hDx hPm hDm hdis hS hX hM hl
    by_cases cw35 : y2 = 35
    · rw [cw35]
      refine lv_tableIn (off := 1246) (tgt := 1286) hx hb dL_law_40 (by decide) (by decide) (by decide) (by decide) ?_
      exact law_c35 l C0 htr hG hE hPx hDx hPm hDm hdis hS hX hM hl
    by_cases cw36 : y2 = 36
    · rw [cw36]
      refine lv_tableIn (off := 1271) (tgt := 1311) hx hb dL_law_40 (by decide) (by decide) (by decide) (by decide) ?_
      exact law_c36 l C0 htr hG hE hPx hDx hPm hDm hdis hS hX hM hl
    by_cases cw37 : y2 = 37
    · rw [cw37]
      refine lv_tableIn (off := 1296) (tgt := 1336) hx hb dL_law_40 (by decide) (by decide) (by decide) (by decide) ?_
      exact law_c37 l C0 htr hG hE hPx hDx hPm hDm hdis hS hX hM hl
    refine lv_tableOut (tgt := 1361) hx hb dL_law_40 (tb_out (by decide) (by decide) (fun k h1 h2 => ?_)) (by decide) ?_
    · rcases (show k = 0 ∨ k = 1 ∨ k = 2 ∨ k = 3 ∨ k = 4 ∨ k = 5 ∨ k = 6 ∨ k = 7 ∨ k = 8 ∨ k = 9 ∨ k = 10 ∨ k = 11 ∨ k = 12 ∨ k = 13 ∨ k = 14 ∨ k = 15 ∨ k = 16 ∨ k = 17 ∨ k = 18 ∨ k = 19 ∨ k = 20 ∨ k = 21 ∨ k = 22 ∨ k = 23 ∨ k = 24 ∨ k = 25 ∨ k = 26 ∨ k = 27 ∨ k = 28 ∨ k = 29 ∨ k = 30 ∨ k = 31 ∨ k = 32 ∨ k = 33 ∨ k = 34 ∨ k = 35 ∨ k = 36 ∨ k = 37 by omega) with rfl | rfl | rfl | rfl | rfl | rfl | rfl | rfl | rfl | rfl | rfl | rfl | rfl | rfl | rfl | rfl | rfl | rfl | rfl | rfl | rfl | rfl | rfl | rfl | rfl | rfl | rfl | rfl | rfl | rfl | rfl | rfl | rfl | rfl | rfl | rfl | rfl | rfl
      · exact fun e => cw0 (e.trans (by decide))
      · exact fun e => cw1 (e.trans (by decide))
      · exact fun e => cw2 (e.trans (by decide))
      · exact fun e => cw3 (e.trans (by decide))
      · exact fun e => cw4 (e.trans (by decide))
      · exact fun e => cw5 (e.trans (by decide))
      · exact fun e => cw6 (e.trans (by decide))
      · exact fun e => cw7 (e.trans (by decide))
      · exact fun e => cw8 (e.trans (by decide))
      · exact fun e => cw9 (e.trans (by decide))
      · exact fun e => cw10 (e.trans (by decide))
      · exact fun e => cw11 (e.trans (by decide))
      · exact fun e => cw12 (e.trans (by decide))
      · exact fun e => cw13 (e.trans (by decide))
      · exact fun e => cw14 (e.trans (by decide))
      · exact fun e => cw15 (e.trans (by decide))
      · exact fun e => cw16 (e.trans (by decide))
      · exact fun e => cw17 (e.trans (by decide))
      · exact fun e => cw18 (e.trans (by decide))
      · exact fun e => cw19 (e.trans (by decide))
      · exact fun e => cw20 (e.trans (by decide))
      · exact fun e => cw21 (e.trans (by decide))
      · exact fun e => cw22 (e.trans (by decide))
      · exact fun e => cw23 (e.trans (by decide))
      · exact fun e => cw24 (e.trans (by decide))
      · exact fun e => cw25 (e.trans (by decide))
      · exact fun e => cw26 (e.trans (by decide))
      · exact fun e => cw27 (e.trans (by decide))
      · exact fun e => cw28 (e.trans (by decide))
      · exact fun e => cw29 (e.trans (by decide))
      · exact fun e => cw30 (e.trans (by decide))
      · exact fun e => cw31 (e.trans (by decide))
      · exact fun e => cw32 (e.trans (by decide))
      · exact fun e => cw33 (e.trans (by decide))
      · exact fun e => cw34 (e.trans (by decide))
      · exact fun e => cw35 (e.trans (by decide))
      · exact fun e => cw36 (e.trans (by decide))
      · exact fun e => cw37 (e.trans (by decide))
    exact law_end l C0 (Nat.le_of_ble_eq_true rfl) (Nat.le_of_ble_eq_true rfl) hS (lv_sub hl [0, 4] rfl)
  ·
    have hy : y1 < 0 := by
      rcases (show L = 0 ∨ L = 1 ∨ L = 2 ∨ L = 3 ∨ L = 4 ∨ L = 5 by omega) with rfl | rfl | rfl | rfl | rfl | rfl <;> (rw [ey1]; decide)
    refine lv_icmp_gt (tgt := 1367) hx hb dL_law_30 (by decide) (fun c1 => ?_) (fun c1 => absurd hy c1)
    refine lv_iconst (v := 1) hx hb dL_law_1367 (by decide) ?_
    refine va_forget (fun q hq => hS.2.2 q hq) (W.widen (k := 600002) (n := 7302232) (Nat.le_of_ble_eq_true rfl) (Nat.le_of_ble_eq_true rfl) ?_)
    exact lw_ret hx hb hr hlocks dL_law_1368
set_option maxHeartbeats 4000000 in
theorem lw_walk (l : Launch) (hflags : l.flags = flags0) (b : Addr) (xs : List Int32) : MetFree l x (headSpec (Jvm.Cond.code x code maxLocals ret :: tables_1) room_1) (lw_P b xs) (fun _ _ _ _ _ => True) lw_Q := by
  refine MetFree.of_bodyS (code := code) (maxLocals := maxLocals) (ret := ret) (by decide) ?_ ?_
  · intro args s m h hn
    obtain ⟨meth, c, h1, h2, h3, h4, h5, h6, -, -⟩ := Cond.code_spec hn (atoms_spec (ws := Jvm.Cond.code x code maxLocals ret :: tables_1) h _ List.mem_cons_self)
    exact ⟨meth, c, h1, h2, h3, h4, h5, h6⟩
  · intro p e s m args below meth c s₁ B hml0 hP _
    obtain ⟨rfl, hx, hbd, hgv⟩ := hP
    obtain ⟨scr, harrAt, hlist, hof, hsmall⟩ := hx
    obtain ⟨hcb, hkn, -, -⟩ := State.arrayAt?_spec harrAt
    have hown : s.vm.findClass R_law = some m.cls := findClass_of_methodNamed B.named
    have hts0 : ∀ c ∈ (Jvm.Cond.code x code maxLocals ret :: tables_1), c.before #[Value.ref b] s = true := atoms_spec (ws := Jvm.Cond.code x code maxLocals ret :: tables_1) B.pre
    have hts : ∀ w ∈ lw_tbl, w.before #[Value.ref b] s = true := k2_hts_sels lw_privs (fun w hw => hts0 w (List.mem_cons_of_mem _ hw)) lw_privs_ok
    have hml : c.maxLocals = 7 := B.maxLocals_eq (hts0 _ List.mem_cons_self)
    have X₀ : Stand p l e room_1 s m #[Value.ref b] below meth c s₁ [] 0 0 := Stand.of_body B
    have hh0 : s₁.heap = s.heap := by rw [B.state]; rfl
    have hsz : scr.slots.size = xs.length := by rw [← Array.length_toList, hlist, List.length_map]
    have hval : ∀ j : Nat, j < xs.length → scr.slots[j]? = some (.int (xs.getD j 0)) := fun j hj => by
      rw [← Array.getElem?_toList, hlist]
      simp [hj]
    have hbl : b < s.heap.size := (Array.getElem?_eq_some_iff.mp hcb).1
    have hX : va_X b xs.length (fun j => xs.getD j 0) s s.heap := ⟨scr, hcb, hof, hkn, hsz, hval⟩
    have K : W p l e room_1 s m #[Value.ref b] below meth c s₁.heap [] 0 0 (lw_Z below #[Value.ref b] s) (entryFrame m ([Value.ref b] : List Value).toArray 7) := by
      rw [hh0]
      exact whole_start l hflags hbd ⟨B.exec, B.bytes, B.returns, hml, hown, hts, hX, hbl, B.notSynchronized, hgv⟩
    obtain ⟨t, a1, o, b1, b2, b3⟩ := K s₁ rfl X₀
    exact ⟨t, o, a1, b1, b2, b3⟩
theorem lw_pre_spec {args : Array Value} {s : State} (h : (Jvm.Cond.and given_1 narrow_1).before args s = true) (hr : rest_1_c.before args s = true) : ∃ (b : Addr) (xs : List Int32), lw_P b xs args s := by
  have hs := flat_of_before _ h
  have hq := flat_of_before _ hr
  have hc : (Cond.count 1).before args s = true := hs _ (by decide +kernel)
  have harr : (Cond.arrayOf (.arg 0) .int).before args s = true := hs _ (by decide +kernel)
  have hle : (Cond.le (.length (.arg 0)) (.int 6)).before args s = true := hs _ (by decide +kernel)
  have hlen : (Cond.isInt (.length (.arg 0))).before args s = true := hq _ (by decide +kernel)
  have hall : (Cond.all (.arg 0) (.isInt (.elem (.arg 0) (.index 0)))).before args s = true := hq _ (by decide +kernel)
  obtain ⟨b, xs, hb, hx⟩ := State.ints_of_pre rfl harr hlen hall
  have hsm : xs.length < 2 ^ 31 := hx.choose_spec.2.2.2
  have hev : (Term.length (.arg 0)).eval args s none [] s = some (.int xs.length.toInt32) := hx.length_eval hb
  have hv := Cond.le_ints hev (show (Term.int 6).eval args s none [] s = some (.int 6) from rfl)
  have hd : xs.length.toInt32 ≤ 6 := by
    simpa [Cond.before, Cond.holds, hv] using hle
  have hN : xs.length ≤ 6 := (Int32.ofNat_le_ofNat hsm (by decide)).mp (show Int32.ofNat xs.length ≤ Int32.ofNat 6 from hd)
  exact ⟨b, xs, Cond.one_arg hc (show args[0]? = some (.ref b) from hb), hx, hN, h⟩
theorem lw_comes (l : Launch) (hflags : l.flags = flags0) : Comes l x (Jvm.Cond.code x code maxLocals ret :: tables_1) room_1 (fun tb e args s => Calls_1 tb e args s ∧ rest_1 tb e args s ∧ Pre_1 tb e args s)
    (fun _ _ args s o t => lw_Q args s o t) := by
  intro p e ha hc hk s m args below hf hfit hheap happ hpre
  obtain ⟨b, xs, hP⟩ := lw_pre_spec hpre.2.2 hpre.2.1
  obtain ⟨k, o, h1, h2, h3, hQ⟩ := lw_walk l hflags b xs p e ha hc hk s m args below hf ((Spec.applies_iff_loose hf).mp happ).1 hP trivial
  exact ⟨k, o, h1, h2, h3, hQ⟩
theorem lw_frame {s t : State} {o : Outcome} {args : Array Value} (h : Framed s o t [] 600002 7302232) :
    Framed s o t (fieldLocs frame_1_writes args s ++ arrayLocs frame_1_arrays args s ++ staticLocs frame_1_statics s) 600002 7302232 := h
theorem lw_limb (L : Cond) (hL : ∀ (args : Array Value) (s t : State), L.after args s (.returned (some (.int 1))) t = true) :
    ArmFor flags0 classFile x code maxLocals ret World_1 tables_1 room_1 Calls_1 rest_1 Pre_1
      (fun tb e a s o t => postC L tb e a s o t ∧ Framed s o t (fieldLocs frame_1_writes a s ++ arrayLocs frame_1_arrays a s ++ staticLocs frame_1_statics s) 600002 7302232) := by
  intro l hflags _ _ p e ha hc hk s m args below hf hfit hheap happ hpre
  obtain ⟨k, o, h1, h2, h3, rfl, hF⟩ := lw_comes l hflags p e ha hc hk s m args below hf hfit hheap happ hpre
  exact ⟨k, _, h1, h2, h3, hL args s _, lw_frame hF⟩
theorem i_vc : Claimed_1_1 ∧ Claimed_1_2 := ⟨lw_limb limb_1_1 (fun args s t => by simp [limb_1_1, Cond.after, Cond.holds, Cond.value]), lw_limb limb_1_2 (fun args s t => Cond.after_iff.mpr (by
  first | (rw [show limb_1_2 = Cond.eq .result (.int 1) from rfl, Cond.eq_ints (x := 1) (y := 1) rfl rfl]; simp; done) | (simp [limb_1_2, Cond.value, Term.eval]; done)))⟩
