theorem slen_t {LL : Nat} (h : LL ≤ 3072) : (Int32.ofNat LL).toInt = (LL : Int) := Int32.toInt_ofNat_of_lt (by omega)
set_option maxHeartbeats 4000000 in
set_option maxRecDepth 100000 in
theorem law_loop {p : Program} {e : Env} {s : State} {m : MethodId} {below : List Frame} {meth : Method} {c : Code} (l : Launch) {b LL : Nat} {xs : Nat → Int32} (C0 : lw_At p s m meth c b LL xs) (hLL : LL ≤ 3072) (htr : l.stackTraces = false) {g : GG} (hG : GK g s) (hE : SW g (fun q : Nat => s.heap.size ≤ q) s s.heap) {L : List Nat} {ad : Nat → Nat} (hst : ST ad L) : ∀ (n k : Nat) (i : Int32) (th : Nat → Int) (f : HP) (H : Heap) (locs : List Loc) (ls : Array Slot), TI g ad th f → CIv th → MI th → va_P g.1 vwCl (va_pl L f) H → va_D (fun q : Nat => s.heap.size ≤ q) (va_pl L f) → va_S (fun q : Nat => s.heap.size ≤ q) s.heap H locs → lv_has ls 7 [(4, .int i), (3, .ref (ad 278)), (2, .ref (ad 255)), (1, .ref (ad 0)), (0, .ref b)] → i.toInt = 6 * (k : Int) → k ≤ 512 → 512 < n + k → W p l e room_1 s m #[Value.ref b] below meth c H locs (1000 + k) (200000 + 6 * k) (lw_Z below #[Value.ref b] s) (F0 m 23 ls []) := by
  have hCC := C0
  obtain ⟨hx, hb, hr, hml, hown, hts0, hXs, hbl, hlocks, hgv⟩ := C0
  have hown : s.vm.findClass "RulerWordLaw" = some m.cls := hown
  have hts := hts1 hts0
  have hA : ∀ q, s.heap.size ≤ q → (fun q : Nat => s.heap.size ≤ q) q := fun _ h => h
  have hbA : ¬ (fun q : Nat => s.heap.size ≤ q) b := Nat.not_le.mpr hbl
  intro n
  induction n with
  | zero => exact fun k i th f H locs ls _ _ _ _ _ _ _ _ h1 h2 => absurd h2 (by omega)
  | succ n ih =>
    intro k i th f H locs ls hT hC hM hP hD hS hl hi hk hn
    have hfin : W p l e room_1 s m #[Value.ref b] below meth c H locs (1000 + k) (200000 + 6 * k) (lw_Z below #[Value.ref b] s) (F0 m 1339 ls []) := by
      refine lv_iconst (v := 1) hx hb dL_law_1339 (by decide) ?_
      refine va_forget (fun q hq => hS.2.2 q hq) (W.widen (k := 601024) (n := 7293034) (by show 1000 + k ≤ _; omega) (by show 200000 + 6 * k ≤ _; omega) ?_)
      exact lw_ret hx hb hr hlocks dL_law_1340
    refine lv_iload hx hb dL_law_23 (lv_at hl 0 rfl) ?_
    refine lv_aload_n hx hb dL_law_25 rfl (lv_at hl 4 rfl) ?_
    refine va_slen hx hb hXs hbl hbA hS dL_law_26 ?_
    refine lv_bipush (v := 6) hx hb dL_law_27 (by decide) ?_
    refine lv_isub hx hb dL_law_29 ?_
    refine lv_topi (fun y1 ey1 => ?_)
    have hy1 : y1.toInt = (LL : Int) - 6 := by
      rw [ey1, i32_subT (by rw [slen_t hLL]; have : (6 : Int32).toInt = 6 := (by decide); omega) (by rw [slen_t hLL]; have : (6 : Int32).toInt = 6 := (by decide); omega), slen_t hLL]
      rfl
    refine lv_icmp_gt (tgt := 1339) hx hb dL_law_30 (by decide) (fun c1 => hfin) (fun c1 => ?_)
    have hle : i.toInt + 6 ≤ (LL : Int) := by
      have := i32_nlt c1
      omega
    have hk1 : k ≤ 511 := by omega
    have hi0 : 0 ≤ i.toInt := by omega
    refine lv_aload_n hx hb dL_law_33 rfl (lv_at hl 4 rfl) ?_
    refine lv_iload hx hb dL_law_34 (lv_at hl 0 rfl) ?_
    refine va_sld hx hb hXs hbl hbA hS (i := i) (vp_of (by omega) (by omega)) dL_law_36 ?_
    refine lv_topi (fun y0 ey0 => ?_)
    refine lv_bipush (v := 63) hx hb dL_law_37 (by decide) ?_
    refine lv_iand hx hb dL_law_39 ?_
    refine lv_topi (fun y2 ey2 => ?_)
    have K : ∀ (th : Nat → Int) (f : HP) (H : Heap) (locs : List Loc) (ls : Array Slot), TI g ad th f → CIv th → MI th → va_P g.1 vwCl (va_pl L f) H → va_D (fun q : Nat => s.heap.size ≤ q) (va_pl L f) → va_S (fun q : Nat => s.heap.size ≤ q) s.heap H locs → lv_has ls 7 [(4, .int i), (3, .ref (ad 278)), (2, .ref (ad 255)), (1, .ref (ad 0)), (0, .ref b)] → W p l e room_1 s m #[Value.ref b] below meth c H locs (1001 + k) (200006 + 6 * k) (lw_Z below #[Value.ref b] s) (F0 m 1333 ls []) := by
      intro th f H locs ls hT hC hM hP hD hS hl
      obtain ⟨i2, ei2⟩ : ∃ y : Int32, y = i + 6 := ⟨_, rfl⟩
      have hi2 : i2.toInt = i.toInt + 6 := In.adde (a := 0) (b := 3072) ei2 ⟨hi0, by omega⟩ (k := 6) (by decide) (by decide) (by decide)
      refine lv_iinc (v := i2) (lv' := [(4, .int i2), (3, .ref (ad 278)), (2, .ref (ad 255)), (1, .ref (ad 0)), (0, .ref b)]) hx hb dL_law_1333 hl (k := 0) rfl (by rw [ei2]; rfl) (by decide) rfl (fun ls hl => ?_)
      refine lv_goto (tgt := 23) hx hb dL_law_1336 (by decide) ?_
      have e1 : 1001 + k = 1000 + (k + 1) := by omega
      have e2 : 200006 + 6 * k = 200000 + 6 * (k + 1) := by omega
      rw [e1, e2]
      exact ih (k + 1) i2 th f H locs ls hT hC hM hP hD hS hl (by rw [hi2, hi]; omega) (by omega) (by omega)
    by_cases cw0 : y2 = 0
    · rw [cw0]
      refine lv_tableIn (off := 168) (tgt := 208) hx hb dL_law_40 (by decide) (by decide) (by decide) (by decide) ?_
      exact law_c0 l hCC htr hG hE hst hk1 hi0 hle hLL hT hC hM hP hD hS hl K
    by_cases cw1 : y2 = 1
    · rw [cw1]
      refine lv_tableIn (off := 241) (tgt := 281) hx hb dL_law_40 (by decide) (by decide) (by decide) (by decide) ?_
      exact law_c1 l hCC htr hG hE hst hk1 hi0 hle hLL hT hC hM hP hD hS hl K
    by_cases cw2 : y2 = 2
    · rw [cw2]
      refine lv_tableIn (off := 266) (tgt := 306) hx hb dL_law_40 (by decide) (by decide) (by decide) (by decide) ?_
      exact law_c2 l hCC htr hG hE hst hk1 hi0 hle hLL hT hC hM hP hD hS hl K
    by_cases cw3 : y2 = 3
    · rw [cw3]
      refine lv_tableIn (off := 291) (tgt := 331) hx hb dL_law_40 (by decide) (by decide) (by decide) (by decide) ?_
      exact law_c3 l hCC htr hG hE hst hk1 hi0 hle hLL hT hC hM hP hD hS hl K
    by_cases cw4 : y2 = 4
    · rw [cw4]
      refine lv_tableIn (off := 348) (tgt := 388) hx hb dL_law_40 (by decide) (by decide) (by decide) (by decide) ?_
      exact law_c4 l hCC htr hG hE hst hk1 hi0 hle hLL hT hC hM hP hD hS hl K
    by_cases cw5 : y2 = 5
    · rw [cw5]
      refine lv_tableIn (off := 361) (tgt := 401) hx hb dL_law_40 (by decide) (by decide) (by decide) (by decide) ?_
      exact law_c5 l hCC htr hG hE hst hk1 hi0 hle hLL hT hC hM hP hD hS hl K
    by_cases cw6 : y2 = 6
    · rw [cw6]
      refine lv_tableIn (off := 386) (tgt := 426) hx hb dL_law_40 (by decide) (by decide) (by decide) (by decide) ?_
      exact law_c6 l hCC htr hG hE hst hk1 hi0 hle hLL hT hC hM hP hD hS hl K
    by_cases cw7 : y2 = 7
    · rw [cw7]
      refine lv_tableIn (off := 426) (tgt := 466) hx hb dL_law_40 (by decide) (by decide) (by decide) (by decide) ?_
      exact law_c7 l hCC htr hG hE hst hk1 hi0 hle hLL hT hC hM hP hD hS hl K
    by_cases cw8 : y2 = 8
    · rw [cw8]
      refine lv_tableIn (off := 439) (tgt := 479) hx hb dL_law_40 (by decide) (by decide) (by decide) (by decide) ?_
      exact law_c8 l hCC htr hG hE hst hk1 hi0 hle hLL hT hC hM hP hD hS hl K
    by_cases cw9 : y2 = 9
    · rw [cw9]
      refine lv_tableIn (off := 452) (tgt := 492) hx hb dL_law_40 (by decide) (by decide) (by decide) (by decide) ?_
      exact law_c9 l hCC htr hG hE hst hk1 hi0 hle hLL hT hC hM hP hD hS hl K
    by_cases cw10 : y2 = 10
    · rw [cw10]
      refine lv_tableIn (off := 525) (tgt := 565) hx hb dL_law_40 (by decide) (by decide) (by decide) (by decide) ?_
      exact law_c10 l hCC htr hG hE hst hk1 hi0 hle hLL hT hC hM hP hD hS hl K
    by_cases cw11 : y2 = 11
    · rw [cw11]
      refine lv_tableIn (off := 550) (tgt := 590) hx hb dL_law_40 (by decide) (by decide) (by decide) (by decide) ?_
      exact law_c11 l hCC htr hG hE hst hk1 hi0 hle hLL hT hC hM hP hD hS hl K
    by_cases cw12 : y2 = 12
    · rw [cw12]
      refine lv_tableIn (off := 575) (tgt := 615) hx hb dL_law_40 (by decide) (by decide) (by decide) (by decide) ?_
      exact law_c12 l hCC htr hG hE hst hk1 hi0 hle hLL hT hC hM hP hD hS hl K
    by_cases cw13 : y2 = 13
    · rw [cw13]
      refine lv_tableIn (off := 636) (tgt := 676) hx hb dL_law_40 (by decide) (by decide) (by decide) (by decide) ?_
      exact law_c13 l hCC htr hG hE hst hk1 hi0 hle hLL hT hC hM hP hD hS hl K
    by_cases cw14 : y2 = 14
    · rw [cw14]
      refine lv_tableIn (off := 673) (tgt := 713) hx hb dL_law_40 (by decide) (by decide) (by decide) (by decide) ?_
      exact law_c14 l hCC htr hG hE hst hk1 hi0 hle hLL hT hC hM hP hD hS hl K
    by_cases cw15 : y2 = 15
    · rw [cw15]
      refine lv_tableIn (off := 722) (tgt := 762) hx hb dL_law_40 (by decide) (by decide) (by decide) (by decide) ?_
      exact law_c15 l hCC htr hG hE hst hk1 hi0 hle hLL hT hC hM hP hD hS hl K
    by_cases cw16 : y2 = 16
    · rw [cw16]
      refine lv_tableIn (off := 735) (tgt := 775) hx hb dL_law_40 (by decide) (by decide) (by decide) (by decide) ?_
      exact law_c16 l hCC htr hG hE hst hk1 hi0 hle hLL hT hC hM hP hD hS hl K
    by_cases cw17 : y2 = 17
    · rw [cw17]
      refine lv_tableIn (off := 760) (tgt := 800) hx hb dL_law_40 (by decide) (by decide) (by decide) (by decide) ?_
      exact law_c17 l hCC htr hG hE hst hk1 hi0 hle hLL hT hC hM hP hD hS hl K
    by_cases cw18 : y2 = 18
    · rw [cw18]
      refine lv_tableIn (off := 785) (tgt := 825) hx hb dL_law_40 (by decide) (by decide) (by decide) (by decide) ?_
      exact law_c18 l hCC htr hG hE hst hk1 hi0 hle hLL hT hC hM hP hD hS hl K
    by_cases cw19 : y2 = 19
    · rw [cw19]
      refine lv_tableIn (off := 798) (tgt := 838) hx hb dL_law_40 (by decide) (by decide) (by decide) (by decide) ?_
      exact law_c19 l hCC htr hG hE hst hk1 hi0 hle hLL hT hC hM hP hD hS hl K
    by_cases cw20 : y2 = 20
    · rw [cw20]
      refine lv_tableIn (off := 835) (tgt := 875) hx hb dL_law_40 (by decide) (by decide) (by decide) (by decide) ?_
      exact law_c20 l hCC htr hG hE hst hk1 hi0 hle hLL hT hC hM hP hD hS hl K
    by_cases cw21 : y2 = 21
    · rw [cw21]
      refine lv_tableIn (off := 848) (tgt := 888) hx hb dL_law_40 (by decide) (by decide) (by decide) (by decide) ?_
      exact law_c21 l hCC htr hG hE hst hk1 hi0 hle hLL hT hC hM hP hD hS hl K
    by_cases cw22 : y2 = 22
    · rw [cw22]
      refine lv_tableIn (off := 861) (tgt := 901) hx hb dL_law_40 (by decide) (by decide) (by decide) (by decide) ?_
      exact law_c22 l hCC htr hG hE hst hk1 hi0 hle hLL hT hC hM hP hD hS hl K
    by_cases cw23 : y2 = 23
    · rw [cw23]
      refine lv_tableIn (off := 886) (tgt := 926) hx hb dL_law_40 (by decide) (by decide) (by decide) (by decide) ?_
      exact law_c23 l hCC htr hG hE hst hk1 hi0 hle hLL hT hC hM hP hD hS hl K
    by_cases cw24 : y2 = 24
    · rw [cw24]
      refine lv_tableIn (off := 911) (tgt := 951) hx hb dL_law_40 (by decide) (by decide) (by decide) (by decide) ?_
      exact law_c24 l hCC htr hG hE hst hk1 hi0 hle hLL hT hC hM hP hD hS hl K
    by_cases cw25 : y2 = 25
    · rw [cw25]
      refine lv_tableIn (off := 936) (tgt := 976) hx hb dL_law_40 (by decide) (by decide) (by decide) (by decide) ?_
      exact law_c25 l hCC htr hG hE hst hk1 hi0 hle hLL hT hC hM hP hD hS hl K
    by_cases cw26 : y2 = 26
    · rw [cw26]
      refine lv_tableIn (off := 949) (tgt := 989) hx hb dL_law_40 (by decide) (by decide) (by decide) (by decide) ?_
      exact law_c26 l hCC htr hG hE hst hk1 hi0 hle hLL hT hC hM hP hD hS hl K
    by_cases cw27 : y2 = 27
    · rw [cw27]
      refine lv_tableIn (off := 986) (tgt := 1026) hx hb dL_law_40 (by decide) (by decide) (by decide) (by decide) ?_
      exact law_c27 l hCC htr hG hE hst hk1 hi0 hle hLL hT hC hM hP hD hS hl K
    by_cases cw28 : y2 = 28
    · rw [cw28]
      refine lv_tableIn (off := 1023) (tgt := 1063) hx hb dL_law_40 (by decide) (by decide) (by decide) (by decide) ?_
      exact law_c28 l hCC htr hG hE hst hk1 hi0 hle hLL hT hC hM hP hD hS hl K
    by_cases cw29 : y2 = 29
    · rw [cw29]
      refine lv_tableIn (off := 1036) (tgt := 1076) hx hb dL_law_40 (by decide) (by decide) (by decide) (by decide) ?_
      exact law_c29 l hCC htr hG hE hst hk1 hi0 hle hLL hT hC hM hP hD hS hl K
    by_cases cw30 : y2 = 30
    · rw [cw30]
      refine lv_tableIn (off := 1061) (tgt := 1101) hx hb dL_law_40 (by decide) (by decide) (by decide) (by decide) ?_
      exact law_c30 l hCC htr hG hE hst hk1 hi0 hle hLL hT hC hM hP hD hS hl K
    by_cases cw31 : y2 = 31
    · rw [cw31]
      refine lv_tableIn (off := 1142) (tgt := 1182) hx hb dL_law_40 (by decide) (by decide) (by decide) (by decide) ?_
      exact law_c31 l hCC htr hG hE hst hk1 hi0 hle hLL hT hC hM hP hD hS hl K
    by_cases cw32 : y2 = 32
    · rw [cw32]
      refine lv_tableIn (off := 1179) (tgt := 1219) hx hb dL_law_40 (by decide) (by decide) (by decide) (by decide) ?_
      exact law_c32 l hCC htr hG hE hst hk1 hi0 hle hLL hT hC hM hP hD hS hl K
    by_cases cw33 : y2 = 33
    · rw [cw33]
      refine lv_tableIn (off := 1192) (tgt := 1232) hx hb dL_law_40 (by decide) (by decide) (by decide) (by decide) ?_
      exact law_c33 l hCC htr hG hE hst hk1 hi0 hle hLL hT hC hM hP hD hS hl K
    by_cases cw34 : y2 = 34
    · rw [cw34]
      refine lv_tableIn (off := 1205) (tgt := 1245) hx hb dL_law_40 (by decide) (by decide) (by decide) (by decide) ?_
      exact law_c34 l hCC htr hG hE hst hk1 hi0 hle hLL hT hC hM hP hD hS hl K
    by_cases cw35 : y2 = 35
    · rw [cw35]
      refine lv_tableIn (off := 1218) (tgt := 1258) hx hb dL_law_40 (by decide) (by decide) (by decide) (by decide) ?_
      exact law_c35 l hCC htr hG hE hst hk1 hi0 hle hLL hT hC hM hP hD hS hl K
    by_cases cw36 : y2 = 36
    · rw [cw36]
      refine lv_tableIn (off := 1243) (tgt := 1283) hx hb dL_law_40 (by decide) (by decide) (by decide) (by decide) ?_
      exact law_c36 l hCC htr hG hE hst hk1 hi0 hle hLL hT hC hM hP hD hS hl K
    by_cases cw37 : y2 = 37
    · rw [cw37]
      refine lv_tableIn (off := 1268) (tgt := 1308) hx hb dL_law_40 (by decide) (by decide) (by decide) (by decide) ?_
      exact law_c37 l hCC htr hG hE hst hk1 hi0 hle hLL hT hC hM hP hD hS hl K
    refine lv_tableOut (tgt := 1333) hx hb dL_law_40 (tb_out (by decide) (by decide) (fun k h1 h2 => ?_)) (by decide) ?_
    · rcases (show k = 0 ∨ k = 1 ∨ k = 2 ∨ k = 3 ∨ k = 4 ∨ k = 5 ∨ k = 6 ∨ k = 7 ∨ k = 8 ∨ k = 9 ∨ k = 10 ∨ k = 11 ∨ k = 12 ∨ k = 13 ∨ k = 14 ∨ k = 15 ∨ k = 16 ∨ k = 17 ∨ k = 18 ∨ k = 19 ∨ k = 20 ∨ k = 21 ∨ k = 22 ∨ k = 23 ∨ k = 24 ∨ k = 25 ∨ k = 26 ∨ k = 27 ∨ k = 28 ∨ k = 29 ∨ k = 30 ∨ k = 31 ∨ k = 32 ∨ k = 33 ∨ k = 34 ∨ k = 35 ∨ k = 36 ∨ k = 37 by omega) with rfl | rfl | rfl | rfl | rfl | rfl | rfl | rfl | rfl | rfl | rfl | rfl | rfl | rfl | rfl | rfl | rfl | rfl | rfl | rfl | rfl | rfl | rfl | rfl | rfl | rfl | rfl | rfl | rfl | rfl | rfl | rfl | rfl | rfl | rfl | rfl | rfl | rfl
      · exact fun e => cw0 (e.trans (by decide))
      · exact fun e => cw1 (e.trans (by decide))
      · exact fun e => cw2 (e.trans (by decide))
      · exact fun e => cw3 (e.trans (by decide))
      · exact fun e => cw4 (e.trans (by decide))
      · exact fun e => cw5 (e.trans (by decide))
      · exact fun e => cw6 (e.trans (by decide))
      · exact fun e => cw7 (e.trans (by decide))
      · exact fun e => cw8 (e.trans (by decide))
      · exact fun e => cw9 (e.trans (by decide))
      · exact fun e => cw10 (e.trans (by decide))
      · exact fun e => cw11 (e.trans (by decide))
      · exact fun e => cw12 (e.trans (by decide))
      · exact fun e => cw13 (e.trans (by decide))
      · exact fun e => cw14 (e.trans (by decide))
      · exact fun e => cw15 (e.trans (by decide))
      · exact fun e => cw16 (e.trans (by decide))
      · exact fun e => cw17 (e.trans (by decide))
      · exact fun e => cw18 (e.trans (by decide))
      · exact fun e => cw19 (e.trans (by decide))
      · exact fun e => cw20 (e.trans (by decide))
      · exact fun e => cw21 (e.trans (by decide))
      · exact fun e => cw22 (e.trans (by decide))
      · exact fun e => cw23 (e.trans (by decide))
      · exact fun e => cw24 (e.trans (by decide))
      · exact fun e => cw25 (e.trans (by decide))
      · exact fun e => cw26 (e.trans (by decide))
      · exact fun e => cw27 (e.trans (by decide))
      · exact fun e => cw28 (e.trans (by decide))
      · exact fun e => cw29 (e.trans (by decide))
      · exact fun e => cw30 (e.trans (by decide))
      · exact fun e => cw31 (e.trans (by decide))
      · exact fun e => cw32 (e.trans (by decide))
      · exact fun e => cw33 (e.trans (by decide))
      · exact fun e => cw34 (e.trans (by decide))
      · exact fun e => cw35 (e.trans (by decide))
      · exact fun e => cw36 (e.trans (by decide))
      · exact fun e => cw37 (e.trans (by decide))
    refine W.widen (k := 1001 + k) (n := 200006 + 6 * k) (by omega) (by omega) ?_
    exact K th f H locs ls hT hC hM hP hD hS hl
