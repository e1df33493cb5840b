/-! THE START: a world for the tables -/
def RP : List (String × Nat) := [("RulerWord$Council", 42), ("RulerWord$Council", 48), ("RulerWord$Council", 97), ("RulerWord$Council", 98), ("RulerWord$Council", 99), ("RulerWord$Council", 100), ("RulerWord$Council", 101), ("RulerWord$Council", 103), ("RulerWord$Plan", 63), ("RulerWord$Plan", 65), ("RulerWord$Plan", 67), ("RulerWord$Plan", 69), ("RulerWord$Plan", 71), ("RulerWord$Plan", 73), ("RulerWord$Plan", 75), ("RulerWord$Plan", 77), ("RulerWord", 354), ("RulerWord", 412), ("RulerWord", 414), ("RulerWord", 416), ("RulerWord", 418), ("RulerWord", 420), ("RulerWord", 360), ("RulerWord", 362), ("RulerWord", 364), ("RulerWord", 366), ("RulerWord", 368), ("RulerWord", 370), ("RulerWord", 376), ("RulerWord", 378), ("RulerWordModel", 417)]
def tmS (i : Nat) : Term := .string (RP.getD i ("", 0)).1 (RP.getD i ("", 0)).2
abbrev valS (i : Nat) : Term := .field (tmS i) "java/lang/String" "value" "[B"
theorem st_len : ∀ i, i < nS → lenS.getD i 0 < 2 ^ 31 := by decide +kernel
theorem st_ex : ∀ i, i < nS → Cond.exactly (tmS i) "java/lang/String" ∈ flatC narrow_1 := by decide +kernel
theorem st_co : ∀ i, i < nS → Cond.eq (.field (tmS i) "java/lang/String" "coder" "B") (.int 0) ∈ flatC narrow_1 := by decide +kernel
theorem st_ar : ∀ i, i < nS → Cond.arrayOf (valS i) .byte ∈ flatC narrow_1 := by decide +kernel
theorem st_le : ∀ i, i < nS → Cond.eq (.length (valS i)) (.int (Int32.ofNat (lenS.getD i 0))) ∈ flatC narrow_1 := by decide +kernel
theorem st_el : ∀ i, i < nS → ∀ j, j < lenS.getD i 0 → Cond.eq (.elem (valS i) (.int (Int32.ofNat j))) (.int ((bytS.getD i []).getD j 0)) ∈ flatC narrow_1 := by decide +kernel
theorem st_rf : ∀ q ∈ SR, Cond.stringRef q.1 q.2.1 q.2.2.1 ∈ lw_tbl := by decide +kernel
theorem st_eq : ∀ q ∈ SR, q.2.2.2 < nS ∧ (Term.string q.1 q.2.1 = tmS q.2.2.2 ∨ Cond.eq (tmS q.2.2.2) (.string q.1 q.2.1) ∈ flatC narrow_1) := by decide +kernel
theorem world_s {args : Array Value} {s : State} {A : Nat → Prop} (hn : ∀ w ∈ flatC narrow_1, w.before args s = true) (hA : ∀ a : Nat, a < s.heap.size → ¬ A a) : ∃ ad : Nat → Nat × Nat, ∀ i, i < nS → (tmS i).eval args s none [] s = some (.ref (ad i).1) ∧ va_O "java/lang/String" (ad i).1 A s s.heap ∧ va_OF "java/lang/String" "coder" "B" (.int 0) (ad i).1 A s s.heap ∧ va_OF "java/lang/String" "value" "[B" (.ref (ad i).2) (ad i).1 A s s.heap ∧ va_T .byte (ad i).2 (lenS.getD i 0) (fun j => .int ((bytS.getD i []).getD j 0)) A s s.heap := by
  have h0 : ∀ i : Nat, ∃ q : Nat × Nat, i < nS → (tmS i).eval args s none [] s = some (.ref q.1) ∧ va_O "java/lang/String" q.1 A s s.heap ∧ va_OF "java/lang/String" "coder" "B" (.int 0) q.1 A s s.heap ∧ va_OF "java/lang/String" "value" "[B" (.ref q.2) q.1 A s s.heap ∧ va_T .byte q.2 (lenS.getD i 0) (fun j => .int ((bytS.getD i []).getD j 0)) A s s.heap := by
    intro i
    by_cases hi : i < nS
    · obtain ⟨a, c, cA, kA, q1, q2, q3, q4, q5, q6, -⟩ := Cond.exactly_spec (args := args) (first := s) (o := none) (s := s) (idx := []) (t := tmS i) (cls := "java/lang/String") (hn _ (st_ex i hi))
      obtain ⟨t, ht, hT⟩ := va_Tof (f := fun j => .int ((bytS.getD i []).getD j 0)) (A := A) (st_len i hi) (hn _ (st_ar i hi)) (va_eqt (hn _ (st_le i hi))) (fun j hj => va_eqt (hn _ (st_el i hi j hj))) hA
      exact ⟨(a, t), fun _ => ⟨q1, ⟨cA, q3, q5, by rw [q6]; exact q2, hA a (Array.getElem?_eq_some_iff.mp q3).1⟩, vk_OFof q1 (va_eqt (hn _ (st_co i hi))) hA, vk_OFof q1 ht hA, hT⟩⟩
    · exact ⟨(0, 0), fun h => absurd h hi⟩
  obtain ⟨ad, had⟩ := Classical.axiomOfChoice h0
  exact ⟨ad, fun i hi => had i hi⟩
theorem arr_of {args : Array Value} {s : State} {ty : FieldType} (hp : ∀ C, ty ≠ .object C) (h : (Cond.arrayClass ty).before args s = true) : ∃ cA : ClassId, ArrOfT s cA ty ∧ va_RA s cA ty := by
  obtain ⟨c, k, comp, h1, h2, h3⟩ := Cond.arrayClass_spec h
  refine ⟨c, fun n z => ⟨(fun k h => by cases h), k, h2, comp, h3⟩, ?_⟩
  cases ty with
  | object C => exact absurd rfl (hp C)
  | _ => exact h1
theorem arr_ofC {args : Array Value} {s : State} {C : String} (h : (Cond.arrayOver (.object C)).before args s = true) : ∃ cA : ClassId, ArrOfT s cA (.object C) ∧ va_RA s cA (.object C) := by
  obtain ⟨comp, c, k, h1, h2, h3, h4, h5⟩ := Cond.arrayOver_spec h
  exact ⟨c, fun n z => ⟨(fun k h => by cases h), k, h3, comp, h4⟩, k, comp, h3, h4, h1, h5⟩
theorem lw_of {w : Cond} (h : w ∈ GW) : w ∈ lw_tbl := (List.mem_filter.mp h).1
theorem world {args : Array Value} {s : State} {A : Nat → Prop} (hts : ∀ w ∈ lw_tbl, w.before args s = true) (hgv : (Jvm.Cond.and given_1 narrow_1).before args s = true) (hA : ∀ a : Nat, a < s.heap.size → ¬ A a) : ∃ g : GG, GK g s ∧ SW g A s s.heap := by
  have hf := flat_of_before _ hgv
  have hn : ∀ w ∈ flatC narrow_1, w.before args s = true := fun w hw => hf w (by
    show w ∈ flatC given_1 ++ flatC narrow_1
    exact List.mem_append_right _ hw)
  obtain ⟨ad, had⟩ := world_s hn hA
  obtain ⟨c0, i0, hkn0⟩ := u_known (C := RX0) (T := TX0) (N := 3) (n := 3) hts (fun w h => lw_of (inX0 w h)) (hts _ (lw_of wg_405))
  obtain ⟨c1, i1, hkn1⟩ := u_known (C := RX1) (T := TX1) (N := 2) (n := 2) hts (fun w h => lw_of (inX1 w h)) (hts _ (lw_of wg_304))
  obtain ⟨c2, i2, hkn2⟩ := u_known (C := RX2) (T := TX2) (N := 8) (n := 8) hts (fun w h => lw_of (inX2 w h)) (hts _ (lw_of wg_219))
  obtain ⟨c3, i3, hkn3⟩ := u_known (C := RX3) (T := TX3) (N := 18) (n := 18) hts (fun w h => lw_of (inX3 w h)) (hts _ (lw_of wg_330))
  obtain ⟨c4, i4, hkn4⟩ := u_known (C := RX4) (T := TX4) (N := 4) (n := 4) hts (fun w h => lw_of (inX4 w h)) (hts _ (lw_of wg_313))
  obtain ⟨c5, i5, hkn5⟩ := u_known (C := RX5) (T := TX5) (N := 2) (n := 2) hts (fun w h => lw_of (inX5 w h)) (hts _ (lw_of wg_264))
  obtain ⟨c6, i6, hkn6⟩ := u_known (C := RX6) (T := TX6) (N := 3) (n := 3) hts (fun w h => lw_of (inX6 w h)) (hts _ (lw_of wg_278))
  obtain ⟨c7, i7, hkn7⟩ := u_known (C := RX7) (T := TX7) (N := 14) (n := 14) hts (fun w h => lw_of (inX7 w h)) (hts _ (lw_of wg_425))
  obtain ⟨c8, i8, hkn8⟩ := u_known (C := RX8) (T := TX8) (N := 5) (n := 5) hts (fun w h => lw_of (inX8 w h)) (hts _ (lw_of wg_190))
  obtain ⟨c9, i9, hkn9⟩ := u_known (C := RX10) (T := TX10) (N := 18) (n := 18) hts (fun w h => lw_of (inX10 w h)) (hts _ (lw_of wg_182))
  obtain ⟨c10, i10, hkn10⟩ := u_known (C := RX11) (T := TX11) (N := 56) (n := 56) hts (fun w h => lw_of (inX11 w h)) (hts _ (lw_of wg_1330))
  have hk : ∀ k : Nat, ∃ q : ClassId × (Nat → Nat), ∀ r, vwCl[k]? = some r → u_Kn s r.1 r.2.1 r.2.2 q.1 q.2 := by
    intro k
    match k with
    | 0 => exact ⟨(c0, i0), fun r h => by cases h; exact hkn0⟩
    | 1 => exact ⟨(c1, i1), fun r h => by cases h; exact hkn1⟩
    | 2 => exact ⟨(c2, i2), fun r h => by cases h; exact hkn2⟩
    | 3 => exact ⟨(c3, i3), fun r h => by cases h; exact hkn3⟩
    | 4 => exact ⟨(c4, i4), fun r h => by cases h; exact hkn4⟩
    | 5 => exact ⟨(c5, i5), fun r h => by cases h; exact hkn5⟩
    | 6 => exact ⟨(c6, i6), fun r h => by cases h; exact hkn6⟩
    | 7 => exact ⟨(c7, i7), fun r h => by cases h; exact hkn7⟩
    | 8 => exact ⟨(c8, i8), fun r h => by cases h; exact hkn8⟩
    | 9 => exact ⟨(c9, i9), fun r h => by cases h; exact hkn9⟩
    | 10 => exact ⟨(c10, i10), fun r h => by cases h; exact hkn10⟩
    | k + 11 => exact ⟨(0, fun _ => 0), fun r h => by simp [vwCl] at h⟩
  obtain ⟨dd, hdd⟩ := Classical.axiomOfChoice hk
  obtain ⟨t0, ht0⟩ := arr_of (ty := .int) (fun C h => by cases h) (hts _ (lw_of wg_217))
  obtain ⟨t1, ht1⟩ := arr_of (ty := .long) (fun C h => by cases h) (hts _ (lw_of wg_403))
  obtain ⟨t2, ht2⟩ := arr_of (ty := .byte) (fun C h => by cases h) (hts _ (lw_of wg_705))
  obtain ⟨t3, ht3⟩ := arr_of (ty := .boolean) (fun C h => by cases h) (hts _ (lw_of wg_1505))
  have hao : (Cond.arrayOver (.object "RulerWord$Course")).before args s = true := hts _ (List.mem_of_getElem? (i := 411) (by decide +kernel))
  obtain ⟨t4, ht4⟩ := arr_ofC hao
  refine ⟨((fun k => (dd k).1, fun k => (dd k).2), fun k => if k = 0 then t0 else if k = 1 then t1 else if k = 2 then t2 else if k = 3 then t3 else t4, fun i => (ad i).1, fun i => (ad i).2), ⟨⟨fun k r h => hdd k r h, ?_⟩, fun w hw => va_Nw.of (nest_on (List.mem_filter.mp hw).2) (hts w (List.mem_filter.mp hw).1), fun q hq => ?_, va_AO.of hao⟩, fun i hi => (had i hi).2, ?_, ?_, ?_⟩
  · intro k q hq
    match k with
    | 0 => cases hq; exact ht0
    | 1 => cases hq; exact ht1
    | 2 => cases hq; exact ht2
    | 3 => cases hq; exact ht3
    | 4 => cases hq; exact ht4
    | k + 5 => simp [tyG] at hq
  · obtain ⟨h1, h2⟩ := st_eq q hq
    refine vk_R.of (A := args) (hts _ (st_rf q hq)) ?_
    rcases h2 with h2 | h2
    · rw [h2]; exact (had _ h1).1
    · obtain ⟨w, g1, g2⟩ := Cond.eq_one (show (Cond.eq (tmS q.2.2.2) (.string q.1 q.2.1)).holds args s none s [] = true from hn _ h2)
      rw [(had _ h1).1] at g1
      rw [g2]
      exact g1.symm
  · exact va_Zof (hts _ (List.mem_of_getElem? (i := 583) (by decide +kernel))) (hts _ (List.mem_of_getElem? (i := 169) (by decide +kernel))) (va_eqt (hn _ (by decide +kernel))) hA
  · exact vx_Zqof (hts _ (List.mem_of_getElem? (i := 1291) (by decide +kernel))) (hts _ (List.mem_of_getElem? (i := 174) (by decide +kernel))) (hn _ (by decide +kernel)) hA
  · exact ⟨vx_Zqof (hts _ (List.mem_of_getElem? (i := 1293) (by decide +kernel))) (hts _ (List.mem_of_getElem? (i := 174) (by decide +kernel))) (hn _ (by decide +kernel)) hA, va_Zqof (hts _ (List.mem_of_getElem? (i := 599) (by decide +kernel))) (hts _ (List.mem_of_getElem? (i := 171) (by decide +kernel))) (hn _ (by decide +kernel)) hA⟩
