/-! the class's ghosts: what holds between calls -/
def capI (z n : Int) : Prop := z = 0 ∨ z + 2 ≤ 2 ^ n.toNat
def gok (th : Nat → Int) (a b : Nat) : Prop := (0 ≤ th b ∧ th b ≤ 6 * rnd (th 2)) ∧ capI (th a) (th 3)
def CIv (th : Nat → Int) : Prop := gok th 200 300 ∧ (th 1 = 1 → gok th 201 301) ∧ (0 ≤ th 5 ∧ th 5 < 20 ∧ 0 ≤ th 6 ∧ th 6 ≤ 20) ∧ ∀ i : Nat, (i : Int) < th 6 → gok th (203 + ((th 5).toNat + 20 - i) % 20) (303 + ((th 5).toNat + 20 - i) % 20)
def SBC (th th' : Nat → Int) : Prop := ∀ k, 10 ≤ k → k < 100 → th' k = th k
def SBM (th th' : Nat → Int) : Prop := ∀ k, ¬ (10 ≤ k ∧ k < 100) → th' k = th k
def SBK (th th' : Nat → Int) : Prop := (∀ k, k ≠ 5 → k ≠ 6 → k < 200 → th' k = th k) ∧ th' 200 = th 200 ∧ th' 300 = th 300
theorem SBC.rf (th : Nat → Int) : SBC th th := fun _ _ _ => rfl
theorem SBC.set {th a : Nat → Int} {k : Nat} {v : Int} (h : SBC th a) (hk : ¬ (10 ≤ k ∧ k < 100)) : SBC th (gset a k v) := fun q h1 h2 => (gset_ne (fun e => hk (by omega))).trans (h q h1 h2)
theorem SBC.trans {a b c : Nat → Int} (h : SBC a b) (h' : SBC b c) : SBC a c := fun q h1 h2 => (h' q h1 h2).trans (h q h1 h2)
theorem SBM.rf (th : Nat → Int) : SBM th th := fun _ _ => rfl
theorem SBM.set {th a : Nat → Int} {k : Nat} {v : Int} (h : SBM th a) (hk : 10 ≤ k ∧ k < 100) : SBM th (gset a k v) := fun q h1 => (gset_ne (fun e => h1 (by omega))).trans (h q h1)
theorem SBM.trans {a b c : Nat → Int} (h : SBM a b) (h' : SBM b c) : SBM a c := fun q h1 => (h' q h1).trans (h q h1)
theorem SBK.c {th th' : Nat → Int} (h : SBK th th') : SBC th th' := fun q h1 h2 => h.1 q (by omega) (by omega) (by omega)
theorem gok.of {th th' : Nat → Int} {a b a' b' : Nat} (h : gok th a b) (h2 : th' 2 = th 2) (h3 : th' 3 = th 3) (ea : th' a' = th a) (eb : th' b' = th b) : gok th' a' b' := by
  unfold gok at h ⊢
  rw [h2, h3, ea, eb]; exact h
theorem CIv.m {th th' : Nat → Int} (h : CIv th) (s : SBM th th') : CIv th' := by
  have e : ∀ k, ¬ (10 ≤ k ∧ k < 100) → th' k = th k := s
  have e1 := e 1 (by omega)
  have e2 := e 2 (by omega)
  have e3 := e 3 (by omega)
  have e5 := e 5 (by omega)
  have e6 := e 6 (by omega)
  obtain ⟨c1, c2, c3, c4⟩ := h
  refine ⟨c1.of e2 e3 (e _ (by omega)) (e _ (by omega)), fun q => (c2 (by rw [← e1]; exact q)).of e2 e3 (e _ (by omega)) (e _ (by omega)), by rw [e5, e6]; exact c3, fun i hi => ?_⟩
  rw [e6] at hi
  rw [e5]
  exact (c4 i hi).of e2 e3 (e _ (by omega)) (e _ (by omega))
theorem gset_eq (th : Nat → Int) (k : Nat) (v : Int) : gset th k v k = v := by unfold gset; rw [if_pos rfl]
theorem CIv.set {th : Nat → Int} {k : Nat} {v : Int} (h : CIv th) (hk : k = 4 ∨ (7 ≤ k ∧ k < 100) ∨ k = 202 ∨ k = 302) : CIv (gset th k v) := by
  have e : ∀ q, q ≠ k → gset th k v q = th q := fun q hq => gset_ne hq
  obtain ⟨c1, c2, c3, c4⟩ := h
  have e2 := e 2 (by omega)
  have e3 := e 3 (by omega)
  refine ⟨c1.of e2 e3 (e _ (by omega)) (e _ (by omega)), fun q => (c2 (by rw [← e 1 (by omega)]; exact q)).of e2 e3 (e _ (by omega)) (e _ (by omega)), by rw [e 5 (by omega), e 6 (by omega)]; exact c3, fun i hi => ?_⟩
  rw [e 6 (by omega)] at hi
  rw [e 5 (by omega)]
  exact (c4 i hi).of e2 e3 (e _ (by omega)) (e _ (by omega))
theorem CIv.gone {th : Nat → Int} {v : Int} (h : CIv th) (h1 : 0 ≤ v ∧ v ≤ 6 * rnd (th 2)) : CIv (gset th (300 + 0) v) := by
  have e : ∀ q, q ≠ 300 → gset th (300 + 0) v q = th q := fun q hq => gset_ne hq
  have e0 : gset th (300 + 0) v 300 = v := gset_eq _ _ _
  obtain ⟨c1, c2, c3, c4⟩ := h
  have e2 := e 2 (by omega)
  have e3 := e 3 (by omega)
  refine ⟨⟨by rw [e0, e2]; exact h1, by rw [e3, e 200 (by omega)]; exact c1.2⟩, fun q => (c2 (by rw [← e 1 (by omega)]; exact q)).of e2 e3 (e _ (by omega)) (e _ (by omega)), by rw [e 5 (by omega), e 6 (by omega)]; exact c3, fun i hi => ?_⟩
  rw [e 6 (by omega)] at hi
  rw [e 5 (by omega)]
  exact (c4 i hi).of e2 e3 (e _ (by omega)) (e _ (by omega))
theorem CIv.fals {th : Nat → Int} {v : Int} (h : CIv th) (h1 : capI v (th 3)) : CIv (gset th (200 + 0) v) := by
  have e : ∀ q, q ≠ 200 → gset th (200 + 0) v q = th q := fun q hq => gset_ne hq
  have e0 : gset th (200 + 0) v 200 = v := gset_eq _ _ _
  obtain ⟨c1, c2, c3, c4⟩ := h
  have e2 := e 2 (by omega)
  have e3 := e 3 (by omega)
  refine ⟨⟨by rw [e2, e 300 (by omega)]; exact c1.1, by rw [e3, e0]; exact h1⟩, fun q => (c2 (by rw [← e 1 (by omega)]; exact q)).of e2 e3 (e _ (by omega)) (e _ (by omega)), by rw [e 5 (by omega), e 6 (by omega)]; exact c3, fun i hi => ?_⟩
  rw [e 6 (by omega)] at hi
  rw [e 5 (by omega)]
  exact (c4 i hi).of e2 e3 (e _ (by omega)) (e _ (by omega))
theorem CIv.keep {th th' : Nat → Int} {m d : Int} {k : Nat} (h : CIv th) (hk : (k : Int) = 3 + m) (hm : m = (th 5 + 1) % 20) (hd : d = min (th 6 + 1) 20) (e5 : th' 5 = m) (e6 : th' 6 = d) (ea : th' (200 + k) = th 200) (eb : th' (300 + k) = th 300) (ho : ∀ q, q ≠ 5 → q ≠ 6 → q ≠ 200 + k → q ≠ 300 + k → th' q = th q) : CIv th' ∧ SBK th th' := by
  obtain ⟨c1, c2, ⟨c3, c3b, c3c, c3d⟩, c4⟩ := h
  have hm0 : 0 ≤ m ∧ m < 20 := by omega
  have hk3 : 3 ≤ k ∧ k < 23 := by omega
  have e2 := ho 2 (by omega) (by omega) (by omega) (by omega)
  have e3 := ho 3 (by omega) (by omega) (by omega) (by omega)
  refine ⟨⟨c1.of e2 e3 (ho _ (by omega) (by omega) (by omega) (by omega)) (ho _ (by omega) (by omega) (by omega) (by omega)), fun q => (c2 (by rw [← ho 1 (by omega) (by omega) (by omega) (by omega)]; exact q)).of e2 e3 (ho _ (by omega) (by omega) (by omega) (by omega)) (ho _ (by omega) (by omega) (by omega) (by omega)), by rw [e5, e6]; omega, fun i hi => ?_⟩, fun q a b c => ho q a b (by omega) (by omega), ho _ (by omega) (by omega) (by omega) (by omega), ho _ (by omega) (by omega) (by omega) (by omega)⟩
  rw [e6] at hi
  rw [e5]
  by_cases q : i = 0
  · subst q
    have z : 203 + (m.toNat + 20 - 0) % 20 = 200 + k := by omega
    have z2 : 303 + (m.toNat + 20 - 0) % 20 = 300 + k := by omega
    rw [z, z2]
    exact c1.of e2 e3 ea eb
  · have g := c4 (i - 1) (by omega)
    have z : (m.toNat + 20 - i) % 20 = ((th 5).toNat + 20 - (i - 1)) % 20 := by omega
    have z3 : (m.toNat + 20 - i) % 20 ≠ m.toNat := by omega
    rw [← z] at g
    exact g.of e2 e3 (ho _ (by omega) (by omega) (by omega) (by omega)) (ho _ (by omega) (by omega) (by omega) (by omega))
theorem CIv.tback {th th' : Nat → Int} {m d : Int} {k : Nat} (h : CIv th) (hk : (k : Int) = 3 + th 5) (hm : m = (th 5 + 20 - 1) % 20) (h6 : 1 ≤ th 6) (hd : d = th 6 - 1) (e5 : th' 5 = m) (e6 : th' 6 = d) (ea : th' 200 = th (200 + k)) (eb : th' 300 = th (300 + k)) (ho : ∀ q, q ≠ 5 → q ≠ 6 → q ≠ 200 → q ≠ 300 → th' q = th q) : CIv th' ∧ SBC th th' := by
  obtain ⟨c1, c2, ⟨c3, c3b, c3c, c3d⟩, c4⟩ := h
  have hk3 : 3 ≤ k ∧ k < 23 := by omega
  have e2 := ho 2 (by omega) (by omega) (by omega) (by omega)
  have e3 := ho 3 (by omega) (by omega) (by omega) (by omega)
  have g0 := c4 0 (by omega)
  have z : 203 + ((th 5).toNat + 20 - 0) % 20 = 200 + k := by omega
  have z2 : 303 + ((th 5).toNat + 20 - 0) % 20 = 300 + k := by omega
  rw [z, z2] at g0
  refine ⟨⟨g0.of e2 e3 ea eb, fun q => (c2 (by rw [← ho 1 (by omega) (by omega) (by omega) (by omega)]; exact q)).of e2 e3 (ho _ (by omega) (by omega) (by omega) (by omega)) (ho _ (by omega) (by omega) (by omega) (by omega)), by rw [e5, e6]; omega, fun i hi => ?_⟩, fun q a b => ho q (by omega) (by omega) (by omega) (by omega)⟩
  rw [e6] at hi
  rw [e5]
  have g := c4 (i + 1) (by omega)
  have z : (m.toNat + 20 - i) % 20 = ((th 5).toNat + 20 - (i + 1)) % 20 := by omega
  rw [← z] at g
  exact g.of e2 e3 (ho _ (by omega) (by omega) (by omega) (by omega)) (ho _ (by omega) (by omega) (by omega) (by omega))
theorem CIv.img {th th' : Nat → Int} (h : CIv th) (e1 : th' 1 = 1) (ea : th' 201 = th 200) (eb : th' 301 = th 300) (ho : ∀ q, q ≠ 1 → q ≠ 201 → q ≠ 301 → th' q = th q) : CIv th' ∧ SBC th th' := by
  obtain ⟨c1, c2, c3, c4⟩ := h
  have e2 := ho 2 (by omega) (by omega) (by omega)
  have e3 := ho 3 (by omega) (by omega) (by omega)
  refine ⟨⟨c1.of e2 e3 (ho _ (by omega) (by omega) (by omega)) (ho _ (by omega) (by omega) (by omega)), fun q => c1.of e2 e3 ea eb, by rw [ho 5 (by omega) (by omega) (by omega), ho 6 (by omega) (by omega) (by omega)]; exact c3, fun i hi => ?_⟩, fun q a b => ho q (by omega) (by omega) (by omega)⟩
  rw [ho 6 (by omega) (by omega) (by omega)] at hi
  rw [ho 5 (by omega) (by omega) (by omega)]
  exact (c4 i hi).of e2 e3 (ho _ (by omega) (by omega) (by omega)) (ho _ (by omega) (by omega) (by omega))
theorem CIv.back {th th' : Nat → Int} (h : CIv th) (h1 : th 1 = 1) (e6 : th' 6 = 0) (ea : th' 200 = th 201) (eb : th' 300 = th 301) (ho : ∀ q, q ≠ 6 → q ≠ 200 → q ≠ 300 → th' q = th q) : CIv th' ∧ SBC th th' := by
  obtain ⟨c1, c2, c3, c4⟩ := h
  have e2 := ho 2 (by omega) (by omega) (by omega)
  have e3 := ho 3 (by omega) (by omega) (by omega)
  have g := c2 h1
  refine ⟨⟨g.of e2 e3 ea eb, fun q => g.of e2 e3 (ho _ (by omega) (by omega) (by omega)) (ho _ (by omega) (by omega) (by omega)), by rw [ho 5 (by omega) (by omega) (by omega), e6]; omega, fun i hi => ?_⟩, fun q a b => ho q (by omega) (by omega) (by omega)⟩
  rw [e6] at hi
  omega
theorem CIv.new {th th' : Nat → Int} (h : CIv th) (e1 : th' 1 = 0) (e6 : th' 6 = 0) (ea : capI (th' 200) (th' 3)) (eb : th' 300 = 0) (e5 : th' 5 = th 5) (hm : ∀ q, 10 ≤ q → q < 100 → th' q = th q) : CIv th' ∧ SBC th th' := by
  obtain ⟨c1, c2, c3, c4⟩ := h
  refine ⟨⟨⟨by rw [eb]; rcases rnd_c (th' 2) with q | q <;> rw [q] <;> omega, ea⟩, fun q => by rw [e1] at q; omega, by rw [e5, e6]; omega, fun i hi => ?_⟩, hm⟩
  rw [e6] at hi
  omega
theorem rem_e {x y k : Int32} {n : Int} (e : x = y - y / k * k) (hk : k.toInt = n) (hn : 0 < n) (hy : 0 ≤ y.toInt) : x.toInt = y.toInt % n := by
  have d := i32_divT (x := y) (y := k) hy (by omega)
  have hb := y.toInt_lt
  rw [hk] at d
  have z : 0 ≤ y.toInt / n := Int.ediv_nonneg hy (by omega)
  have t2 : y.toInt / n * n ≤ y.toInt := Int.ediv_mul_le _ (by omega)
  have t0 : 0 ≤ y.toInt / n * n := Int.mul_nonneg z (by omega)
  have m := i32_mulT (x := y / k) (y := k) (by rw [d, hk]; omega) (by rw [d, hk]; omega)
  have s := i32_subT (x := y) (y := y / k * k) (by rw [m, d, hk]; omega) (by rw [m, d, hk]; omega)
  rw [e, s, m, d, hk]
  have r3 := Int.emod_def y.toInt n
  have r4 : n * (y.toInt / n) = y.toInt / n * n := Int.mul_comm _ _
  omega
theorem min_e {x y z : Int32} (e : z = if y < x then y else x) : z.toInt = min x.toInt y.toInt := by
  rw [e]
  split <;> rename_i q <;> rw [i32_lt] at q <;> omega
