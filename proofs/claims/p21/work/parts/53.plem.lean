/-! FREE letters, counted as they are written -/
theorem pc_ltN : ∀ n : Fin 512, ∀ s : Fin 10, (n.val = 0 ∨ n.val + 2 ≤ 2 ^ s.val) → 1 ≤ s.val → pc9 n.val < s.val := by decide +kernel
theorem pc_lt {z n : Int} (h : 0 ≤ z ∧ z ≤ 511) (hn : 1 ≤ n ∧ n ≤ 9) (c : capI z n) : 0 ≤ pcI z ∧ pcI z < n := by
  have e : pcI z = pc9 z.toNat := rfl
  unfold capI at c
  rw [ip2] at c
  have r := pc_ltN ⟨z.toNat, by omega⟩ ⟨n.toNat, by omega⟩ (by show z.toNat = 0 ∨ z.toNat + 2 ≤ 2 ^ n.toNat; omega) (by show 1 ≤ n.toNat; omega)
  have r2 : pc9 z.toNat < n.toNat := r
  omega
def frL (n L t : Int) : Nat → Int
  | 0 => 0
  | k + 1 => frL n L t k + (if bitI L ((k : Int) % n) = 1 then t else 0)
def frI (e n L m : Int) : Int := m * (e - 1) * pcI L * (n - pcI L) + frL n L (n - pcI L) m.toNat
theorem mulB {x y : Int32} {a b A B : Int} (h : In x 0 a) (g : In y 0 b) (hA : a ≤ A) (hB : b ≤ B) (h0 : 0 ≤ B) (hm : A * B ≤ 2147483647) : (x * y).toInt = x.toInt * y.toInt := by
  obtain ⟨h1, h2⟩ := h
  obtain ⟨g1, g2⟩ := g
  have t1 : 0 ≤ x.toInt * y.toInt := Int.mul_nonneg h1 g1
  have t2 : x.toInt * y.toInt ≤ A * B := Int.mul_le_mul (by omega) (by omega) g1 (by omega)
  exact i32_mulT (by omega) (by omega)
def prB (e n L k c : Int) : Bool := decide (bitI L (c / n) = 1) && decide (bitI L (c % n) = 0) && (decide (k % e ≠ e - 1) || decide (c / n = k / e % n))
def hK (e n L k : Int) : Nat → Int
  | 0 => 0
  | c + 1 => hK e n L k c + (if prB e n L k c = true then 1 else 0)
def gK (e n L : Int) : Nat → Int
  | 0 => 0
  | k + 1 => gK e n L k + hK e n L k (n * n).toNat
theorem prb_of {e n L k c : Int} (h1 : bitI L (c / n) = 1) (h2 : bitI L (c % n) = 0) (h3 : k % e ≠ e - 1 ∨ c / n = k / e % n) : prB e n L k c = true := by
  unfold prB
  rcases h3 with q | q
  · simp [h1, h2, q]
  · simp [h1, h2, ← q]
theorem hK_s {e n L k : Int} {c : Nat} : hK e n L k c ≤ hK e n L k (c + 1) := by
  show _ ≤ hK e n L k c + _
  split <;> omega
theorem hK_le {e n L k : Int} {c d : Nat} (h : c ≤ d) : hK e n L k c ≤ hK e n L k d := by
  induction d with
  | zero => rw [Nat.le_zero.mp h]; exact Int.le_refl _
  | succ d ih =>
    by_cases q : c = d + 1
    · rw [q]; exact Int.le_refl _
    · exact Int.le_trans (ih (by omega)) hK_s
theorem hK_0 {e n L k : Int} (c : Nat) : 0 ≤ hK e n L k c := hK_le (c := 0) (Nat.zero_le c)
theorem hK_i {e n L k : Int} {c : Nat} (h : prB e n L k c = true) : hK e n L k (c + 1) = hK e n L k c + 1 := by
  show hK e n L k c + _ = _
  rw [if_pos h]
theorem gK_le {e n L : Int} {c d : Nat} (h : c ≤ d) : gK e n L c ≤ gK e n L d := by
  induction d with
  | zero => rw [Nat.le_zero.mp h]; exact Int.le_refl _
  | succ d ih =>
    by_cases q : c = d + 1
    · rw [q]; exact Int.le_refl _
    · have := ih (by omega)
      have h0 := hK_0 (e := e) (n := n) (L := L) (k := d) (n * n).toNat
      show _ ≤ gK e n L d + _
      omega
/-! by numbers: every council of at most nine -/
def bN (L i : Nat) : Nat := L / 2 ^ i % 2
def cA (n L : Nat) : Nat → Nat
  | 0 => 0
  | c + 1 => cA n L c + (if bN L (c / n) = 1 ∧ bN L (c % n) = 0 then 1 else 0)
def cR (n L r : Nat) : Nat → Nat
  | 0 => 0
  | c + 1 => cR n L r c + (if c / n = r ∧ bN L (c / n) = 1 ∧ bN L (c % n) = 0 then 1 else 0)
theorem cA_N : ∀ n : Fin 10, ∀ L : Fin 512, L.val < 2 ^ n.val → cA n.val L.val (n.val * n.val) = pc9 L.val * (n.val - pc9 L.val) := by decide +kernel
theorem cR_N : ∀ n : Fin 10, ∀ L : Fin 512, L.val < 2 ^ n.val → ∀ r : Fin 6, r.val < n.val → cR n.val L.val r.val (n.val * n.val) = if bN L.val r.val = 1 then n.val - pc9 L.val else 0 := by decide +kernel
theorem bitN {L : Int} (h : 0 ≤ L) (i : Nat) : bitI L (i : Int) = (bN L.toNat i : Int) := by
  have hz : L = (L.toNat : Int) := by omega
  unfold bitI bN
  rw [show ((i : Int)).toNat = i by omega]
  conv => lhs; rw [hz]
  simp
theorem prA {e n L k : Int} {c : Nat} (hL : 0 ≤ L) (hn : 0 < n) (hk : k % e ≠ e - 1) : (prB e n L k c = true) ↔ (bN L.toNat (c / n.toNat) = 1 ∧ bN L.toNat (c % n.toNat) = 0) := by
  have e1 : (c : Int) / n = ((c / n.toNat : Nat) : Int) := by rw [show n = ((n.toNat : Nat) : Int) by omega]; simp
  have e2 : (c : Int) % n = ((c % n.toNat : Nat) : Int) := by rw [show n = ((n.toNat : Nat) : Int) by omega]; simp
  unfold prB
  rw [e1, e2, bitN hL, bitN hL]
  simp [hk]
  omega
theorem prR {e n L k : Int} {c r : Nat} (hL : 0 ≤ L) (hn : 0 < n) (hk : k % e = e - 1) (hr : k / e % n = (r : Int)) : (prB e n L k c = true) ↔ (c / n.toNat = r ∧ bN L.toNat (c / n.toNat) = 1 ∧ bN L.toNat (c % n.toNat) = 0) := by
  have e1 : (c : Int) / n = ((c / n.toNat : Nat) : Int) := by rw [show n = ((n.toNat : Nat) : Int) by omega]; simp
  have e2 : (c : Int) % n = ((c % n.toNat : Nat) : Int) := by rw [show n = ((n.toNat : Nat) : Int) by omega]; simp
  unfold prB
  rw [e1, e2, bitN hL, bitN hL, hr]
  generalize c / n.toNat = x
  generalize c % n.toNat = y
  simp [hk]
  omega
theorem hK_A {e n L k : Int} (hL : 0 ≤ L) (hn : 0 < n) (hk : k % e ≠ e - 1) (c : Nat) : hK e n L k c = (cA n.toNat L.toNat c : Int) := by
  induction c with
  | zero => rfl
  | succ c ih =>
    show hK e n L k c + _ = ((cA n.toNat L.toNat c + _ : Nat) : Int)
    rw [ih]
    by_cases q : prB e n L k c = true
    · rw [if_pos q, if_pos ((prA hL hn hk).mp q)]; simp
    · rw [if_neg q, if_neg (fun z => q ((prA hL hn hk).mpr z))]; simp
theorem hK_R {e n L k : Int} {r : Nat} (hL : 0 ≤ L) (hn : 0 < n) (hk : k % e = e - 1) (hr : k / e % n = (r : Int)) (c : Nat) : hK e n L k c = (cR n.toNat L.toNat r c : Int) := by
  induction c with
  | zero => rfl
  | succ c ih =>
    show hK e n L k c + _ = ((cR n.toNat L.toNat r c + _ : Nat) : Int)
    rw [ih]
    by_cases q : prB e n L k c = true
    · rw [if_pos q, if_pos ((prR hL hn hk hr).mp q)]; simp
    · rw [if_neg q, if_neg (fun z => q ((prR hL hn hk hr).mpr z))]; simp
theorem hK_full {e n L k : Int} (hL : 0 ≤ L ∧ L ≤ 511) (hn : 1 ≤ n ∧ n ≤ 9) (hc : capI L n) (hk : k % e ≠ e - 1) : hK e n L k (n * n).toNat = pcI L * (n - pcI L) := by
  have hp := pc_lt hL hn hc
  have h2 : L.toNat < 2 ^ n.toNat := by
    unfold capI at hc
    rw [ip2] at hc
    have : 0 < 2 ^ n.toNat := Nat.pow_pos (by decide)
    omega
  rw [hK_A hL.1 (by omega) hk]
  have r := cA_N ⟨n.toNat, by omega⟩ ⟨L.toNat, by omega⟩ h2
  have r2 : cA n.toNat L.toNat (n.toNat * n.toNat) = pc9 L.toNat * (n.toNat - pc9 L.toNat) := r
  have e : pcI L = pc9 L.toNat := rfl
  have e1 : (n * n).toNat = n.toNat * n.toNat := by
    conv => lhs; rw [show n = ((n.toNat : Nat) : Int) by omega]
    rfl
  rw [e1, r2, e]
  have e3 : ((n.toNat - pc9 L.toNat : Nat) : Int) = n - pc9 L.toNat := by omega
  rw [Int.natCast_mul, e3]
theorem hK_rule {e n L k p : Int} (hL : 0 ≤ L ∧ L ≤ 511) (hn : 1 ≤ n ∧ n ≤ 9) (hc : capI L n) (hk : k % e = e - 1) (hp0 : k / e = p) (hp : 0 ≤ p ∧ p ≤ 5) : hK e n L k (n * n).toNat = if bitI L (p % n) = 1 then n - pcI L else 0 := by
  have hpc := pc_lt hL hn hc
  have h2 : L.toNat < 2 ^ n.toNat := by
    unfold capI at hc
    rw [ip2] at hc
    have : 0 < 2 ^ n.toNat := Nat.pow_pos (by decide)
    omega
  have m0 := Int.emod_nonneg p (show n ≠ 0 by omega)
  have m1 := Int.emod_lt_of_pos p (show 0 < n by omega)
  have m2 : p % n ≤ p := by
    obtain ⟨a, ha⟩ := Int.eq_ofNat_of_zero_le hp.1
    obtain ⟨b, hb⟩ := Int.eq_ofNat_of_zero_le (show 0 ≤ n by omega)
    rw [ha, hb, ← Int.natCast_emod]; exact Int.ofNat_le.mpr (Nat.mod_le _ _)
  have hr : k / e % n = (((p % n).toNat : Nat) : Int) := by rw [hp0]; omega
  rw [hK_R hL.1 (by omega) hk hr]
  have r := cR_N ⟨n.toNat, by omega⟩ ⟨L.toNat, by omega⟩ h2 ⟨(p % n).toNat, by omega⟩ (by show (p % n).toNat < n.toNat; omega)
  have r2 : cR n.toNat L.toNat (p % n).toNat (n.toNat * n.toNat) = if bN L.toNat (p % n).toNat = 1 then n.toNat - pc9 L.toNat else 0 := r
  have e : pcI L = pc9 L.toNat := rfl
  have e1 : (n * n).toNat = n.toNat * n.toNat := by
    conv => lhs; rw [show n = ((n.toNat : Nat) : Int) by omega]
    rfl
  have e4 : bitI L (p % n) = (bN L.toNat (p % n).toNat : Int) := by
    have := bitN hL.1 (p % n).toNat
    rw [show (((p % n).toNat : Nat) : Int) = p % n by omega] at this
    exact this
  rw [e1, r2, e4]
  by_cases q : bN L.toNat (p % n).toNat = 1
  · rw [if_pos q, if_pos (by rw [q]; rfl), e]; omega
  · rw [if_neg q, if_neg (fun z => q (by omega))]; rfl
theorem gK_step2 {n L : Int} (hL : 0 ≤ L ∧ L ≤ 511) (hn : 1 ≤ n ∧ n ≤ 9) (hc : capI L n) (m : Nat) (hm : m ≤ 5) : gK 2 n L (m * 2 + 2) = gK 2 n L (m * 2) + pcI L * (n - pcI L) + (if bitI L ((m : Int) % n) = 1 then n - pcI L else 0) := by
  show gK 2 n L (m * 2) + hK 2 n L ((m * 2 : Nat) : Int) (n * n).toNat + hK 2 n L ((m * 2 + 1 : Nat) : Int) (n * n).toNat = _
  rw [hK_full hL hn hc (by omega), hK_rule (p := (m : Int)) hL hn hc (by omega) (by omega) (by omega)]
theorem gK_step3 {n L : Int} (hL : 0 ≤ L ∧ L ≤ 511) (hn : 1 ≤ n ∧ n ≤ 9) (hc : capI L n) (m : Nat) (hm : m ≤ 5) : gK 3 n L (m * 3 + 3) = gK 3 n L (m * 3) + 2 * (pcI L * (n - pcI L)) + (if bitI L ((m : Int) % n) = 1 then n - pcI L else 0) := by
  show gK 3 n L (m * 3) + hK 3 n L ((m * 3 : Nat) : Int) (n * n).toNat + hK 3 n L ((m * 3 + 1 : Nat) : Int) (n * n).toNat + hK 3 n L ((m * 3 + 2 : Nat) : Int) (n * n).toNat = _
  rw [hK_full hL hn hc (by omega), hK_full hL hn hc (by omega), hK_rule (p := (m : Int)) hL hn hc (by omega) (by omega) (by omega)]
  omega
theorem gK_fr2 {n L : Int} (hL : 0 ≤ L ∧ L ≤ 511) (hn : 1 ≤ n ∧ n ≤ 9) (hc : capI L n) (m : Nat) (hm : m ≤ 6) : gK 2 n L (m * 2) = (m : Int) * (pcI L * (n - pcI L)) + frL n L (n - pcI L) m := by
  induction m with
  | zero => simp [gK, frL]
  | succ m ih =>
    have i := ih (by omega)
    have s := gK_step2 hL hn hc m (by omega)
    rw [show (m + 1) * 2 = m * 2 + 2 by omega, s, i]
    show _ = ((m + 1 : Nat) : Int) * _ + (frL n L (n - pcI L) m + _)
    rw [show ((m + 1 : Nat) : Int) = (m : Int) + 1 by omega, Int.add_mul, Int.one_mul]
    omega
theorem gK_fr3 {n L : Int} (hL : 0 ≤ L ∧ L ≤ 511) (hn : 1 ≤ n ∧ n ≤ 9) (hc : capI L n) (m : Nat) (hm : m ≤ 6) : gK 3 n L (m * 3) = (m : Int) * (2 * (pcI L * (n - pcI L))) + frL n L (n - pcI L) m := by
  induction m with
  | zero => simp [gK, frL]
  | succ m ih =>
    have i := ih (by omega)
    have s := gK_step3 hL hn hc m (by omega)
    rw [show (m + 1) * 3 = m * 3 + 3 by omega, s, i]
    show _ = ((m + 1 : Nat) : Int) * _ + (frL n L (n - pcI L) m + _)
    rw [show ((m + 1 : Nat) : Int) = (m : Int) + 1 by omega, Int.add_mul, Int.one_mul]
    omega
theorem gK_fr {z n L m : Int} (hL : 0 ≤ L ∧ L ≤ 511) (hn : 1 ≤ n ∧ n ≤ 9) (hc : capI L n) (hm : 0 ≤ m ∧ m ≤ 6) : gK (rnd z) n L (m * rnd z).toNat = frI (rnd z) n L m := by
  unfold frI
  have em : m = ((m.toNat : Nat) : Int) := by omega
  rcases rnd_c z with q | q <;> rw [q]
  · have r := gK_fr2 hL hn hc m.toNat (by omega)
    rw [show (m * 2).toNat = m.toNat * 2 by omega, r, ← em, Int.mul_assoc m, Int.mul_assoc m]
    have : (2 - 1 : Int) * pcI L * (n - pcI L) = pcI L * (n - pcI L) := by rw [show (2 - 1 : Int) = 1 by decide, Int.one_mul]
    rw [this]
  · have r := gK_fr3 hL hn hc m.toNat (by omega)
    rw [show (m * 3).toNat = m.toNat * 3 by omega, r, ← em, Int.mul_assoc m, Int.mul_assoc m]
    have : (3 - 1 : Int) * pcI L * (n - pcI L) = 2 * (pcI L * (n - pcI L)) := by rw [show (3 - 1 : Int) = 2 by decide, Int.mul_assoc]
    rw [this]
theorem plan_b {z n L m : Int} {k c : Nat} (hL : 0 ≤ L ∧ L ≤ 511) (hn : 1 ≤ n ∧ n ≤ 9) (hc : capI L n) (hm : 0 ≤ m ∧ m ≤ 6) (hf : frI (rnd z) n L m ≤ 12) (hk : (k : Int) < m * rnd z) (hcn : (c : Int) < n * n) : gK (rnd z) n L k + hK (rnd z) n L k (c + 1) ≤ 12 ∧ 0 ≤ gK (rnd z) n L k := by
  have g := gK_fr (z := z) hL hn hc hm
  have a : hK (rnd z) n L k (c + 1) ≤ hK (rnd z) n L k (n * n).toNat := hK_le (by omega)
  have b : gK (rnd z) n L (k + 1) ≤ gK (rnd z) n L (m * rnd z).toNat := gK_le (by omega)
  have b2 : gK (rnd z) n L (k + 1) = gK (rnd z) n L k + hK (rnd z) n L k (n * n).toNat := rfl
  have d : gK (rnd z) n L 0 ≤ gK (rnd z) n L k := gK_le (Nat.zero_le k)
  have d2 : gK (rnd z) n L 0 = 0 := rfl
  refine ⟨by omega, by omega⟩
