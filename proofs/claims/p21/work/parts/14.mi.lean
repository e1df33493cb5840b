/-! rows with told places -/
theorem pinI {r : Nat → Int32} {i : Int32} {k : Nat} {lo hi : Int} (e : i.toNatClampNeg = k) (h : In (r k) lo hi) : In (r i.toNatClampNeg) lo hi := e ▸ h
theorem pinE {r : Nat → Int32} {i : Int32} {k : Nat} {z : Int} (e : i.toNatClampNeg = k) (h : (r k).toInt = z) : (r i.toNatClampNeg).toInt = z := e ▸ h
theorem upd_eqI {r r2 : Nat → Int32} {i x : Int32} {k : Nat} (e : r2 = upd r i.toNatClampNeg x) (hk : i.toNatClampNeg = k) : r2 k = x := by
  rw [e, ← hk]; simp [upd]
theorem upd_neI {r r2 : Nat → Int32} {i x : Int32} {k : Nat} (e : r2 = upd r i.toNatClampNeg x) (hk : i.toNatClampNeg ≠ k) : r2 k = r k := by
  rw [e]; simp [upd, Ne.symm hk]
theorem neN {i : Int32} {a b : Int} {k : Nat} (h : In i a b) (q : 0 ≤ a ∧ (b < (k : Int) ∨ (k : Int) < a)) : i.toNatClampNeg ≠ k := by
  obtain ⟨h1, h2⟩ := h
  have e : i.toNatClampNeg = i.toInt.toNat := rfl
  omega
theorem prw_0 {n : Nat} {v L c : Int} {r : Nat → Int32} (h : v ≤ 0) : PRW n v L c r := fun i _ q => by omega
theorem prw_at {n k : Nat} {v L c : Int} {r : Nat → Int32} {i : Int32} (h : PRW n v L c r) (e : i.toNatClampNeg = k) (hk : k < n) (hv : (k : Int) < v) (hm : k % 2126 = k) : PRED L c k (r i.toNatClampNeg) := by
  have := h k hk hv
  rw [hm] at this
  rw [e]; exact this
theorem pred_off {L c : Int} {i x : Int32} {a b : Int} (h : In i a b) (h0 : 0 ≤ a ∧ b < 2126) (h1 : b < 72 ∨ 72 < a) (h2 : b < 76 ∨ 76 < a) (h3 : b < 77 ∨ 77 < a) : PRED L c (i.toNatClampNeg % 2126) x := by
  obtain ⟨q1, q2⟩ := h
  have e : i.toNatClampNeg = i.toInt.toNat := rfl
  refine ⟨fun q => ?_, fun q => ?_, fun q => ?_⟩ <;> omega
theorem prw_set {n : Nat} {v L c : Int} {r r2 : Nat → Int32} {i x : Int32} (h : PRW n v L c r) (e : r2 = upd r i.toNatClampNeg x) (hx : PRED L c (i.toNatClampNeg % 2126) x) : PRW n v L c r2 := fun k hk hv => by
  by_cases q : i.toNatClampNeg = k
  · rw [upd_eqI e q, ← q]; exact hx
  · rw [upd_neI e q]; exact h k hk hv
theorem prw_grow {n : Nat} {v v' L c : Int} {r r2 : Nat → Int32} {i x : Int32} (h : PRW n v L c r) (e : r2 = upd r i.toNatClampNeg x) (hx : PRED L c (i.toNatClampNeg % 2126) x) (hi : (i.toNatClampNeg : Int) = v) (hv : v' = v + 1) : PRW n v' L c r2 := fun k hk hv => by
  by_cases q : i.toNatClampNeg = k
  · rw [upd_eqI e q, ← q]; exact hx
  · rw [upd_neI e q]; exact h k hk (by omega)
theorem prw_mono {n : Nat} {v v' L c : Int} {r : Nat → Int32} (h : PRW n v L c r) (hv : v' ≤ v) : PRW n v' L c r := fun k hk q => h k hk (by omega)
theorem prw_3 {L c : Int} {r : Nat → Int32} {x y z : Int32} (e1 : r 72 = x) (h1 : 0 ≤ x.toInt ∧ x.toInt ≤ L) (e2 : r 76 = y) (h2 : In y 0 511 ∧ (y.toInt = 0 ∨ y.toInt + 2 ≤ 2 ^ c.toNat)) (e3 : r 77 = z) (h3 : In z 0 30) : PRW 2126 2126 L c r := fun k hk _ => by
  rw [Nat.mod_eq_of_lt hk]
  refine ⟨fun q => ?_, fun q => ?_, fun q => ?_⟩
  · rw [q, e1]; exact h1
  · rw [q, e2]; exact h2
  · rw [q, e3]; exact h3
theorem now_set {L c : Int} {r r2 : Nat → Int32} {i x : Int32} (h : PRW 2126 2126 L c r) (e : r2 = upd r i.toNatClampNeg x) (hx : PRED L c (i.toNatClampNeg % 2126) x) : PRW 2126 2126 L c r2 ∧ ∃ z, (0 ≤ z ∧ z ≤ L) ∧ ((72 : Int) < 2126 → (r2 72).toInt = z) :=
  have q := prw_set h e hx
  ⟨q, (r2 72).toInt, (q 72 (by decide) (by decide)).1 rfl, fun _ => rfl⟩
theorem capM {v n : Int32} {z c : Int} (h : v.toInt = 0 ∨ v.toInt + 2 ≤ 2 ^ n.toInt.toNat) (hn : n.toInt = z) (hc : z = c) : v.toInt = 0 ∨ v.toInt + 2 ≤ 2 ^ c.toNat := by
  rw [hn, hc] at h; exact h
theorem TI.w22 {g : GG} {ad : Nat → Nat} {th : Nat → Int} {f : HP} (h : TI g ad th f) : TI g ad (gset th 22 0) f := by
  refine ⟨fun n hn => OKa_th (fun k hk => gset_ne (by omega)) (h.1 n hn), fun j hj n hn => OKc_th (gset_ne (by omega)) (gset_ne (by omega)) (h.2.1 j hj n hn), fun n hn => ?_⟩
  by_cases q : n = 16
  · subst q
    obtain ⟨r, e, hp, hc⟩ := h.2.2 16 (by decide)
    exact ⟨r, e, fun z => absurd (show (72 : Int) < 0 from z) (by decide), prw_0 (show (0 : Int) ≤ 0 by decide)⟩
  · exact OKm_thk (k := 16) (by decide) q (fun q hq => gset_ne (fun e => hq (by subst e; decide))) (h.2.2 n hn)
theorem TI.w23 {g : GG} {ad : Nat → Nat} {th : Nat → Int} {f : HP} (h : TI g ad th f) : TI g ad (gset th 23 0) f := by
  refine ⟨fun n hn => OKa_th (fun k hk => gset_ne (by omega)) (h.1 n hn), fun j hj n hn => OKc_th (gset_ne (by omega)) (gset_ne (by omega)) (h.2.1 j hj n hn), fun n hn => ?_⟩
  by_cases q : n = 17
  · subst q
    obtain ⟨r, e, hc⟩ := h.2.2 17 (by decide)
    exact ⟨r, e, prw_0 (show (0 : Int) ≤ 0 by decide)⟩
  · exact OKm_thk (k := 17) (by decide) q (fun q hq => gset_ne (fun e => hq (by subst e; decide))) (h.2.2 n hn)
theorem TI.w24 {g : GG} {ad : Nat → Nat} {th : Nat → Int} {f : HP} {z : Int} (h : TI g ad th f) (hz : z ≤ th 24) : TI g ad (gset th 24 z) f := by
  refine ⟨fun n hn => OKa_th (fun k hk => gset_ne (by omega)) (h.1 n hn), fun j hj n hn => OKc_th (gset_ne (by omega)) (gset_ne (by omega)) (h.2.1 j hj n hn), fun n hn => ?_⟩
  by_cases q : n = 18
  · subst q
    obtain ⟨r, e, hc⟩ := h.2.2 18 (by decide)
    exact ⟨r, e, prw_mono hc hz⟩
  · exact OKm_thk (k := 18) (by decide) q (fun q hq => gset_ne (fun e => hq (by subst e; decide))) (h.2.2 n hn)
theorem TI.n2021 {g : GG} {ad : Nat → Nat} {th : Nat → Int} {f : HP} {a b : Int} (h : TI g ad th f) (h2 : th 22 ≤ 0) (h3 : th 23 ≤ 0) (h4 : th 24 ≤ 0) : TI g ad (gset (gset th 20 a) 21 b) f := by
  have e : ∀ q, q ≠ 20 → q ≠ 21 → gset (gset th 20 a) 21 b q = th q := fun q h1 h2 => (gset_ne h2).trans (gset_ne h1)
  refine ⟨fun n hn => OKa_th (fun k hk => e k (by omega) (by omega)) (h.1 n hn), fun j hj n hn => OKc_th (e _ (by omega) (by omega)) (e _ (by omega) (by omega)) (h.2.1 j hj n hn), fun n hn => ?_⟩
  have q := h.2.2 n hn
  unfold OKm at q ⊢
  split at q
  case h_17 => obtain ⟨r, e1, hp, hc⟩ := q; exact ⟨r, e1, fun z => absurd z (by rw [e 22 (by decide) (by decide)]; omega), prw_0 (by rw [e 22 (by decide) (by decide)]; omega)⟩
  case h_18 => obtain ⟨r, e1, hc⟩ := q; exact ⟨r, e1, prw_0 (by rw [e 23 (by decide) (by decide)]; omega)⟩
  case h_19 => obtain ⟨r, e1, hc⟩ := q; exact ⟨r, e1, prw_0 (by rw [e 24 (by decide) (by decide)]; omega)⟩
  all_goals exact q
theorem In.divs2 {x y : Int32} {a b c d lo hi : Int} (h : In x a b) (g : In y c d) (h0 : 0 < c ∧ -c < a ∧ 0 ≤ b) (h1 : lo ≤ 0) (h2 : b / c ≤ hi) : In (x / y) lo hi := by
  obtain ⟨q1, q2⟩ := h
  obtain ⟨q3, q4⟩ := g
  have z : 0 ≤ b / c := Int.ediv_nonneg h0.2.2 (by omega)
  by_cases q : 0 ≤ x.toInt
  · have e := i32_divT (x := x) (y := y) q (by omega)
    have u1 : x.toInt / y.toInt ≤ b / y.toInt := Int.ediv_le_ediv (by omega) q2
    have u2 : b / y.toInt ≤ b / c := by
      refine (Int.le_ediv_iff_mul_le h0.1).mpr ?_
      have t1 : b / y.toInt * c ≤ b / y.toInt * y.toInt := Int.mul_le_mul_of_nonneg_left q3 (Int.ediv_nonneg (by omega) (by omega))
      have t2 : b / y.toInt * y.toInt ≤ b := Int.ediv_mul_le _ (by omega)
      omega
    have u3 : 0 ≤ x.toInt / y.toInt := Int.ediv_nonneg q (by omega)
    exact ⟨by omega, by omega⟩
  · have e : (x / y).toInt = 0 := by
      rw [Int32.toInt_div]
      have t : x.toInt.tdiv y.toInt = 0 := by
        have e2 : x.toInt = -(-x.toInt) := by omega
        rw [e2, Int.neg_tdiv, Int.tdiv_eq_ediv_of_nonneg (by omega), Int.ediv_eq_zero_of_lt (by omega) (by omega)]
        rfl
      rw [t]
      rfl
    exact ⟨by omega, by omega⟩
/-! bits as numbers -/
def bitI (t k : Int) : Int := t / 2 ^ k.toNat % 2
theorem bitI_r (t k : Int) : 0 ≤ bitI t k ∧ bitI t k ≤ 1 := by
  unfold bitI
  omega
theorem sh_bit {z k x y : Int32} (h0 : 0 ≤ z.toInt) (hk : In k 0 30) (e1 : x = (z.toUInt32 >>> (k.toUInt32 &&& Int32.toUInt32 31)).toInt32) (e2 : y = x &&& 1) : y.toInt = bitI z.toInt k.toInt := by
  obtain ⟨k1, k2⟩ := hk
  have b := bit_tb e1 e2 (k := k.toInt.toNat) (by omega) (by omega)
  rw [b]
  have t : tb z k.toInt.toNat = ((z.toBitVec.toNat >>> k.toInt.toNat) % 2 == 1) := by
    show z.toBitVec.toNat.testBit _ = _
    rw [Nat.testBit, Nat.and_comm, Nat.and_one_is_mod]
    rcases Nat.mod_two_eq_zero_or_one (z.toBitVec.toNat >>> k.toInt.toNat) with q | q <;> rw [q] <;> rfl
  have hz := i32_nn h0
  have c : z.toInt / 2 ^ k.toInt.toNat % 2 = ((z.toBitVec.toNat / 2 ^ k.toInt.toNat % 2 : Nat) : Int) := by rw [← hz]; simp
  unfold bitI
  rw [c, t, Nat.shiftRight_eq_div_pow]
  rcases Nat.mod_two_eq_zero_or_one (z.toBitVec.toNat / 2 ^ k.toInt.toNat) with q | q <;> rw [q] <;> rfl
theorem shr_bit {z k x y : Int32} (h0 : 0 ≤ z.toInt) (hk : In k 0 30) (e1 : x = z >>> (k &&& 31)) (e2 : y = x &&& 1) : y.toInt = bitI z.toInt k.toInt := by
  obtain ⟨k1, k2⟩ := hk
  obtain ⟨j, j1, j2⟩ := i32_ofk (n := k) (d := 30) ⟨k1, k2⟩ (by decide)
  have es : x.toInt = z.toInt / 2 ^ k.toInt.toNat := by
    rw [e1]
    show (z >>> (k &&& 31)).toBitVec.toInt = _
    rw [Int32.toBitVec_shiftRight, BitVec.sshiftRight', j1, shl_k j, BitVec.toInt_sshiftRight, Int.shiftRight_eq_div_pow]
    have : k.toInt.toNat = j.val := by omega
    rw [← j1, this]
    simp
  have hx : 0 ≤ x.toInt := by rw [es]; exact Int.ediv_nonneg h0 (Int.le_of_lt (Int.pow_pos (by decide)))
  have s2 : y.toBitVec.toNat = x.toBitVec.toNat % 2 := by
    rw [e2]
    show (x.toBitVec &&& 1#32).toNat = _
    rw [BitVec.toNat_and]
    exact Nat.and_one_is_mod _
  have hb := i32_nn hx
  have hy := i32_of (x := y) (by omega)
  unfold bitI
  rw [← es, hy, s2, ← hb]
  simp
theorem or_addN : ∀ t : Fin 64, ∀ p : Fin 6, t.val / 2 ^ p.val % 2 = 0 → t.val ||| 2 ^ p.val = t.val + 2 ^ p.val := by decide +kernel
theorem shl1 {p x : Int32} {d : Int} (ex : x = 1 <<< (p &&& 31)) (hp : In p 0 d) (hd : d ≤ 30) : x.toBitVec.toNat = 2 ^ p.toInt.toNat ∧ x.toInt = 2 ^ p.toInt.toNat := by
  obtain ⟨k, e1, e2⟩ := i32_ofk hp hd
  have s1 : x.toBitVec = (1#32) <<< k.val := by
    rw [ex, e1]
    show ((1 : Int32) <<< (Int32.ofNat k.val &&& 31)).toBitVec = _
    rw [Int32.toBitVec_shiftLeft, BitVec.shiftLeft_eq', shl_k k]
    rfl
  have z : p.toInt.toNat = k.val := by omega
  have l : 2 ^ k.val < 2 ^ 31 := Nat.pow_lt_pow_right (by decide) k.isLt
  have s2 : x.toBitVec.toNat = 2 ^ k.val := by
    rw [s1, BitVec.toNat_shiftLeft, Nat.shiftLeft_eq]
    show 1 * 2 ^ k.val % 2 ^ 32 = _
    rw [Nat.one_mul]
    exact Nat.mod_eq_of_lt (Nat.lt_trans l (by decide))
  rw [z]
  refine ⟨s2, ?_⟩
  rw [i32_of (by rw [s2]; exact l), s2]
  simp
theorem or_add {t t' p x : Int32} (ex : x = 1 <<< (p &&& 31)) (et : t' = t ||| x) (hp : In p 0 5) (ht : In t 0 63) (hb : bitI t.toInt p.toInt = 0) : t'.toInt = t.toInt + 2 ^ p.toInt.toNat := by
  have h1 := shl1 ex hp (by decide)
  obtain ⟨p1, p2⟩ := hp
  obtain ⟨t1, t2⟩ := ht
  have hn := i32_nn t1
  have eo : t'.toBitVec.toNat = t.toBitVec.toNat ||| x.toBitVec.toNat := by rw [et]; rfl
  have hb2 : t.toBitVec.toNat / 2 ^ p.toInt.toNat % 2 = 0 := by
    unfold bitI at hb
    rw [← hn] at hb
    have c : ((t.toBitVec.toNat : Int)) / 2 ^ p.toInt.toNat % 2 = ((t.toBitVec.toNat / 2 ^ p.toInt.toNat % 2 : Nat) : Int) := by simp
    rw [c] at hb
    omega
  have q := or_addN ⟨t.toBitVec.toNat, by omega⟩ ⟨p.toInt.toNat, by omega⟩ hb2
  have q2 : t.toBitVec.toNat ||| 2 ^ p.toInt.toNat = t.toBitVec.toNat + 2 ^ p.toInt.toNat := q
  rw [h1.1, q2] at eo
  have l : 2 ^ p.toInt.toNat ≤ 2 ^ 5 := Nat.pow_le_pow_right (by decide) (by omega)
  have r := i32_of (x := t') (by omega)
  rw [r, eo, ← hn]
  simp
/-! sets of at most nine -/
def pcI (z : Int) : Int := pc9 z.toNat
theorem pcI_orN : ∀ n : Fin 512, ∀ k : Fin 9, pc9 (n.val ||| 2 ^ k.val) ≤ pc9 n.val + 1 := by decide +kernel
theorem capN : ∀ n : Fin 512, ∀ k : Fin 10, n.val < 2 ^ k.val → pc9 n.val < k.val → n.val + 2 ≤ 2 ^ k.val := by decide +kernel
theorem or_ltN : ∀ n : Fin 512, ∀ k : Fin 9, ∀ s : Fin 10, n.val < 2 ^ s.val → k.val < s.val → n.val ||| 2 ^ k.val < 2 ^ s.val := by decide +kernel
theorem or_pc {t t' p x : Int32} {n i : Int} (ex : x = 1 <<< (p &&& 31)) (et : t' = t ||| x) (hp : In p 0 8) (hn : n ≤ 9) (hpn : p.toInt < n) (ht : 0 ≤ t.toInt ∧ t.toInt < 2 ^ n.toNat ∧ pcI t.toInt ≤ i) : 0 ≤ t'.toInt ∧ t'.toInt < 2 ^ n.toNat ∧ pcI t'.toInt ≤ i + 1 := by
  have h1 := shl1 ex hp (by decide)
  obtain ⟨p1, p2⟩ := hp
  obtain ⟨t1, t2, t3⟩ := ht
  have hh := i32_nn t1
  have eo : t'.toBitVec.toNat = t.toBitVec.toNat ||| x.toBitVec.toNat := by rw [et]; rfl
  have l9 : (2 : Int) ^ n.toNat ≤ 2 ^ 9 := by rw [ip2, ip2]; exact Int.ofNat_le.mpr (Nat.pow_le_pow_right (by decide) (by omega))
  have l9' : (2 : Int) ^ 9 = 512 := by decide
  rw [ip2] at t2 l9
  have a := or_ltN ⟨t.toBitVec.toNat, by omega⟩ ⟨p.toInt.toNat, by omega⟩ ⟨n.toNat, by omega⟩ (by show t.toBitVec.toNat < 2 ^ n.toNat; omega) (by show p.toInt.toNat < n.toNat; omega)
  have b := pcI_orN ⟨t.toBitVec.toNat, by omega⟩ ⟨p.toInt.toNat, by omega⟩
  have a2 : t.toBitVec.toNat ||| 2 ^ p.toInt.toNat < 2 ^ n.toNat := a
  have b2 : pc9 (t.toBitVec.toNat ||| 2 ^ p.toInt.toNat) ≤ pc9 t.toBitVec.toNat + 1 := b
  rw [h1.1] at eo
  rw [← eo] at a2 b2
  have r := i32_of (x := t') (by omega)
  rw [r, ip2]
  refine ⟨by omega, by omega, ?_⟩
  have c1 : pcI t.toInt = pc9 t.toBitVec.toNat := by unfold pcI; rw [← hh]; rfl
  have c2 : pcI (t'.toBitVec.toNat : Int) = pc9 t'.toBitVec.toNat := rfl
  rw [c1] at t3
  rw [c2]
  omega
theorem pc_cap {z n i : Int} (h : 0 ≤ z ∧ z < 2 ^ n.toNat ∧ pcI z ≤ i) (hn : 0 ≤ n ∧ n ≤ 9) (hi : i < n) : capI z n := by
  obtain ⟨h1, h2, h3⟩ := h
  have l9 : (2 : Int) ^ n.toNat ≤ 2 ^ 9 := by rw [ip2, ip2]; exact Int.ofNat_le.mpr (Nat.pow_le_pow_right (by decide) (by omega))
  have l9' : (2 : Int) ^ 9 = 512 := by decide
  have c1 : pcI z = pc9 z.toNat := rfl
  rw [ip2] at h2 l9
  have a := capN ⟨z.toNat, by omega⟩ ⟨n.toNat, by omega⟩ (by show z.toNat < 2 ^ n.toNat; omega) (by show pc9 z.toNat < n.toNat; omega)
  have a2 : z.toNat + 2 ≤ 2 ^ n.toNat := a
  right
  rw [ip2]
  omega
theorem wk_N : ∀ n : Fin 512, ∀ k : Fin 9, ∀ s : Fin 10, (n.val = 0 ∨ n.val + 2 ≤ 2 ^ s.val) → k.val < s.val → (n.val ||| 2 ^ k.val = 2 ^ s.val - 1) ∨ (n.val ||| 2 ^ k.val) + 2 ≤ 2 ^ s.val := by decide +kernel
theorem wk_or {t t' p x : Int32} {n : Int} (ex : x = 1 <<< (p &&& 31)) (et : t' = t ||| x) (hp : In p 0 8) (hn : n ≤ 9) (hpn : p.toInt < n) (ht : 0 ≤ t.toInt ∧ t.toInt ≤ 511 ∧ capI t.toInt n) (hne : t'.toInt ≠ 2 ^ n.toNat - 1) : In t' 0 510 ∧ t'.toInt + 2 ≤ 2 ^ n.toNat := by
  have h1 := shl1 ex hp (by decide)
  obtain ⟨p1, p2⟩ := hp
  obtain ⟨t1, t2, t3⟩ := ht
  have hh := i32_nn t1
  have eo : t'.toBitVec.toNat = t.toBitVec.toNat ||| x.toBitVec.toNat := by rw [et]; rfl
  have l9 : (2 : Int) ^ n.toNat ≤ 2 ^ 9 := by rw [ip2, ip2]; exact Int.ofNat_le.mpr (Nat.pow_le_pow_right (by decide) (by omega))
  have l9' : (2 : Int) ^ 9 = 512 := by decide
  have p0 : 0 < 2 ^ n.toNat := Nat.pow_pos (by decide)
  unfold capI at t3
  rw [ip2] at t3 l9 hne
  have a := wk_N ⟨t.toBitVec.toNat, by omega⟩ ⟨p.toInt.toNat, by omega⟩ ⟨n.toNat, by omega⟩ (by show t.toBitVec.toNat = 0 ∨ t.toBitVec.toNat + 2 ≤ 2 ^ n.toNat; omega) (by show p.toInt.toNat < n.toNat; omega)
  have a2 : (t.toBitVec.toNat ||| 2 ^ p.toInt.toNat = 2 ^ n.toNat - 1) ∨ (t.toBitVec.toNat ||| 2 ^ p.toInt.toNat) + 2 ≤ 2 ^ n.toNat := a
  rw [h1.1] at eo
  rw [← eo] at a2
  have r := i32_of (x := t') (by omega)
  rw [ip2]
  refine ⟨⟨by omega, by omega⟩, by omega⟩
theorem pc_0 (n : Nat) : 0 ≤ (0 : Int) ∧ (0 : Int) < 2 ^ n ∧ pcI 0 ≤ 0 := ⟨by decide, Int.pow_pos (by decide), by decide⟩
theorem bitI_0 (t : Int) : bitI t 0 = t % 2 := by unfold bitI; simp
theorem bitI_4 (t : Int) : bitI t 4 = t / 16 % 2 := rfl
/-- what a text of a COUNCIL has told: pieces (bits), size, FALSE ones -/
def DIp (t s f : Int) : Prop := (t % 2 = 0 → s = 0 ∧ f = 0) ∧ (t % 2 = 1 → 3 ≤ s ∧ s ≤ 9) ∧ (t / 16 % 2 = 0 → f = 0) ∧ capI f s ∧ (0 ≤ t ∧ t < 64)
theorem di_0 : DIp 0 0 0 := ⟨fun _ => ⟨rfl, rfl⟩, fun h => absurd h (by decide), fun _ => rfl, Or.inl rfl, by decide⟩
theorem p9 {n : Int} (h : n ≤ 9) : (2 : Int) ^ n.toNat ≤ 512 := by
  have l9 : (2 : Int) ^ n.toNat ≤ 2 ^ 9 := by rw [ip2, ip2]; exact Int.ofNat_le.mpr (Nat.pow_le_pow_right (by decide) (by omega))
  have l9' : (2 : Int) ^ 9 = 512 := by decide
  omega
theorem cap510 {v : Int32} {z n : Int} (h : In v 0 511) (hc : capI z n ∧ 3 ≤ n ∧ n ≤ 9) (e : v.toInt = z) : In v 0 510 := by
  obtain ⟨h1, h2⟩ := h
  have := p9 hc.2.2
  rcases hc.1 with q | q
  · exact ⟨h1, by omega⟩
  · exact ⟨h1, by omega⟩
theorem dip_c {t s f : Int} (h : DIp t s f ∧ t % 2 = 1) : capI f s ∧ 3 ≤ s ∧ s ≤ 9 := ⟨h.1.2.2.2.1, h.1.2.1 h.2⟩
theorem and255 {x y : Int32} (e : x = y &&& 255) : x.toInt = y.toInt % 256 := by
  have s2 : x.toBitVec.toNat = y.toBitVec.toNat % 256 := by
    rw [e]
    show (y.toBitVec &&& 255#32).toNat = _
    rw [BitVec.toNat_and]
    exact Nat.and_two_pow_sub_one_eq_mod _ 8
  have hx := i32_of (x := x) (by omega)
  have hy : y.toInt = y.toBitVec.toInt := rfl
  rw [hx, s2, hy, BitVec.toInt_eq_toNat_cond]
  split <;> omega
theorem nar_byte (x : Int32) : In (vp_nar .byte x) (-128) 127 := by
  unfold vp_nar
  have h1 := Int8.le_toInt x.toInt8
  have h2 := Int8.toInt_lt x.toInt8
  have e : (x.toInt8.toInt32).toInt = x.toInt8.toInt := Int8.toInt_toInt32 _
  exact ⟨by show _ ≤ (x.toInt8.toInt32).toInt; omega, by show (x.toInt8.toInt32).toInt ≤ _; omega⟩
theorem i2l_t (x : Int32) : x.toInt64.toInt = x.toInt := Int32.toInt_toInt64 x
theorem lc_ge {x y : Int64} {c : Int32} (e : c = lg_cmp x y) (h : ¬ c < 0) : y.toInt ≤ x.toInt := by
  unfold lg_cmp at e
  split at e
  · rename_i q; exact Int.le_of_lt (Int64.lt_iff_toInt_lt.mp q)
  · split at e
    · rename_i q; rw [q]; exact Int.le_refl _
    · exact absurd (e ▸ (by decide : (-1 : Int32) < 0)) h
theorem lc_le {x y : Int64} {c : Int32} (e : c = lg_cmp x y) (h : ¬ 0 < c) : x.toInt ≤ y.toInt := by
  unfold lg_cmp at e
  split at e
  · exact absurd (e ▸ (by decide : (0 : Int32) < 1)) h
  · rename_i q; exact Int.not_lt.mp (fun z => q (Int64.lt_iff_toInt_lt.mpr z))
