/-! INTERVALS -/
def In (x : Int32) (lo hi : Int) : Prop := lo ≤ x.toInt ∧ x.toInt ≤ hi
theorem In.mk {x : Int32} {lo hi : Int} (h1 : lo ≤ x.toInt) (h2 : x.toInt ≤ hi) : In x lo hi := ⟨h1, h2⟩
theorem In.full (x : Int32) : In x (-2147483648) 2147483647 := by
  have h1 := x.le_toInt
  have h2 := x.toInt_lt
  exact ⟨by omega, by omega⟩
theorem In.mono {x : Int32} {a b lo hi : Int} (h : In x a b) (h1 : lo ≤ a) (h2 : b ≤ hi) : In x lo hi := ⟨Int.le_trans h1 h.1, Int.le_trans h.2 h2⟩
theorem In.both {x : Int32} {a b c d lo hi : Int} (h : In x a b) (g : In x c d) (h1 : lo ≤ max a c) (h2 : min b d ≤ hi) : In x lo hi := by
  obtain ⟨q1, q2⟩ := h
  obtain ⟨q3, q4⟩ := g
  exact ⟨by omega, by omega⟩
theorem In.empty {x : Int32} {lo hi : Int} {G : Prop} (h : In x lo hi) (g : hi < lo) : G := by
  have := Int.le_trans h.1 h.2
  omega
theorem In.inb {x : Int32} {a b : Int} {n : Nat} (h : In x a b) (h1 : 0 ≤ a) (h2 : b < n) : vp_in x n := by
  rw [vp_in_iff]
  exact ⟨Int.le_trans h1 h.1, Int.lt_of_le_of_lt h.2 h2⟩
theorem In.ne0 {x : Int32} {a b : Int} (h : In x a b) (h1 : 0 < a) : ¬ x = 0 := fun e => by
  have := h.1
  rw [e] at this
  have e0 : (0 : Int32).toInt = 0 := by decide
  omega
theorem i32_addT {x y : Int32} (h1 : -2147483648 ≤ x.toInt + y.toInt) (h2 : x.toInt + y.toInt ≤ 2147483647) : (x + y).toInt = x.toInt + y.toInt := by
  rw [Int32.toInt_add]
  exact Int.bmod_eq_of_le (by omega) (by omega)
theorem i32_subT {x y : Int32} (h1 : -2147483648 ≤ x.toInt - y.toInt) (h2 : x.toInt - y.toInt ≤ 2147483647) : (x - y).toInt = x.toInt - y.toInt := by
  rw [Int32.toInt_sub]
  exact Int.bmod_eq_of_le (by omega) (by omega)
theorem i32_mulT {x y : Int32} (h1 : -2147483648 ≤ x.toInt * y.toInt) (h2 : x.toInt * y.toInt ≤ 2147483647) : (x * y).toInt = x.toInt * y.toInt := by
  rw [Int32.toInt_mul]
  exact Int.bmod_eq_of_le (by omega) (by omega)
theorem In.add {x y : Int32} {a b c d lo hi : Int} (h : In x a b) (g : In y c d) (h1 : lo ≤ a + c) (h2 : b + d ≤ hi) (h3 : -2147483648 ≤ lo) (h4 : hi ≤ 2147483647) : In (x + y) lo hi := by
  obtain ⟨q1, q2⟩ := h
  obtain ⟨q3, q4⟩ := g
  have e := i32_addT (x := x) (y := y) (by omega) (by omega)
  exact ⟨by omega, by omega⟩
theorem In.sub {x y : Int32} {a b c d lo hi : Int} (h : In x a b) (g : In y c d) (h1 : lo ≤ a - d) (h2 : b - c ≤ hi) (h3 : -2147483648 ≤ lo) (h4 : hi ≤ 2147483647) : In (x - y) lo hi := by
  obtain ⟨q1, q2⟩ := h
  obtain ⟨q3, q4⟩ := g
  have e := i32_subT (x := x) (y := y) (by omega) (by omega)
  exact ⟨by omega, by omega⟩
theorem In.mul {x y : Int32} {a b c d lo hi : Int} (h : In x a b) (g : In y c d) (h0 : 0 ≤ a) (h00 : 0 ≤ c) (h1 : lo ≤ a * c) (h2 : b * d ≤ hi) (h4 : hi ≤ 2147483647) : In (x * y) lo hi := by
  obtain ⟨q1, q2⟩ := h
  obtain ⟨q3, q4⟩ := g
  have l : a * c ≤ x.toInt * y.toInt := Int.mul_le_mul q1 q3 h00 (Int.le_trans h0 q1)
  have u : x.toInt * y.toInt ≤ b * d := Int.mul_le_mul q2 q4 (Int.le_trans h00 q3) (Int.le_trans h0 (Int.le_trans q1 q2))
  have z : 0 ≤ a * c := Int.mul_nonneg h0 h00
  have e := i32_mulT (x := x) (y := y) (by omega) (by omega)
  exact ⟨by omega, by omega⟩
theorem In.adde {x y : Int32} {a b k : Int} {kk : Int32} (e : y = x + kk) (h : In x a b) (hk : kk.toInt = k) (h1 : -2147483648 ≤ a + k) (h2 : b + k ≤ 2147483647) : y.toInt = x.toInt + k := by
  obtain ⟨q1, q2⟩ := h
  rw [e, i32_addT (by omega) (by omega), hk]
theorem In.sube {x y : Int32} {a b k : Int} {kk : Int32} (e : y = x - kk) (h : In x a b) (hk : kk.toInt = k) (h1 : -2147483648 ≤ a - k) (h2 : b - k ≤ 2147483647) : y.toInt = x.toInt + -k := by
  obtain ⟨q1, q2⟩ := h
  rw [e, i32_subT (by omega) (by omega), hk]
  omega
theorem In.add2e {x y z : Int32} {a b c d : Int} (e : z = x + y) (h : In x a b) (g : In y c d) (h1 : -2147483648 ≤ a + c) (h2 : b + d ≤ 2147483647) : z.toInt = x.toInt + y.toInt := by
  obtain ⟨q1, q2⟩ := h
  obtain ⟨q3, q4⟩ := g
  rw [e, i32_addT (by omega) (by omega)]
theorem In.sub2e {x y z : Int32} {a b c d : Int} (e : z = x - y) (h : In x a b) (g : In y c d) (h1 : -2147483648 ≤ a - d) (h2 : b - c ≤ 2147483647) : z.toInt = x.toInt - y.toInt := by
  obtain ⟨q1, q2⟩ := h
  obtain ⟨q3, q4⟩ := g
  rw [e, i32_subT (by omega) (by omega)]
theorem vp_of {x : Int32} {n : Nat} (h1 : 0 ≤ x.toInt) (h2 : x.toInt < (n : Int)) : vp_in x n := by
  rw [vp_in_iff]
  exact ⟨h1, h2⟩
theorem i32_nlt {x y : Int32} (h : ¬ x < y) : y.toInt ≤ x.toInt := by
  rw [i32_lt] at h
  omega
theorem i32_nle {x y : Int32} (h : ¬ x ≤ y) : y.toInt < x.toInt := by
  rw [i32_le] at h
  omega
theorem i32_ne {x y : Int32} (h : ¬ x = y) : x.toInt ≠ y.toInt := fun e => h (Int32.toInt_inj.mp e)
section REFINE
variable {x y : Int32} {a b c d lo hi : Int}
theorem In.lt1 (h : In x a b) (g : In y c d) (q : x.toInt < y.toInt) (h1 : lo ≤ a) (h2 : min b (d - 1) ≤ hi) : In x lo hi := by obtain ⟨q1, q2⟩ := h; obtain ⟨q3, q4⟩ := g; exact ⟨by omega, by omega⟩
theorem In.lt2 (h : In x a b) (g : In y c d) (q : x.toInt < y.toInt) (h1 : lo ≤ max c (a + 1)) (h2 : d ≤ hi) : In y lo hi := by obtain ⟨q1, q2⟩ := h; obtain ⟨q3, q4⟩ := g; exact ⟨by omega, by omega⟩
theorem In.gt1 (h : In x a b) (g : In y c d) (q : y.toInt < x.toInt) (h1 : lo ≤ max a (c + 1)) (h2 : b ≤ hi) : In x lo hi := by obtain ⟨q1, q2⟩ := h; obtain ⟨q3, q4⟩ := g; exact ⟨by omega, by omega⟩
theorem In.gt2 (h : In x a b) (g : In y c d) (q : y.toInt < x.toInt) (h1 : lo ≤ c) (h2 : min d (b - 1) ≤ hi) : In y lo hi := by obtain ⟨q1, q2⟩ := h; obtain ⟨q3, q4⟩ := g; exact ⟨by omega, by omega⟩
theorem In.le1 (h : In x a b) (g : In y c d) (q : x.toInt ≤ y.toInt) (h1 : lo ≤ a) (h2 : min b d ≤ hi) : In x lo hi := by obtain ⟨q1, q2⟩ := h; obtain ⟨q3, q4⟩ := g; exact ⟨by omega, by omega⟩
theorem In.le2 (h : In x a b) (g : In y c d) (q : x.toInt ≤ y.toInt) (h1 : lo ≤ max c a) (h2 : d ≤ hi) : In y lo hi := by obtain ⟨q1, q2⟩ := h; obtain ⟨q3, q4⟩ := g; exact ⟨by omega, by omega⟩
theorem In.ge1 (h : In x a b) (g : In y c d) (q : y.toInt ≤ x.toInt) (h1 : lo ≤ max a c) (h2 : b ≤ hi) : In x lo hi := by obtain ⟨q1, q2⟩ := h; obtain ⟨q3, q4⟩ := g; exact ⟨by omega, by omega⟩
theorem In.ge2 (h : In x a b) (g : In y c d) (q : y.toInt ≤ x.toInt) (h1 : lo ≤ c) (h2 : min d b ≤ hi) : In y lo hi := by obtain ⟨q1, q2⟩ := h; obtain ⟨q3, q4⟩ := g; exact ⟨by omega, by omega⟩
theorem In.eq1 (h : In x a b) (g : In y c d) (q : x.toInt = y.toInt) (h1 : lo ≤ max a c) (h2 : min b d ≤ hi) : In x lo hi := by obtain ⟨q1, q2⟩ := h; obtain ⟨q3, q4⟩ := g; exact ⟨by omega, by omega⟩
theorem In.eq2 (h : In x a b) (g : In y c d) (q : x.toInt = y.toInt) (h1 : lo ≤ max a c) (h2 : min b d ≤ hi) : In y lo hi := by obtain ⟨q1, q2⟩ := h; obtain ⟨q3, q4⟩ := g; exact ⟨by omega, by omega⟩
theorem In.ne1 (h : In x a b) (g : In y c d) (q : x.toInt ≠ y.toInt) (h1 : lo ≤ a ∨ (lo ≤ a + 1 ∧ a = c ∧ c = d)) (h2 : b ≤ hi ∨ (b - 1 ≤ hi ∧ b = c ∧ c = d)) : In x lo hi := by obtain ⟨q1, q2⟩ := h; obtain ⟨q3, q4⟩ := g; exact ⟨by omega, by omega⟩
theorem In.ne2 (h : In x a b) (g : In y c d) (q : x.toInt ≠ y.toInt) (h1 : lo ≤ c ∨ (lo ≤ c + 1 ∧ c = a ∧ a = b)) (h2 : d ≤ hi ∨ (d - 1 ≤ hi ∧ d = a ∧ a = b)) : In y lo hi := by obtain ⟨q1, q2⟩ := h; obtain ⟨q3, q4⟩ := g; exact ⟨by omega, by omega⟩
end REFINE
/-! bits -/
theorem i32_nn {x : Int32} (h : 0 ≤ x.toInt) : (x.toBitVec.toNat : Int) = x.toInt := by
  show (x.toBitVec.toNat : Int) = x.toBitVec.toInt
  have h2 : 0 ≤ x.toBitVec.toInt := h
  rw [BitVec.toInt_eq_toNat_cond] at h2 ⊢
  split <;> rename_i q
  · rfl
  · exfalso
    rw [if_neg q] at h2
    have := x.toBitVec.isLt
    omega
theorem i32_of {x : Int32} (h : x.toBitVec.toNat < 2147483648) : x.toInt = (x.toBitVec.toNat : Int) := by
  show x.toBitVec.toInt = _
  rw [BitVec.toInt_eq_toNat_cond, if_pos (by omega)]
theorem In.andr {x y : Int32} {c d : Int} (g : In y c d) (h0 : 0 ≤ c) : In (x &&& y) 0 d := by
  obtain ⟨q3, q4⟩ := g
  have hy := i32_nn (x := y) (by omega)
  have e : (x &&& y).toBitVec.toNat = x.toBitVec.toNat &&& y.toBitVec.toNat := rfl
  have l : (x &&& y).toBitVec.toNat ≤ y.toBitVec.toNat := by rw [e]; exact Nat.and_le_right
  have hb := y.toInt_lt
  have := i32_of (x := x &&& y) (by omega)
  exact ⟨by omega, by omega⟩
theorem In.andl {x y : Int32} {a b : Int} (h : In x a b) (h0 : 0 ≤ a) : In (x &&& y) 0 b := by
  obtain ⟨q3, q4⟩ := h
  have hy := i32_nn (x := x) (by omega)
  have e : (x &&& y).toBitVec.toNat = x.toBitVec.toNat &&& y.toBitVec.toNat := rfl
  have l : (x &&& y).toBitVec.toNat ≤ x.toBitVec.toNat := by rw [e]; exact Nat.and_le_left
  have hb := x.toInt_lt
  have := i32_of (x := x &&& y) (by omega)
  exact ⟨by omega, by omega⟩
theorem In.or (k : Nat) {x y : Int32} {a b c d lo hi : Int} (h : In x a b) (g : In y c d) (h0 : 0 ≤ a) (h00 : 0 ≤ c) (h1 : b < 2 ^ k ∧ d < 2 ^ k) (h2 : 2 ^ k - 1 ≤ hi ∧ k ≤ 31) (h3 : lo ≤ 0) : In (x ||| y) lo hi := by
  obtain ⟨q1, q2⟩ := h
  obtain ⟨q3, q4⟩ := g
  have hx := i32_nn (x := x) (by omega)
  have hy := i32_nn (x := y) (by omega)
  have e : (x ||| y).toBitVec.toNat = x.toBitVec.toNat ||| y.toBitVec.toNat := rfl
  have c1 : ((2 ^ k : Nat) : Int) = (2 : Int) ^ k := by simp
  have l : (x ||| y).toBitVec.toNat < 2 ^ k := by rw [e]; exact Nat.or_lt_two_pow (by omega) (by omega)
  have p : 2 ^ k ≤ 2 ^ 31 := Nat.pow_le_pow_right (by decide) h2.2
  have := i32_of (x := x ||| y) (by omega)
  exact ⟨by omega, by omega⟩
theorem In.xor (k : Nat) {x y : Int32} {a b c d lo hi : Int} (h : In x a b) (g : In y c d) (h0 : 0 ≤ a) (h00 : 0 ≤ c) (h1 : b < 2 ^ k ∧ d < 2 ^ k) (h2 : 2 ^ k - 1 ≤ hi ∧ k ≤ 31) (h3 : lo ≤ 0) : In (x ^^^ y) lo hi := by
  obtain ⟨q1, q2⟩ := h
  obtain ⟨q3, q4⟩ := g
  have hx := i32_nn (x := x) (by omega)
  have hy := i32_nn (x := y) (by omega)
  have e : (x ^^^ y).toBitVec.toNat = x.toBitVec.toNat ^^^ y.toBitVec.toNat := rfl
  have c1 : ((2 ^ k : Nat) : Int) = (2 : Int) ^ k := by simp
  have l : (x ^^^ y).toBitVec.toNat < 2 ^ k := by rw [e]; exact Nat.xor_lt_two_pow (by omega) (by omega)
  have p : 2 ^ k ≤ 2 ^ 31 := Nat.pow_le_pow_right (by decide) h2.2
  have := i32_of (x := x ^^^ y) (by omega)
  exact ⟨by omega, by omega⟩
/-! measures -/
theorem ms0 {x : Int32} {lo hi : Int} {G : Prop} (h : In x lo hi) (q : hi - x.toInt < ((0 : Nat) : Int)) : G := by
  have := h.2
  omega
theorem ms0d {x : Int32} {lo hi : Int} {G : Prop} (h : In x lo hi) (q : x.toInt - lo < ((0 : Nat) : Int)) : G := by
  have := h.1
  omega
theorem msu {x y : Int32} {hi d : Int} {k : Nat} (e : y.toInt = x.toInt + d) (hd : 0 < d) (q : hi - x.toInt < ((k + 1 : Nat) : Int)) : hi - y.toInt < ((k : Nat) : Int) := by omega
theorem msd {x y : Int32} {lo d : Int} {k : Nat} (e : y.toInt = x.toInt + d) (hd : d < 0) (q : x.toInt - lo < ((k + 1 : Nat) : Int)) : y.toInt - lo < ((k : Nat) : Int) := by omega
theorem msI (z : Int) : z < ((z.toNat + 1 : Nat) : Int) := by omega
theorem nar_z {v : Int32} (h : In v 0 1) : narrow .boolean (.int v) = .int v := by
  obtain ⟨h1, h2⟩ := h
  have : v = 0 ∨ v = 1 := by
    rcases (show v.toInt = 0 ∨ v.toInt = 1 by omega) with q | q
    · exact Or.inl (Int32.toInt_inj.mp (q.trans (by decide)))
    · exact Or.inr (Int32.toInt_inj.mp (q.trans (by decide)))
  rcases this with rfl | rfl <;> rfl
theorem fit_z {v : Int32} (h : In v 0 1) : fits .boolean (.int v) = true := by
  obtain ⟨h1, h2⟩ := h
  have : v = 0 ∨ v = 1 := by
    rcases (show v.toInt = 0 ∨ v.toInt = 1 by omega) with q | q
    · exact Or.inl (Int32.toInt_inj.mp (q.trans (by decide)))
    · exact Or.inr (Int32.toInt_inj.mp (q.trans (by decide)))
  rcases this with rfl | rfl <;> rfl
theorem In.lcmp (x y : Int64) : In (lg_cmp x y) (-1) 1 := by
  unfold lg_cmp
  split
  · exact ⟨by decide, by decide⟩
  · split
    · exact ⟨by decide, by decide⟩
    · exact ⟨by decide, by decide⟩
theorem shl_k : ∀ k : Fin 31, ((Int32.ofNat k.val &&& 31).toBitVec.smod 32).toNat = k.val := by decide
theorem i32_ofk {n : Int32} {d : Int} (h : In n 0 d) (hd : d ≤ 30) : ∃ k : Fin 31, n = Int32.ofNat k.val ∧ n.toInt = (k.val : Int) := by
  obtain ⟨h1, h2⟩ := h
  refine ⟨⟨n.toInt.toNat, by omega⟩, ?_, (Int.toNat_of_nonneg h1).symm⟩
  apply Int32.toInt_inj.mp
  rw [Int32.toInt_ofNat_of_lt (show n.toInt.toNat < 2 ^ 31 by omega)]
  exact (Int.toNat_of_nonneg h1).symm
theorem ip2 (a : Nat) : (2 : Int) ^ a = ((2 ^ a : Nat) : Int) := by simp
theorem In.shl {x n : Int32} {a b c d lo hi : Int} (h : In x a b) (g : In n c d) (h0 : 0 ≤ a) (h00 : 0 ≤ c) (hd : d ≤ 30) (h1 : lo ≤ a * 2 ^ c.toNat) (h2 : b * 2 ^ d.toNat ≤ hi) (h4 : hi ≤ 2147483647) : In (x <<< (n &&& 31)) lo hi := by
  obtain ⟨q1, q2⟩ := h
  obtain ⟨k, e1, e2⟩ := i32_ofk (g.mono h00 (Int.le_refl d)) hd
  obtain ⟨g1, g2⟩ := g
  have hx := i32_nn (x := x) (by omega)
  have s1 : (x <<< (n &&& 31)).toBitVec = x.toBitVec <<< k.val := by
    rw [e1, Int32.toBitVec_shiftLeft, BitVec.shiftLeft_eq', shl_k k]
  have s2 : (x <<< (n &&& 31)).toBitVec.toNat = x.toBitVec.toNat * 2 ^ k.val % 2 ^ 32 := by
    rw [s1, BitVec.toNat_shiftLeft, Nat.shiftLeft_eq]
  have c1 : (2 : Int) ^ c.toNat ≤ 2 ^ k.val := by rw [ip2, ip2]; exact Int.ofNat_le.mpr (Nat.pow_le_pow_right (by decide) (by omega))
  have c2 : (2 : Int) ^ k.val ≤ 2 ^ d.toNat := by rw [ip2, ip2]; exact Int.ofNat_le.mpr (Nat.pow_le_pow_right (by decide) (by omega))
  have p0 : (0 : Int) < 2 ^ c.toNat := Int.pow_pos (by decide)
  have l : a * 2 ^ c.toNat ≤ x.toInt * 2 ^ k.val := Int.mul_le_mul q1 c1 (Int.le_of_lt p0) (by omega)
  have u : x.toInt * 2 ^ k.val ≤ b * 2 ^ d.toNat := Int.mul_le_mul q2 c2 (by omega) (by omega)
  have m : ((x.toBitVec.toNat * 2 ^ k.val : Nat) : Int) = x.toInt * 2 ^ k.val := by
    rw [Int.natCast_mul, hx]; simp
  have z : (0 : Int) ≤ a * 2 ^ c.toNat := Int.mul_nonneg h0 (Int.le_of_lt p0)
  have s3 : (x <<< (n &&& 31)).toBitVec.toNat = x.toBitVec.toNat * 2 ^ k.val := by
    rw [s2]; exact Nat.mod_eq_of_lt (by omega)
  have := i32_of (x := x <<< (n &&& 31)) (by omega)
  exact ⟨by omega, by omega⟩
theorem In.shr (k : Nat) {x y : Int32} {a b lo hi : Int} (h : In x a b) (hy : ((y &&& 31).toBitVec.smod 32).toNat = k) (h1 : lo ≤ a / 2 ^ k) (h2 : b / 2 ^ k ≤ hi) : In (x >>> (y &&& 31)) lo hi := by
  obtain ⟨q1, q2⟩ := h
  have e : (x >>> (y &&& 31)).toInt = x.toInt / 2 ^ k := by
    show (x >>> (y &&& 31)).toBitVec.toInt = _
    rw [Int32.toBitVec_shiftRight, BitVec.sshiftRight', hy, BitVec.toInt_sshiftRight, Int.shiftRight_eq_div_pow]
    simp
  have p : (0 : Int) < 2 ^ k := Int.pow_pos (by decide)
  have l := Int.ediv_le_ediv p q1
  have u := Int.ediv_le_ediv p q2
  exact ⟨by omega, by omega⟩
theorem In.ushr (k : Nat) {x y : Int32} {a b lo hi : Int} (h : In x a b) (hy : ((y.toUInt32 &&& Int32.toUInt32 31).toBitVec % 32#32).toNat = k) (h0 : 0 ≤ a) (h1 : lo ≤ a / 2 ^ k) (h2 : b / 2 ^ k ≤ hi) : In (x.toUInt32 >>> (y.toUInt32 &&& Int32.toUInt32 31)).toInt32 lo hi := by
  obtain ⟨q1, q2⟩ := h
  have hx := i32_nn (x := x) (by omega)
  have e : ((x.toUInt32 >>> (y.toUInt32 &&& Int32.toUInt32 31)).toInt32).toBitVec.toNat = x.toBitVec.toNat / 2 ^ k := by
    show (x.toBitVec >>> ((y.toUInt32 &&& Int32.toUInt32 31).toBitVec % 32#32)).toNat = _
    rw [BitVec.ushiftRight_eq', hy, BitVec.toNat_ushiftRight, Nat.shiftRight_eq_div_pow]
  have p : (0 : Int) < 2 ^ k := Int.pow_pos (by decide)
  have l := Int.ediv_le_ediv p q1
  have u := Int.ediv_le_ediv p q2
  have c : ((x.toBitVec.toNat / 2 ^ k : Nat) : Int) = x.toInt / 2 ^ k := by
    rw [Int.natCast_ediv, hx]; simp
  have le : x.toBitVec.toNat / 2 ^ k ≤ x.toBitVec.toNat := Nat.div_le_self _ _
  have hb := x.toInt_lt
  have := i32_of (x := (x.toUInt32 >>> (y.toUInt32 &&& Int32.toUInt32 31)).toInt32) (by omega)
  exact ⟨by omega, by omega⟩
theorem i32_divT {x y : Int32} (h0 : 0 ≤ x.toInt) (h1 : 0 < y.toInt) : (x / y).toInt = x.toInt / y.toInt := by
  rw [Int32.toInt_div, Int.tdiv_eq_ediv_of_nonneg h0]
  have l : x.toInt / y.toInt ≤ x.toInt := Int.ediv_le_self _ h0
  have z : 0 ≤ x.toInt / y.toInt := Int.ediv_nonneg h0 (by omega)
  have hb := x.toInt_lt
  exact Int.bmod_eq_of_le (by omega) (by omega)
theorem In.div {x y : Int32} {a b c d lo hi : Int} (h : In x a b) (g : In y c d) (h0 : 0 ≤ a) (h00 : 0 < c) (h1 : lo ≤ a / d) (h2 : b / c ≤ hi) : In (x / y) lo hi := by
  obtain ⟨q1, q2⟩ := h
  obtain ⟨q3, q4⟩ := g
  have e := i32_divT (x := x) (y := y) (by omega) (by omega)
  have l1 : a / d ≤ x.toInt / d := Int.ediv_le_ediv (by omega) q1
  have l2 : x.toInt / d ≤ x.toInt / y.toInt := by
    have hy : 0 < y.toInt := by omega
    refine (Int.le_ediv_iff_mul_le hy).mpr ?_
    have t1 : x.toInt / d * y.toInt ≤ x.toInt / d * d := Int.mul_le_mul_of_nonneg_left q4 (Int.ediv_nonneg (by omega) (by omega))
    have t2 : x.toInt / d * d ≤ x.toInt := Int.ediv_mul_le _ (by omega)
    omega
  have u1 : x.toInt / y.toInt ≤ b / y.toInt := Int.ediv_le_ediv (by omega) q2
  have u2 : b / y.toInt ≤ b / c := by
    refine (Int.le_ediv_iff_mul_le h00).mpr ?_
    have t1 : b / y.toInt * c ≤ b / y.toInt * y.toInt := Int.mul_le_mul_of_nonneg_left q3 (Int.ediv_nonneg (by omega) (by omega))
    have t2 : b / y.toInt * y.toInt ≤ b := Int.ediv_mul_le _ (by omega)
    omega
  exact ⟨by omega, by omega⟩
theorem In.rem {x y : Int32} {a b c d lo hi : Int} (h : In x a b) (g : In y c d) (h0 : 0 ≤ a) (h00 : 0 < c) (h1 : lo ≤ 0 ∧ min b (d - 1) ≤ hi) : In (x - x / y * y) lo hi := by
  obtain ⟨q1, q2⟩ := h
  obtain ⟨q3, q4⟩ := g
  have e := i32_divT (x := x) (y := y) (by omega) (by omega)
  have hb := x.toInt_lt
  have z : 0 ≤ x.toInt / y.toInt := Int.ediv_nonneg (by omega) (by omega)
  have t2 : x.toInt / y.toInt * y.toInt ≤ x.toInt := Int.ediv_mul_le _ (by omega)
  have t0 : 0 ≤ x.toInt / y.toInt * y.toInt := Int.mul_nonneg z (by omega)
  have m := i32_mulT (x := x / y) (y := y) (by rw [e]; omega) (by rw [e]; omega)
  have s := i32_subT (x := x) (y := x / y * y) (by rw [m, e]; omega) (by rw [m, e]; omega)
  have r1 := Int.emod_nonneg x.toInt (show y.toInt ≠ 0 by omega)
  have r2 := Int.emod_lt_of_pos x.toInt (show 0 < y.toInt by omega)
  have r3 := Int.emod_def x.toInt y.toInt
  have r4 : y.toInt * (x.toInt / y.toInt) = x.toInt / y.toInt * y.toInt := Int.mul_comm _ _
  rw [m, e] at s
  exact ⟨by omega, by omega⟩
theorem In.i2c (x : Int32) : In ((x.toUInt32 % 65536).toInt32) 0 65535 := by
  have e : ((x.toUInt32 % 65536).toInt32).toBitVec.toNat = x.toUInt32.toBitVec.toNat % 65536 := rfl
  have l : x.toUInt32.toBitVec.toNat % 65536 < 65536 := Nat.mod_lt _ (by decide)
  have := i32_of (x := (x.toUInt32 % 65536).toInt32) (by omega)
  exact ⟨by omega, by omega⟩
theorem In.divs {x y : Int32} {a b c d lo hi : Int} (h : In x a b) (g : In y c d) (h0 : 0 < c ∧ c = d ∧ -c < a ∧ 0 ≤ b) (h1 : lo ≤ 0) (h2 : b / c ≤ hi) : In (x / y) lo hi := by
  obtain ⟨q1, q2⟩ := h
  obtain ⟨q3, q4⟩ := g
  by_cases q : 0 ≤ x.toInt
  · have := In.div (x := x) (y := y) (a := 0) (b := b) (c := c) (d := d) (lo := 0) (hi := hi) ⟨q, q2⟩ ⟨q3, q4⟩ (Int.le_refl _) h0.1 (by rw [Int.zero_ediv]; omega) h2
    exact this.mono h1 (Int.le_refl _)
  · have e : (x / y).toInt = 0 := by
      rw [Int32.toInt_div]
      have t : x.toInt.tdiv y.toInt = 0 := by
        have e2 : x.toInt = -(-x.toInt) := by omega
        rw [e2, Int.neg_tdiv, Int.tdiv_eq_ediv_of_nonneg (by omega), Int.ediv_eq_zero_of_lt (by omega) (by omega)]
        rfl
      rw [t]
      rfl
    have z : 0 ≤ b / c := Int.ediv_nonneg h0.2.2.2 (by omega)
    exact ⟨by omega, by omega⟩
theorem nlt0 {x : Int32} (h : 0 ≤ x.toInt) : ¬ x < 0 := fun c => by
  rw [i32_lt] at c
  have e0 : (0 : Int32).toInt = 0 := by decide
  omega
theorem In.orc (k q : Nat) {x y : Int32} {c d lo hi : Int} (g : In y c d) (h0 : 0 ≤ c ∧ d < 2 ^ k) (hx : x.toBitVec.toNat = 2 ^ k * q) (h1 : lo ≤ 2 ^ k * (q : Int)) (h2 : 2 ^ k * (q : Int) + 2 ^ k - 1 ≤ hi ∧ hi ≤ 2147483647) : In (x ||| y) lo hi := by
  obtain ⟨q3, q4⟩ := g
  have hy := i32_nn (x := y) (by omega)
  have c1 : (2 : Int) ^ k = ((2 ^ k : Nat) : Int) := ip2 k
  have e : (x ||| y).toBitVec.toNat = 2 ^ k * q + y.toBitVec.toNat := by
    show (x.toBitVec ||| y.toBitVec).toNat = _
    rw [BitVec.toNat_or, hx, Nat.two_pow_add_eq_or_of_lt (by omega)]
  rw [c1] at h0 h1 h2
  have m : ((2 ^ k : Nat) : Int) * (q : Int) = ((2 ^ k * q : Nat) : Int) := by simp
  rw [m] at h1 h2
  have := i32_of (x := x ||| y) (by omega)
  exact ⟨by omega, by omega⟩
theorem In.max {x y : Int32} {a b c d lo hi : Int} (h : In x a b) (g : In y c d) (h1 : lo ≤ max a c) (h2 : max b d ≤ hi) : In (if x < y then y else x) lo hi := by
  obtain ⟨q1, q2⟩ := h
  obtain ⟨q3, q4⟩ := g
  by_cases q : x < y
  · rw [if_pos q]; rw [i32_lt] at q; exact ⟨by omega, by omega⟩
  · rw [if_neg q]; rw [i32_lt] at q; exact ⟨by omega, by omega⟩
theorem In.min {x y : Int32} {a b c d lo hi : Int} (h : In x a b) (g : In y c d) (h1 : lo ≤ min a c) (h2 : min b d ≤ hi) : In (if y < x then y else x) lo hi := by
  obtain ⟨q1, q2⟩ := h
  obtain ⟨q3, q4⟩ := g
  by_cases q : y < x
  · rw [if_pos q]; rw [i32_lt] at q; exact ⟨by omega, by omega⟩
  · rw [if_neg q]; rw [i32_lt] at q; exact ⟨by omega, by omega⟩
