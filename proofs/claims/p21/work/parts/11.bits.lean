/-! single bits -/
def tb (x : Int32) (k : Nat) : Bool := x.toBitVec.getLsbD k
theorem ush_k : ∀ k : Fin 32, (((Int32.ofNat k.val).toUInt32 &&& Int32.toUInt32 31).toBitVec % 32#32).toNat = k.val := by decide
theorem i32_ofn {n : Int32} {k : Nat} (hk : k < 32) (h : n.toInt = (k : Int)) : n = Int32.ofNat k := by
  apply Int32.toInt_inj.mp
  rw [Int32.toInt_ofNat_of_lt (by omega)]
  exact h
theorem bit_tb {z0 z1 x1 x2 : Int32} {k : Nat} (e1 : x1 = (z0.toUInt32 >>> (z1.toUInt32 &&& Int32.toUInt32 31)).toInt32) (e2 : x2 = x1 &&& 1) (hk : k < 32) (hz : z1.toInt = (k : Int)) : x2.toInt = if tb z0 k then 1 else 0 := by
  have ez := i32_ofn hk hz
  have s1 : x1.toBitVec = z0.toBitVec >>> k := by
    rw [e1]
    show z0.toBitVec >>> ((z1.toUInt32 &&& Int32.toUInt32 31).toBitVec % 32#32) = _
    rw [BitVec.ushiftRight_eq', ez, ush_k ⟨k, hk⟩]
  have s2 : x2.toBitVec.toNat = (z0.toBitVec.toNat >>> k) &&& 1 := by
    rw [e2]
    show (x1.toBitVec &&& 1#32).toNat = _
    rw [s1, BitVec.toNat_and, BitVec.toNat_ushiftRight]
    rfl
  have s3 : (z0.toBitVec.toNat >>> k) &&& 1 = (z0.toBitVec.toNat >>> k) % 2 := Nat.and_one_is_mod _
  have t : tb z0 k = ((z0.toBitVec.toNat >>> k) % 2 == 1) := by
    show z0.toBitVec.toNat.testBit k = _
    rw [Nat.testBit, Nat.and_comm, Nat.and_one_is_mod]
    rcases Nat.mod_two_eq_zero_or_one (z0.toBitVec.toNat >>> k) with q | q <;> rw [q] <;> rfl
  have l : (z0.toBitVec.toNat >>> k) % 2 < 2 := Nat.mod_lt _ (by decide)
  have e := i32_of (x := x2) (by omega)
  rw [e, s2, s3, t]
  rcases Nat.mod_two_eq_zero_or_one (z0.toBitVec.toNat >>> k) with q | q <;> rw [q] <;> rfl
theorem tb_or (x y : Int32) (k : Nat) : tb (x ||| y) k = (tb x k || tb y k) := by
  show (x.toBitVec ||| y.toBitVec).getLsbD k = _
  rw [BitVec.getLsbD_or]
  rfl
/-! counting bits below 2 ^ 9 -/
def pc9 (n : Nat) : Nat := (List.range 9).foldl (fun s k => s + (if n.testBit k then 1 else 0)) 0
theorem pc9_or : ∀ n : Fin 512, ∀ k : Fin 9, pc9 (n.val ||| 2 ^ k.val) ≤ pc9 n.val + 1 := by decide +kernel
theorem pc9_full : ∀ n : Fin 512, pc9 n.val ≤ 8 → n.val ≤ 510 := by decide +kernel
def us (x k : Int32) : Int32 := (x.toUInt32 >>> (k.toUInt32 &&& Int32.toUInt32 31)).toInt32
def bc1 (x : Int32) : Int32 := x - (us x 1 &&& 1431655765)
def bc2 (x : Int32) : Int32 := (x &&& 858993459) + (us x 2 &&& 858993459)
def bc3 (x : Int32) : Int32 := (x + us x 4) &&& 252645135
def bc4 (x : Int32) : Int32 := x + us x 8
def bc5 (x : Int32) : Int32 := x + us x 16
def bcx (x : Int32) : Int32 := bc5 (bc4 (bc3 (bc2 (bc1 x)))) &&& 63
theorem bc_511 : ∀ n : Fin 511, In (bcx (Int32.ofNat n.val)) 0 8 := by unfold In; decide +kernel
theorem bc_512 : ∀ n : Fin 512, In (bcx (Int32.ofNat n.val)) 0 9 := by unfold In; decide +kernel
theorem bc8 {x r : Int32} (h : In x 0 510) (e : r = bcx x) : In r 0 8 := by
  obtain ⟨h1, h2⟩ := h
  have ex : x = Int32.ofNat x.toInt.toNat := by
    apply Int32.toInt_inj.mp
    rw [Int32.toInt_ofNat_of_lt (by omega)]
    omega
  rw [e, ex]
  exact bc_511 ⟨x.toInt.toNat, by omega⟩
theorem bc9 {x r : Int32} (h : In x 0 511) (e : r = bcx x) : In r 0 9 := by
  obtain ⟨h1, h2⟩ := h
  have ex : x = Int32.ofNat x.toInt.toNat := by
    apply Int32.toInt_inj.mp
    rw [Int32.toInt_ofNat_of_lt (by omega)]
    omega
  rw [e, ex]
  exact bc_512 ⟨x.toInt.toNat, by omega⟩
