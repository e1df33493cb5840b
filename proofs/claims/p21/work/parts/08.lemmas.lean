/-! small facts -/
theorem i32_lt {a b : Int32} : a < b ↔ a.toInt < b.toInt := Int32.lt_iff_toInt_lt
theorem i32_le {a b : Int32} : a ≤ b ↔ a.toInt ≤ b.toInt := Int32.le_iff_toInt_le
theorem cp_lt_f_ge {x y : Int32} {G : Prop} (h : ¬ x < y) (c : ¬ y ≤ x) : G := absurd (i32_le.mpr (by rw [i32_lt] at h; omega)) c
theorem cp_lt_t_ge {x y : Int32} {G : Prop} (h : x < y) (c : y ≤ x) : G := by rw [i32_lt] at h; rw [i32_le] at c; omega
theorem cp_le_f_gt {x y : Int32} {G : Prop} (h : ¬ x ≤ y) (c : ¬ y < x) : G := by rw [i32_le] at h; rw [i32_lt] at c; omega
theorem cp_le_t_gt {x y : Int32} {G : Prop} (h : x ≤ y) (c : y < x) : G := by rw [i32_le] at h; rw [i32_lt] at c; omega
theorem cp_gt_f_le {x y : Int32} {G : Prop} (h : ¬ y < x) (c : ¬ x ≤ y) : G := by rw [i32_lt] at h; rw [i32_le] at c; omega
theorem cp_gt_t_le {x y : Int32} {G : Prop} (h : y < x) (c : x ≤ y) : G := by rw [i32_lt] at h; rw [i32_le] at c; omega
theorem cp_eq_f_ne {x y : Int32} {G : Prop} (h : ¬ x = y) (c : x = y) : G := absurd c h
theorem cp_ne_t_eq {x y : Int32} {G : Prop} (h : ¬ x = y) (c : x = y) : G := absurd c h
theorem cp_ne_f_eq {x y : Int32} {G : Prop} (h : x = y) (c : ¬ x = y) : G := absurd h c
theorem cp_eq_t_ne {x y : Int32} {G : Prop} (h : x = y) (c : ¬ x = y) : G := absurd h c
theorem tb_out {x : Int32} {lo hi : Int} (h1 : -2147483648 ≤ lo) (h2 : hi ≤ 2147483647) (h : ∀ k : Int, lo ≤ k → k ≤ hi → x ≠ Int32.ofInt k) : x.toInt < lo ∨ hi < x.toInt := by
  by_cases a : x.toInt < lo
  · exact Or.inl a
  · by_cases b : hi < x.toInt
    · exact Or.inr b
    · exact absurd (by rw [Int32.ofInt_toInt]) (h x.toInt (by omega) (by omega))
theorem ne_ti {x y : Int32} {k : Int} (h : ¬ x = y) (hk : y.toInt = k) : ¬ x.toInt = k := fun e => h (Int32.toInt_inj.mp (e.trans hk.symm))
theorem in_of2 {x k : Int32} {n : Nat} (hk : k.toInt = n) (h0 : ¬ x < 0) (h1 : x < k) : vp_in x n := by
  rw [vp_in_iff]
  rw [i32_lt] at h0 h1
  have e : (0 : Int32).toInt = 0 := by decide
  omega

theorem lt_nle {x y : Int32} (h : x < y) : ¬ y ≤ x := fun c => by rw [i32_lt] at h; rw [i32_le] at c; omega
theorem ne_ti2 {x y : Int32} {k : Int} (h : ¬ x = y) (hk : y.toInt = k) : ¬ k = x.toInt := fun e => ne_ti h hk e.symm

def stp (k b : Int32) : Int32 := if b = 0 then k else k + 1
def byU (v s : Int32) : Int32 := (v.toUInt32 >>> (s.toUInt32 &&& Int32.toUInt32 31)).toInt32 &&& 255
def byS (v s : Int32) : Int32 := (v >>> (s &&& 31)) &&& 255
def l4U (k v : Int32) : Int32 := stp (stp (stp (stp k (byU v 24)) (byU v 16)) (byU v 8)) (byU v 0)
def l4S (k v : Int32) : Int32 := stp (stp (stp (stp k (byS v 24)) (byS v 16)) (byS v 8)) (byS v 0)
def fdU (a b c d e : Int32) : Int32 := l4U (l4U (l4U (l4U (l4U 0 a) b) c) d) e
def fdS (a b c d e : Int32) : Int32 := l4S (l4S (l4S (l4S (l4S 0 a) b) c) d) e
def Bd (x : Int32) (n : Int) : Prop := 0 ≤ x.toInt ∧ x.toInt ≤ n
theorem Bd.z : Bd 0 0 := by unfold Bd; decide
theorem i32_add {a b : Int32} (h1 : -2147483648 ≤ a.toInt + b.toInt) (h2 : a.toInt + b.toInt ≤ 2147483647) : (a + b).toInt = a.toInt + b.toInt := by
  rw [Int32.toInt_add]
  exact Int.bmod_eq_of_le (by omega) (by omega)
theorem Bd.add {x y : Int32} {n k : Int} (h : Bd x n) (g : Bd y k) (hn : n + k ≤ 2147483647) : Bd (x + y) (n + k) := by
  obtain ⟨h1, h2⟩ := h
  obtain ⟨g1, g2⟩ := g
  have e := i32_add (a := x) (b := y) (by omega) (by omega)
  exact ⟨by omega, by omega⟩
theorem Bd.s {x : Int32} {n : Int} (h : Bd x n) (hn : n + 1 ≤ 2147483647) : Bd (x + 1) (n + 1) := Bd.add h (by unfold Bd; decide) hn
theorem Bd.mono {x : Int32} {n k : Int} (h : Bd x n) (hn : n ≤ k) : Bd x k := ⟨h.1, Int.le_trans h.2 hn⟩
theorem Bd.st {x b : Int32} {n : Int} (h : Bd x n) (hn : n + 1 ≤ 2147483647) : Bd (stp x b) (n + 1) := by
  unfold stp
  split
  · exact h.mono (by omega)
  · exact h.s hn
theorem Bd.lU {x v : Int32} {n : Int} (h : Bd x n) (hn : n + 4 ≤ 2147483647) : Bd (l4U x v) (n + 4) := ((((h.st (by omega)).st (by omega)).st (by omega)).st (by omega)).mono (by omega)
theorem Bd.lS {x v : Int32} {n : Int} (h : Bd x n) (hn : n + 4 ≤ 2147483647) : Bd (l4S x v) (n + 4) := ((((h.st (by omega)).st (by omega)).st (by omega)).st (by omega)).mono (by omega)
theorem Bd.in {x : Int32} {n : Int} {k : Nat} (h : Bd x n) (hn : n < k) : vp_in x k := by
  rw [vp_in_iff]
  exact ⟨h.1, Int.lt_of_le_of_lt h.2 hn⟩
theorem Bd.lt {x y : Int32} {n k : Int} {G : Prop} (h : Bd x n) (hk : y.toInt = k) (hn : n < k) (c : y ≤ x) : G := by
  rw [i32_le] at c
  have := h.2
  omega
theorem Bd.le {x y : Int32} {n k : Int} {G : Prop} (h : Bd x n) (hk : y.toInt = k) (hn : n ≤ k) (c : ¬ x ≤ y) : G := by
  rw [i32_le] at c
  have := h.2
  omega
theorem bv8 : ∀ j : Fin 32, 8 ≤ j.val → (255#32)[j.val] = false := by decide
theorem bvb (x : BitVec 32) (s : Nat) (hs : s ≤ 24) : (x >>> s) &&& 255#32 = (x.sshiftRight s) &&& 255#32 := by
  ext i hi
  simp only [BitVec.getElem_and]
  by_cases h : i < 8
  · have e : s + i < 32 := by omega
    rw [BitVec.getElem_ushiftRight, BitVec.getElem_sshiftRight]
    simp [e, BitVec.getLsbD_eq_getElem]
  · have := bv8 ⟨i, hi⟩ (by simp; omega)
    simp only at this
    rw [this]
    simp
theorem by24 (v : Int32) : byU v 24 = byS v 24 := Int32.toBitVec_inj.mp (bvb v.toBitVec 24 (by omega))
theorem by16 (v : Int32) : byU v 16 = byS v 16 := Int32.toBitVec_inj.mp (bvb v.toBitVec 16 (by omega))
theorem by8 (v : Int32) : byU v 8 = byS v 8 := Int32.toBitVec_inj.mp (bvb v.toBitVec 8 (by omega))
theorem by0 (v : Int32) : byU v 0 = byS v 0 := Int32.toBitVec_inj.mp (bvb v.toBitVec 0 (by omega))
theorem fdUS (a b c d e : Int32) : fdU a b c d e = fdS a b c d e := by simp only [fdU, fdS, l4U, l4S, by24, by16, by8, by0]
def isInV (v a b : Int64) : Int32 := if lg_cmp v a < 0 then 0 else if 0 < lg_cmp v b then 0 else 1
theorem isIn0 {v a b : Int64} : isInV v a b = 0 ↔ v < a ∨ b < v := by
  unfold isInV lg_cmp
  simp only [gt_iff_lt, Int64.lt_iff_toInt_lt, ← Int64.toInt_inj]
  repeat' split
  all_goals (constructor <;> intro hh <;> first | omega | decide | (exfalso; revert hh; decide) | skip)
  all_goals first | omega | (simp_all; omega) | simp_all
theorem isIn_neg (v : Int64) : isInV v 0 (-1) = 0 := isIn0.mpr (by
  simp only [Int64.lt_iff_toInt_lt]
  have e1 : (0 : Int64).toInt = 0 := by decide
  have e2 : (-1 : Int64).toInt = -1 := by decide
  omega)
theorem isIn32 {x a b : Int32} : isInV x.toInt64 a.toInt64 b.toInt64 = 0 ↔ x < a ∨ b < x := by
  rw [isIn0]
  simp only [Int64.lt_iff_toInt_lt, Int32.lt_iff_toInt_lt, Int32.toInt_toInt64]
def grB (form n : Int32) : Int32 := if form = 0 then (n - 1) / 3 else (n - 1) / 4
def grV (form n : Int32) : Int32 := if form < 0 then (-1) else if 1 < form then (-1) else if n < 1 then (-1) else if n ≤ 100 then grB form n else (-1)
def grM (form n : Int32) : Int32 := if isInV form.toInt64 0 1 = 0 then (-1) else if isInV n.toInt64 1 100 = 0 then (-1) else if form = 0 then (n - 1) / 3 else (n - 1) / 4
theorem grMV (form n : Int32) : grV form n = grM form n := by
  have h1 : isInV form.toInt64 0 1 = 0 ↔ form < 0 ∨ 1 < form := isIn32 (a := 0) (b := 1)
  have h2 : isInV n.toInt64 1 100 = 0 ↔ n < 1 ∨ 100 < n := isIn32 (a := 1) (b := 100)
  unfold grM grV grB
  by_cases a1 : form < 0
  · rw [if_pos a1, if_pos (h1.mpr (Or.inl a1))]
  · rw [if_neg a1]
    by_cases a2 : 1 < form
    · rw [if_pos a2, if_pos (h1.mpr (Or.inr a2))]
    · rw [if_neg a2, if_neg (fun h => (h1.mp h).elim a1 a2)]
      by_cases a3 : n < 1
      · rw [if_pos a3, if_pos (h2.mpr (Or.inl a3))]
      · rw [if_neg a3]
        by_cases a4 : n ≤ 100
        · rw [if_pos a4, if_neg (fun h => (h2.mp h).elim a3 (fun q => by rw [i32_lt] at q; rw [i32_le] at a4; omega))]
        · rw [if_neg a4, if_pos (h2.mpr (Or.inr (by rw [i32_lt]; rw [i32_le] at a4; omega)))]
def statV (w : Int32) : Int32 := if w < 0 then (-1) else if w < 5 then 0 else (-1)
def statM (w : Int32) : Int32 := if isInV w.toInt64 0 4 = 0 then (-1) else 0
theorem statMV (w : Int32) : statV w = statM w := by
  have h1 : isInV w.toInt64 0 4 = 0 ↔ w < 0 ∨ 4 < w := isIn32 (a := 0) (b := 4)
  unfold statV statM
  have e5 : (5 : Int32).toInt = 5 := by decide
  have e4 : (4 : Int32).toInt = 4 := by decide
  by_cases a1 : w < 0
  · rw [if_pos a1, if_pos (h1.mpr (Or.inl a1))]
  · rw [if_neg a1]
    by_cases a2 : w < 5
    · rw [if_pos a2, if_neg (fun h => (h1.mp h).elim a1 (fun q => by rw [i32_lt] at q a2; omega))]
    · rw [if_neg a2, if_pos (h1.mpr (Or.inr (by rw [i32_lt] at a2 ⊢; omega)))]
theorem isIn_in {w : Int32} (h : ¬ isInV w.toInt64 0 4 = 0) : vp_in w 5 := by
  have h1 : isInV w.toInt64 0 4 = 0 ↔ w < 0 ∨ 4 < w := isIn32 (a := 0) (b := 4)
  rw [h1] at h
  have e4 : (4 : Int32).toInt = 4 := by decide
  have e0 : (0 : Int32).toInt = 0 := by decide
  rw [vp_in_iff]
  simp only [i32_lt, not_or] at h
  omega
