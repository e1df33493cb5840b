/-! small facts -/
theorem i32_lt {a b : Int32} : a < b ↔ a.toInt < b.toInt := Int32.lt_iff_toInt_lt
theorem i32_le {a b : Int32} : a ≤ b ↔ a.toInt ≤ b.toInt := Int32.le_iff_toInt_le
theorem cp_lt_f_ge {x y : Int32} {G : Prop} (h : ¬ x < y) (c : ¬ y ≤ x) : G := absurd (i32_le.mpr (by rw [i32_lt] at h; omega)) c
theorem cp_lt_t_ge {x y : Int32} {G : Prop} (h : x < y) (c : y ≤ x) : G := by rw [i32_lt] at h; rw [i32_le] at c; omega
theorem cp_le_f_gt {x y : Int32} {G : Prop} (h : ¬ x ≤ y) (c : ¬ y < x) : G := by rw [i32_le] at h; rw [i32_lt] at c; omega
theorem cp_le_t_gt {x y : Int32} {G : Prop} (h : x ≤ y) (c : y < x) : G := by rw [i32_le] at h; rw [i32_lt] at c; omega
theorem cp_gt_f_le {x y : Int32} {G : Prop} (h : ¬ y < x) (c : ¬ x ≤ y) : G := by rw [i32_lt] at h; rw [i32_le] at c; omega
theorem cp_gt_t_le {x y : Int32} {G : Prop} (h : y < x) (c : x ≤ y) : G := by rw [i32_lt] at h; rw [i32_le] at c; omega
theorem cp_eq_f_ne {x y : Int32} {G : Prop} (h : ¬ x = y) (c : x = y) : G := absurd c h
theorem cp_ne_t_eq {x y : Int32} {G : Prop} (h : ¬ x = y) (c : x = y) : G := absurd c h
theorem cp_ne_f_eq {x y : Int32} {G : Prop} (h : x = y) (c : ¬ x = y) : G := absurd h c
theorem cp_eq_t_ne {x y : Int32} {G : Prop} (h : x = y) (c : ¬ x = y) : G := absurd h c
theorem tb_out {x : Int32} {lo hi : Int} (h1 : -2147483648 ≤ lo) (h2 : hi ≤ 2147483647) (h : ∀ k : Int, lo ≤ k → k ≤ hi → x ≠ Int32.ofInt k) : x.toInt < lo ∨ hi < x.toInt := by
  by_cases a : x.toInt < lo
  · exact Or.inl a
  · by_cases b : hi < x.toInt
    · exact Or.inr b
    · exact absurd (by rw [Int32.ofInt_toInt]) (h x.toInt (by omega) (by omega))
theorem ne_ti {x y : Int32} {k : Int} (h : ¬ x = y) (hk : y.toInt = k) : ¬ x.toInt = k := fun e => h (Int32.toInt_inj.mp (e.trans hk.symm))
theorem in_of2 {x k : Int32} {n : Nat} (hk : k.toInt = n) (h0 : ¬ x < 0) (h1 : x < k) : vp_in x n := by
  rw [vp_in_iff]
  rw [i32_lt] at h0 h1
  have e : (0 : Int32).toInt = 0 := by decide
  omega

theorem lt_nle {x y : Int32} (h : x < y) : ¬ y ≤ x := fun c => by rw [i32_lt] at h; rw [i32_le] at c; omega
theorem ne_ti2 {x y : Int32} {k : Int} (h : ¬ x = y) (hk : y.toInt = k) : ¬ k = x.toInt := fun e => ne_ti h hk e.symm
def grB (form n : Int32) : Int32 := if form = 0 then (n - 1) / 3 else (n - 1) / 4
def endV (n : Int32) : Int32 := if n < 0 then 0 else if n ≤ 0 then 1 else 0
def ruleV (w : Int32) : Int32 := if w = 10 then 0 else (-1000000)
def grV (form n : Int32) : Int32 := if form < 0 then (-1) else if 1 < form then (-1) else if n < 1 then (-1) else if n ≤ 100 then grB form n else (-1)
def statV (w : Int32) : Int32 := if w < 0 then (-1) else if w < 5 then 0 else (-1)
def cntV (w : Int32) : Int32 := if w = 0 then 0 else if w = 1 then 0 else if w = 2 then 0 else (-1)
def fltV (w : Int32) : Int32 := if w = 0 then 0 else if w = 1 then 0 else (-2)
def isInV (v a b : Int64) : Int32 := if lg_cmp v a < 0 then 0 else if 0 < lg_cmp v b then 0 else 1
