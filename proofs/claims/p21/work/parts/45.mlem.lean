/-! a set of FALSE ones below all: kept closed -/
def CAPq (v n : Int32) : Prop := v.toInt = 0 ∨ v.toInt + 2 ≤ 2 ^ n.toInt.toNat
/-! the reference: bytes, digits -/
theorem In.mule {x y z : Int32} {a b c d p q : Int} (e : z = x * y) (h : In x a b) (g : In y c d) (h0 : 0 ≤ a) (h00 : 0 ≤ c) (hm : b * d ≤ 2147483647) (hp : x.toInt = p) (hq : y.toInt = q) : z.toInt = p * q := by
  obtain ⟨q1, q2⟩ := h
  obtain ⟨q3, q4⟩ := g
  have u : x.toInt * y.toInt ≤ b * d := Int.mul_le_mul q2 q4 (Int.le_trans h00 q3) (Int.le_trans h0 (Int.le_trans q1 q2))
  have w : 0 ≤ x.toInt * y.toInt := Int.mul_nonneg (Int.le_trans h0 q1) (Int.le_trans h00 q3)
  rw [e, i32_mulT (by omega) (by omega), hp, hq]
def b1 (z k : Int32) : Int := if byS z k = 0 then 0 else 1
theorem b1_0 {z k : Int32} (h : byS z k = 0) : b1 z k = 0 := by unfold b1; rw [if_pos h]
theorem b1_1 {z k : Int32} (h : ¬ byS z k = 0) : b1 z k = 1 := by unfold b1; rw [if_neg h]
theorem b1_r (z k : Int32) : 0 ≤ b1 z k ∧ b1 z k ≤ 1 := by
  unfold b1
  split <;> decide
def nb (z : Int32) : Int := b1 z 24 + b1 z 16 + b1 z 8 + b1 z 0
theorem nb_r (z : Int32) : (0 ≤ nb z ∧ nb z ≤ 4) ∧ nb z = b1 z 24 + b1 z 16 + b1 z 8 + b1 z 0 ∧ (0 ≤ b1 z 24 ∧ b1 z 24 ≤ 1) ∧ (0 ≤ b1 z 16 ∧ b1 z 16 ≤ 1) ∧ (0 ≤ b1 z 8 ∧ b1 z 8 ≤ 1) ∧ (0 ≤ b1 z 0 ∧ b1 z 0 ≤ 1) := by
  have h1 := b1_r z 24
  have h2 := b1_r z 16
  have h3 := b1_r z 8
  have h4 := b1_r z 0
  have e : nb z = b1 z 24 + b1 z 16 + b1 z 8 + b1 z 0 := rfl
  refine ⟨⟨by omega, by omega⟩, e, h1, h2, h3, h4⟩
def sK (z : Int32) (k : Int) : Int := (if k < 24 then b1 z 24 else 0) + (if k < 16 then b1 z 16 else 0) + (if k < 8 then b1 z 8 else 0) + (if k < 0 then b1 z 0 else 0)
theorem sK_0 {z : Int32} : sK z 24 = 0 := by unfold sK; simp
theorem sK_step {z k : Int32} (h : k.toInt = 24 ∨ k.toInt = 16 ∨ k.toInt = 8 ∨ k.toInt = 0) : sK z (k.toInt + -8) = sK z k.toInt + b1 z k ∧ sK z k.toInt + b1 z k ≤ nb z := by
  have hr := nb_r z
  have k24 : k.toInt = 24 → k = 24 := fun q => Int32.toInt_inj.mp (q.trans (by decide))
  have k16 : k.toInt = 16 → k = 16 := fun q => Int32.toInt_inj.mp (q.trans (by decide))
  have k8 : k.toInt = 8 → k = 8 := fun q => Int32.toInt_inj.mp (q.trans (by decide))
  have k0 : k.toInt = 0 → k = 0 := fun q => Int32.toInt_inj.mp (q.trans (by decide))
  rcases h with q | q | q | q
  · rw [q, k24 q]; unfold sK; simp; omega
  · rw [q, k16 q]; unfold sK; simp; omega
  · rw [q, k8 q]; unfold sK; simp; omega
  · rw [q, k0 q]; unfold sK; simp; omega
theorem sK_end {z k : Int32} (h : k.toInt = 24 ∨ k.toInt = 16 ∨ k.toInt = 8 ∨ k.toInt = 0 ∨ k.toInt = -8) (q : k.toInt < 0) : sK z k.toInt = nb z := by
  have e : k.toInt = -8 := by omega
  rw [e]
  unfold sK nb
  simp
theorem or0 (x : Int32) : x ||| 0 = x := by
  apply Int32.toBitVec_inj.mp
  show x.toBitVec ||| 0#32 = x.toBitVec
  simp
theorem dg_at {row : Nat → Int32} {z : Int} {r : Int32} (hr : In (row z.toNat) (-128) 127) (hc : In r 48 57) (h : r.toInt = -1 ∨ r.toInt = (row z.toNat).toInt % 256) : In (row z.toNat) 48 57 := by
  obtain ⟨a, b⟩ := hr
  obtain ⟨c, d⟩ := hc
  exact ⟨by omega, by omega⟩
theorem dg_step {row : Nat → Int32} {a z : Int} (h : ∀ i : Nat, a ≤ (i : Int) → (i : Int) < z → In (row i) 48 57) (hn : In (row z.toNat) 48 57) (i : Nat) (q1 : a ≤ (i : Int)) (q2 : (i : Int) < z + 1) : In (row i) 48 57 := by
  by_cases q : (i : Int) < z
  · exact h i q1 q
  · have e : z.toNat = i := by omega
    rw [← e]; exact hn
/-! the reference: what holds between calls -/
def MI (th : Nat → Int) : Prop := (th 15 = 0 ∨ 3 ≤ th 11) ∧ (0 ≤ th 12 ∧ th 12 ≤ 6) ∧ th 20 = th 12 * rnd (th 10) ∧ th 21 = th 11 ∧ th 22 = 2126 ∧ (th 17 = 0 ∨ th 23 = 2126) ∧ th 24 = 2126 * th 16 ∧ (0 ≤ th 16 ∧ th 16 ≤ 20) ∧ (0 ≤ th 19 ∧ th 19 ≤ th 20) ∧ (0 ≤ th 11 ∧ th 11 ≤ 9)
theorem MI.c {th th' : Nat → Int} (h : MI th) (s : SBC th th') : MI th' := by
  unfold MI at h ⊢
  rw [s 10 (by decide) (by decide), s 11 (by decide) (by decide), s 12 (by decide) (by decide), s 15 (by decide) (by decide), s 16 (by decide) (by decide), s 17 (by decide) (by decide), s 19 (by decide) (by decide), s 20 (by decide) (by decide), s 21 (by decide) (by decide), s 22 (by decide) (by decide), s 23 (by decide) (by decide), s 24 (by decide) (by decide)]
  exact h
theorem mi20 {p q z : Int} (h : 0 ≤ p ∧ p ≤ 6) (e : q = p * rnd z) : 0 ≤ q ∧ q ≤ 18 ∧ q ≤ 6 * rnd z := by
  rcases rnd_c z with c | c <;> rw [c] at e ⊢ <;> omega
theorem cn20 {p z : Int} (h : 0 ≤ p) : 0 ≤ p * rnd z := by
  rcases rnd_c z with c | c <;> rw [c] <;> omega
theorem capM2 {v n : Int32} {c z : Int} (h : v.toInt = 0 ∨ v.toInt + 2 ≤ 2 ^ c.toNat) (hn : n.toInt = z) (hc : c = z) : v.toInt = 0 ∨ v.toInt + 2 ≤ 2 ^ n.toInt.toNat := by
  rw [hn, ← hc]; exact h
theorem vp_cl {i : Int32} (h : 0 ≤ i.toInt) : (i.toNatClampNeg : Int) = i.toInt := by
  have e : i.toNatClampNeg = i.toInt.toNat := rfl
  omega
theorem pred_e {L c : Int} {a b : Nat} {x : Int32} (h : PRED L c a x) (e : a = b) : PRED L c b x := e ▸ h
theorem prw_c {n : Nat} {v v' L c : Int} {r : Nat → Int32} (h : PRW n v L c r) (e : v = v') : PRW n v' L c r := e ▸ h
theorem ph5 {x y v : Int32} {z q : Int} {a b : Int} (e : v = x / y) (h0 : 0 ≤ x.toInt) (hy : y.toInt = rnd z) (h6 : x.toInt < q ∧ q ≤ 6 * rnd z) (g : In v a b) : In v a 5 := by
  have d := div_b e h0 hy
  obtain ⟨g1, g2⟩ := g
  refine ⟨g1, ?_⟩
  rcases rnd_c z with c | c <;> rw [c] at d h6 <;> omega
theorem mulr {x y : Int32} (h : In x 0 6) (g : In y 2 3) : (x * y).toInt = x.toInt * y.toInt := by
  obtain ⟨a, b⟩ := h
  obtain ⟨c, d⟩ := g
  have t1 : 0 ≤ x.toInt * y.toInt := Int.mul_nonneg a (by omega)
  have t2 : x.toInt * y.toInt ≤ 6 * 3 := Int.mul_le_mul b d (by omega) (by decide)
  exact i32_mulT (by omega) (by omega)
/-! the first PEER that isn't FALSE -/
def fz9 (n : Nat) : Nat := if n / 1 % 2 = 0 then 0 else if n / 2 % 2 = 0 then 1 else if n / 4 % 2 = 0 then 2 else if n / 8 % 2 = 0 then 3 else if n / 16 % 2 = 0 then 4 else if n / 32 % 2 = 0 then 5 else if n / 64 % 2 = 0 then 6 else if n / 128 % 2 = 0 then 7 else if n / 256 % 2 = 0 then 8 else 9
def fzI (z : Int) : Int := fz9 z.toNat
theorem fz_9 : ∀ n : Fin 512, fz9 n.val ≤ 9 := by decide +kernel
theorem fz_stepN : ∀ n : Fin 512, ∀ k : Fin 10, k.val ≤ fz9 n.val → n.val / 2 ^ k.val % 2 = 1 → k.val + 1 ≤ fz9 n.val := by decide +kernel
theorem fz_capN : ∀ n : Fin 512, ∀ s : Fin 10, (n.val = 0 ∨ n.val + 2 ≤ 2 ^ s.val) → 1 ≤ s.val → fz9 n.val < s.val := by decide +kernel
theorem fz_step {z i : Int} (h : 0 ≤ z ∧ z ≤ 511) (hi : 0 ≤ i) (q : i ≤ fzI z) (b : bitI z i = 1) : i + 1 ≤ fzI z := by
  have f9 : fz9 z.toNat ≤ 9 := fz_9 ⟨z.toNat, by omega⟩
  have e : fzI z = fz9 z.toNat := rfl
  unfold bitI at b
  have hz : z = (z.toNat : Int) := by omega
  have c : z / 2 ^ i.toNat % 2 = ((z.toNat / 2 ^ i.toNat % 2 : Nat) : Int) := by
    conv => lhs; rw [hz]
    simp
  rw [c] at b
  have r := fz_stepN ⟨z.toNat, by omega⟩ ⟨i.toNat, by omega⟩ (by show i.toNat ≤ fz9 z.toNat; omega) (by show z.toNat / 2 ^ i.toNat % 2 = 1; omega)
  have r2 : i.toNat + 1 ≤ fz9 z.toNat := r
  omega
theorem fz_capI {z n : Int} (h : 0 ≤ z ∧ z ≤ 511) (hn : 1 ≤ n ∧ n ≤ 9) (c : capI z n) : 0 ≤ fzI z ∧ fzI z < n := by
  have e : fzI z = fz9 z.toNat := rfl
  unfold capI at c
  rw [ip2] at c
  have r := fz_capN ⟨z.toNat, by omega⟩ ⟨n.toNat, by omega⟩ (by show z.toNat = 0 ∨ z.toNat + 2 ≤ 2 ^ n.toNat; omega) (by show 1 ≤ n.toNat; omega)
  have r2 : fz9 z.toNat < n.toNat := r
  omega
theorem lc_lt {x y : Int64} {c : Int32} (e : c = lg_cmp x y) (h : c < 0) : x.toInt < y.toInt := by
  rw [e, lg_cmp_lt] at h
  exact Int64.lt_iff_toInt_lt.mp h
theorem lc_gt {x y : Int64} {c : Int32} (e : c = lg_cmp x y) (h : 0 < c) : y.toInt < x.toInt := by
  rw [e, lg_cmp_gt] at h
  exact Int64.lt_iff_toInt_lt.mp h
theorem pcS_N : ∀ n : Fin 512, n.val / 1 % 2 + n.val / 2 % 2 + n.val / 4 % 2 + n.val / 8 % 2 + n.val / 16 % 2 + n.val / 32 % 2 + n.val / 64 % 2 + n.val / 128 % 2 + n.val / 256 % 2 = pc9 n.val := by decide +kernel
theorem bitI_N {z : Int} (h : 0 ≤ z) (k : Nat) : bitI z (k : Int) = ((z.toNat / 2 ^ k % 2 : Nat) : Int) := by
  have hz : z = (z.toNat : Int) := by omega
  unfold bitI
  rw [show ((k : Int)).toNat = k by omega]
  conv => lhs; rw [hz]
  simp
theorem pcS_I {z : Int} (h : 0 ≤ z ∧ z ≤ 511) : bitI z 0 + bitI z 1 + bitI z 2 + bitI z 3 + bitI z 4 + bitI z 5 + bitI z 6 + bitI z 7 + bitI z 8 = pcI z := by
  have r : z.toNat / 1 % 2 + z.toNat / 2 % 2 + z.toNat / 4 % 2 + z.toNat / 8 % 2 + z.toNat / 16 % 2 + z.toNat / 32 % 2 + z.toNat / 64 % 2 + z.toNat / 128 % 2 + z.toNat / 256 % 2 = pc9 z.toNat := pcS_N ⟨z.toNat, by omega⟩
  have e : pcI z = ((pc9 z.toNat : Nat) : Int) := rfl
  have b0 : bitI z 0 = ((z.toNat / 1 % 2 : Nat) : Int) := bitI_N h.1 0
  have b1 : bitI z 1 = ((z.toNat / 2 % 2 : Nat) : Int) := bitI_N h.1 1
  have b2 : bitI z 2 = ((z.toNat / 4 % 2 : Nat) : Int) := bitI_N h.1 2
  have b3 : bitI z 3 = ((z.toNat / 8 % 2 : Nat) : Int) := bitI_N h.1 3
  have b4 : bitI z 4 = ((z.toNat / 16 % 2 : Nat) : Int) := bitI_N h.1 4
  have b5 : bitI z 5 = ((z.toNat / 32 % 2 : Nat) : Int) := bitI_N h.1 5
  have b6 : bitI z 6 = ((z.toNat / 64 % 2 : Nat) : Int) := bitI_N h.1 6
  have b7 : bitI z 7 = ((z.toNat / 128 % 2 : Nat) : Int) := bitI_N h.1 7
  have b8 : bitI z 8 = ((z.toNat / 256 % 2 : Nat) : Int) := bitI_N h.1 8
  rw [e, b0, b1, b2, b3, b4, b5, b6, b7, b8, ← r]
  simp only [Int.natCast_add]
theorem rnd_b (z : Int) : 2 ≤ rnd z ∧ rnd z ≤ 3 := by
  rcases rnd_c z with h | h <;> omega
def GHq (v : Int32) (z : Int) : Prop := v.toInt = z
set_option maxHeartbeats 4000000 in
set_option maxRecDepth 100000 in
theorem M0e {g : GG} {ad : Nat → Nat} {th : Nat → Int} {f : HP} (hT : TI g ad th f) {C : Prop} (k : ∀ (v0 : Int32) (v2 : Int32) (v3 : Int32) (v4 : Int32) (v5 : Int32) (v6 : Int32) (v8 : Int32) (v9 : Int32) (v12 : Int32) (v13 : Int32) (v14 : Int32) (v15 : Int32) (v16 : Int32) (v17 : Int32) (v18 : Int32) (v19 : Int32) (v20 : Int32) (v21 : Int64) (v22 : Int64) (v23 : Int32) (v25 : Int32) (v36 : Int32) (v37 : Int32) (v38 : Int32) (v39 : Int32) (v40 : Int32) (v45 : Int64) (v46 : Int64) (v47 : Int32) (v48 : Int32) (v50 : Int32) (v51 : Int32) (v53 : Int32) (v55 : Int32), f (ad 255) = .inr (10, [.int v0, .ref (ad 256), .int v2, .int v3, .int v4, .int v5, .int v6, .ref (ad 257), .int v8, .int v9, .ref (ad 258), .ref (ad 259), .int v12, .int v13, .int v14, .int v15, .int v16, .int v17, .int v18, .int v19, .int v20, .long v21, .long v22, .int v23, .ref (ad 260), .int v25, .ref (ad 261), .ref (ad 262), .ref (ad 263), .ref (ad 264), .ref (ad 265), .ref (ad 266), .ref (ad 267), .ref (ad 268), .ref (ad 269), .ref (ad 270), .int v36, .int v37, .int v38, .int v39, .int v40, .ref (ad 271), .ref (ad 272), .ref (ad 273), .ref (ad 274), .long v45, .long v46, .int v47, .int v48, .ref (ad 275), .int v50, .int v51, .ref (ad 276), .int v53, .ref (ad 277), .int v55]) → In v0 0 1 → In v2 0 500 → GHq v2 (th 13) → In v3 0 500 → GHq v3 (th 37) → In v4 (-1) 500 → GHq v4 (th 42) → In v5 0 500 → GHq v5 (th 40) → In v6 0 500 → GHq v6 (th 41) → In v8 (-1) 1 → GHq v8 (th 43) → In v9 0 63 → GHq v9 (th 35) → In v12 0 20 → In v13 0 20 → GHq v13 (th 36) → In v14 0 1 → GHq v14 (th 10) → In v15 0 9 → GHq v15 (th 11) → In v17 0 6 → GHq v17 (th 12) → In v20 0 511 → GHq v20 (th 14) → In v23 0 1 → GHq v23 (th 15) → In v25 0 30 → GHq v25 (th 44) → In v36 0 18 → GHq v36 (th 18) → In v47 0 20 → GHq v47 (th 16) → In v48 0 1 → GHq v48 (th 17) → In v53 0 400 → GHq v53 (th 38) → In v55 0 200 → GHq v55 (th 39) → CAPq v20 v15 → C) : C := by
  obtain ⟨v0, v2, v3, v4, v5, v6, v8, v9, v12, v13, v14, v15, v16, v17, v18, v19, v20, v21, v22, v23, v25, v36, v37, v38, v39, v40, v45, v46, v47, v48, v50, v51, v53, v55, hf, hv0, hv2, hg2, hv3, hg3, hv4, hg4, hv5, hg5, hv6, hg6, hv8, hg8, hv9, hg9, hv12, hv13, hg13, hv14, hg14, hv15, hg15, hv17, hg17, hv20, hg20, hv23, hg23, hv25, hg25, hv36, hg36, hv47, hg47, hv48, hg48, hv53, hg53, hv55, hg55, hr⟩ := hT.2.2 0 (by decide)
  exact k v0 v2 v3 v4 v5 v6 v8 v9 v12 v13 v14 v15 v16 v17 v18 v19 v20 v21 v22 v23 v25 v36 v37 v38 v39 v40 v45 v46 v47 v48 v50 v51 v53 v55 hf hv0 hv2 hg2 hv3 hg3 hv4 hg4 hv5 hg5 hv6 hg6 hv8 hg8 hv9 hg9 hv12 hv13 hg13 hv14 hg14 hv15 hg15 hv17 hg17 hv20 hg20 hv23 hg23 hv25 hg25 hv36 hg36 hv47 hg47 hv48 hg48 hv53 hg53 hv55 hg55 hr
theorem b0_13 {g : GG} {ad : Nat → Nat} {th : Nat → Int} {f : HP} (hT : TI g ad th f) : 0 ≤ th 13 ∧ th 13 ≤ 500 := by
  refine M0e hT (fun v0 v2 v3 v4 v5 v6 v8 v9 v12 v13 v14 v15 v16 v17 v18 v19 v20 v21 v22 v23 v25 v36 v37 v38 v39 v40 v45 v46 v47 v48 v50 v51 v53 v55 hf hv0 hv2 hg2 hv3 hg3 hv4 hg4 hv5 hg5 hv6 hg6 hv8 hg8 hv9 hg9 hv12 hv13 hg13 hv14 hg14 hv15 hg15 hv17 hg17 hv20 hg20 hv23 hg23 hv25 hg25 hv36 hg36 hv47 hg47 hv48 hg48 hv53 hg53 hv55 hg55 hr => ?_)
  have e : v2.toInt = th 13 := hg2
  rw [← e]; exact hv2
theorem b0_37 {g : GG} {ad : Nat → Nat} {th : Nat → Int} {f : HP} (hT : TI g ad th f) : 0 ≤ th 37 ∧ th 37 ≤ 500 := by
  refine M0e hT (fun v0 v2 v3 v4 v5 v6 v8 v9 v12 v13 v14 v15 v16 v17 v18 v19 v20 v21 v22 v23 v25 v36 v37 v38 v39 v40 v45 v46 v47 v48 v50 v51 v53 v55 hf hv0 hv2 hg2 hv3 hg3 hv4 hg4 hv5 hg5 hv6 hg6 hv8 hg8 hv9 hg9 hv12 hv13 hg13 hv14 hg14 hv15 hg15 hv17 hg17 hv20 hg20 hv23 hg23 hv25 hg25 hv36 hg36 hv47 hg47 hv48 hg48 hv53 hg53 hv55 hg55 hr => ?_)
  have e : v3.toInt = th 37 := hg3
  rw [← e]; exact hv3
theorem b0_42 {g : GG} {ad : Nat → Nat} {th : Nat → Int} {f : HP} (hT : TI g ad th f) : (-1) ≤ th 42 ∧ th 42 ≤ 500 := by
  refine M0e hT (fun v0 v2 v3 v4 v5 v6 v8 v9 v12 v13 v14 v15 v16 v17 v18 v19 v20 v21 v22 v23 v25 v36 v37 v38 v39 v40 v45 v46 v47 v48 v50 v51 v53 v55 hf hv0 hv2 hg2 hv3 hg3 hv4 hg4 hv5 hg5 hv6 hg6 hv8 hg8 hv9 hg9 hv12 hv13 hg13 hv14 hg14 hv15 hg15 hv17 hg17 hv20 hg20 hv23 hg23 hv25 hg25 hv36 hg36 hv47 hg47 hv48 hg48 hv53 hg53 hv55 hg55 hr => ?_)
  have e : v4.toInt = th 42 := hg4
  rw [← e]; exact hv4
theorem b0_40 {g : GG} {ad : Nat → Nat} {th : Nat → Int} {f : HP} (hT : TI g ad th f) : 0 ≤ th 40 ∧ th 40 ≤ 500 := by
  refine M0e hT (fun v0 v2 v3 v4 v5 v6 v8 v9 v12 v13 v14 v15 v16 v17 v18 v19 v20 v21 v22 v23 v25 v36 v37 v38 v39 v40 v45 v46 v47 v48 v50 v51 v53 v55 hf hv0 hv2 hg2 hv3 hg3 hv4 hg4 hv5 hg5 hv6 hg6 hv8 hg8 hv9 hg9 hv12 hv13 hg13 hv14 hg14 hv15 hg15 hv17 hg17 hv20 hg20 hv23 hg23 hv25 hg25 hv36 hg36 hv47 hg47 hv48 hg48 hv53 hg53 hv55 hg55 hr => ?_)
  have e : v5.toInt = th 40 := hg5
  rw [← e]; exact hv5
theorem b0_41 {g : GG} {ad : Nat → Nat} {th : Nat → Int} {f : HP} (hT : TI g ad th f) : 0 ≤ th 41 ∧ th 41 ≤ 500 := by
  refine M0e hT (fun v0 v2 v3 v4 v5 v6 v8 v9 v12 v13 v14 v15 v16 v17 v18 v19 v20 v21 v22 v23 v25 v36 v37 v38 v39 v40 v45 v46 v47 v48 v50 v51 v53 v55 hf hv0 hv2 hg2 hv3 hg3 hv4 hg4 hv5 hg5 hv6 hg6 hv8 hg8 hv9 hg9 hv12 hv13 hg13 hv14 hg14 hv15 hg15 hv17 hg17 hv20 hg20 hv23 hg23 hv25 hg25 hv36 hg36 hv47 hg47 hv48 hg48 hv53 hg53 hv55 hg55 hr => ?_)
  have e : v6.toInt = th 41 := hg6
  rw [← e]; exact hv6
theorem b0_43 {g : GG} {ad : Nat → Nat} {th : Nat → Int} {f : HP} (hT : TI g ad th f) : (-1) ≤ th 43 ∧ th 43 ≤ 1 := by
  refine M0e hT (fun v0 v2 v3 v4 v5 v6 v8 v9 v12 v13 v14 v15 v16 v17 v18 v19 v20 v21 v22 v23 v25 v36 v37 v38 v39 v40 v45 v46 v47 v48 v50 v51 v53 v55 hf hv0 hv2 hg2 hv3 hg3 hv4 hg4 hv5 hg5 hv6 hg6 hv8 hg8 hv9 hg9 hv12 hv13 hg13 hv14 hg14 hv15 hg15 hv17 hg17 hv20 hg20 hv23 hg23 hv25 hg25 hv36 hg36 hv47 hg47 hv48 hg48 hv53 hg53 hv55 hg55 hr => ?_)
  have e : v8.toInt = th 43 := hg8
  rw [← e]; exact hv8
theorem b0_35 {g : GG} {ad : Nat → Nat} {th : Nat → Int} {f : HP} (hT : TI g ad th f) : 0 ≤ th 35 ∧ th 35 ≤ 63 := by
  refine M0e hT (fun v0 v2 v3 v4 v5 v6 v8 v9 v12 v13 v14 v15 v16 v17 v18 v19 v20 v21 v22 v23 v25 v36 v37 v38 v39 v40 v45 v46 v47 v48 v50 v51 v53 v55 hf hv0 hv2 hg2 hv3 hg3 hv4 hg4 hv5 hg5 hv6 hg6 hv8 hg8 hv9 hg9 hv12 hv13 hg13 hv14 hg14 hv15 hg15 hv17 hg17 hv20 hg20 hv23 hg23 hv25 hg25 hv36 hg36 hv47 hg47 hv48 hg48 hv53 hg53 hv55 hg55 hr => ?_)
  have e : v9.toInt = th 35 := hg9
  rw [← e]; exact hv9
theorem b0_36 {g : GG} {ad : Nat → Nat} {th : Nat → Int} {f : HP} (hT : TI g ad th f) : 0 ≤ th 36 ∧ th 36 ≤ 20 := by
  refine M0e hT (fun v0 v2 v3 v4 v5 v6 v8 v9 v12 v13 v14 v15 v16 v17 v18 v19 v20 v21 v22 v23 v25 v36 v37 v38 v39 v40 v45 v46 v47 v48 v50 v51 v53 v55 hf hv0 hv2 hg2 hv3 hg3 hv4 hg4 hv5 hg5 hv6 hg6 hv8 hg8 hv9 hg9 hv12 hv13 hg13 hv14 hg14 hv15 hg15 hv17 hg17 hv20 hg20 hv23 hg23 hv25 hg25 hv36 hg36 hv47 hg47 hv48 hg48 hv53 hg53 hv55 hg55 hr => ?_)
  have e : v13.toInt = th 36 := hg13
  rw [← e]; exact hv13
theorem b0_10 {g : GG} {ad : Nat → Nat} {th : Nat → Int} {f : HP} (hT : TI g ad th f) : 0 ≤ th 10 ∧ th 10 ≤ 1 := by
  refine M0e hT (fun v0 v2 v3 v4 v5 v6 v8 v9 v12 v13 v14 v15 v16 v17 v18 v19 v20 v21 v22 v23 v25 v36 v37 v38 v39 v40 v45 v46 v47 v48 v50 v51 v53 v55 hf hv0 hv2 hg2 hv3 hg3 hv4 hg4 hv5 hg5 hv6 hg6 hv8 hg8 hv9 hg9 hv12 hv13 hg13 hv14 hg14 hv15 hg15 hv17 hg17 hv20 hg20 hv23 hg23 hv25 hg25 hv36 hg36 hv47 hg47 hv48 hg48 hv53 hg53 hv55 hg55 hr => ?_)
  have e : v14.toInt = th 10 := hg14
  rw [← e]; exact hv14
theorem b0_11 {g : GG} {ad : Nat → Nat} {th : Nat → Int} {f : HP} (hT : TI g ad th f) : 0 ≤ th 11 ∧ th 11 ≤ 9 := by
  refine M0e hT (fun v0 v2 v3 v4 v5 v6 v8 v9 v12 v13 v14 v15 v16 v17 v18 v19 v20 v21 v22 v23 v25 v36 v37 v38 v39 v40 v45 v46 v47 v48 v50 v51 v53 v55 hf hv0 hv2 hg2 hv3 hg3 hv4 hg4 hv5 hg5 hv6 hg6 hv8 hg8 hv9 hg9 hv12 hv13 hg13 hv14 hg14 hv15 hg15 hv17 hg17 hv20 hg20 hv23 hg23 hv25 hg25 hv36 hg36 hv47 hg47 hv48 hg48 hv53 hg53 hv55 hg55 hr => ?_)
  have e : v15.toInt = th 11 := hg15
  rw [← e]; exact hv15
theorem b0_12 {g : GG} {ad : Nat → Nat} {th : Nat → Int} {f : HP} (hT : TI g ad th f) : 0 ≤ th 12 ∧ th 12 ≤ 6 := by
  refine M0e hT (fun v0 v2 v3 v4 v5 v6 v8 v9 v12 v13 v14 v15 v16 v17 v18 v19 v20 v21 v22 v23 v25 v36 v37 v38 v39 v40 v45 v46 v47 v48 v50 v51 v53 v55 hf hv0 hv2 hg2 hv3 hg3 hv4 hg4 hv5 hg5 hv6 hg6 hv8 hg8 hv9 hg9 hv12 hv13 hg13 hv14 hg14 hv15 hg15 hv17 hg17 hv20 hg20 hv23 hg23 hv25 hg25 hv36 hg36 hv47 hg47 hv48 hg48 hv53 hg53 hv55 hg55 hr => ?_)
  have e : v17.toInt = th 12 := hg17
  rw [← e]; exact hv17
theorem b0_14 {g : GG} {ad : Nat → Nat} {th : Nat → Int} {f : HP} (hT : TI g ad th f) : 0 ≤ th 14 ∧ th 14 ≤ 511 := by
  refine M0e hT (fun v0 v2 v3 v4 v5 v6 v8 v9 v12 v13 v14 v15 v16 v17 v18 v19 v20 v21 v22 v23 v25 v36 v37 v38 v39 v40 v45 v46 v47 v48 v50 v51 v53 v55 hf hv0 hv2 hg2 hv3 hg3 hv4 hg4 hv5 hg5 hv6 hg6 hv8 hg8 hv9 hg9 hv12 hv13 hg13 hv14 hg14 hv15 hg15 hv17 hg17 hv20 hg20 hv23 hg23 hv25 hg25 hv36 hg36 hv47 hg47 hv48 hg48 hv53 hg53 hv55 hg55 hr => ?_)
  have e : v20.toInt = th 14 := hg20
  rw [← e]; exact hv20
theorem b0_15 {g : GG} {ad : Nat → Nat} {th : Nat → Int} {f : HP} (hT : TI g ad th f) : 0 ≤ th 15 ∧ th 15 ≤ 1 := by
  refine M0e hT (fun v0 v2 v3 v4 v5 v6 v8 v9 v12 v13 v14 v15 v16 v17 v18 v19 v20 v21 v22 v23 v25 v36 v37 v38 v39 v40 v45 v46 v47 v48 v50 v51 v53 v55 hf hv0 hv2 hg2 hv3 hg3 hv4 hg4 hv5 hg5 hv6 hg6 hv8 hg8 hv9 hg9 hv12 hv13 hg13 hv14 hg14 hv15 hg15 hv17 hg17 hv20 hg20 hv23 hg23 hv25 hg25 hv36 hg36 hv47 hg47 hv48 hg48 hv53 hg53 hv55 hg55 hr => ?_)
  have e : v23.toInt = th 15 := hg23
  rw [← e]; exact hv23
theorem b0_44 {g : GG} {ad : Nat → Nat} {th : Nat → Int} {f : HP} (hT : TI g ad th f) : 0 ≤ th 44 ∧ th 44 ≤ 30 := by
  refine M0e hT (fun v0 v2 v3 v4 v5 v6 v8 v9 v12 v13 v14 v15 v16 v17 v18 v19 v20 v21 v22 v23 v25 v36 v37 v38 v39 v40 v45 v46 v47 v48 v50 v51 v53 v55 hf hv0 hv2 hg2 hv3 hg3 hv4 hg4 hv5 hg5 hv6 hg6 hv8 hg8 hv9 hg9 hv12 hv13 hg13 hv14 hg14 hv15 hg15 hv17 hg17 hv20 hg20 hv23 hg23 hv25 hg25 hv36 hg36 hv47 hg47 hv48 hg48 hv53 hg53 hv55 hg55 hr => ?_)
  have e : v25.toInt = th 44 := hg25
  rw [← e]; exact hv25
theorem b0_18 {g : GG} {ad : Nat → Nat} {th : Nat → Int} {f : HP} (hT : TI g ad th f) : 0 ≤ th 18 ∧ th 18 ≤ 18 := by
  refine M0e hT (fun v0 v2 v3 v4 v5 v6 v8 v9 v12 v13 v14 v15 v16 v17 v18 v19 v20 v21 v22 v23 v25 v36 v37 v38 v39 v40 v45 v46 v47 v48 v50 v51 v53 v55 hf hv0 hv2 hg2 hv3 hg3 hv4 hg4 hv5 hg5 hv6 hg6 hv8 hg8 hv9 hg9 hv12 hv13 hg13 hv14 hg14 hv15 hg15 hv17 hg17 hv20 hg20 hv23 hg23 hv25 hg25 hv36 hg36 hv47 hg47 hv48 hg48 hv53 hg53 hv55 hg55 hr => ?_)
  have e : v36.toInt = th 18 := hg36
  rw [← e]; exact hv36
theorem b0_16 {g : GG} {ad : Nat → Nat} {th : Nat → Int} {f : HP} (hT : TI g ad th f) : 0 ≤ th 16 ∧ th 16 ≤ 20 := by
  refine M0e hT (fun v0 v2 v3 v4 v5 v6 v8 v9 v12 v13 v14 v15 v16 v17 v18 v19 v20 v21 v22 v23 v25 v36 v37 v38 v39 v40 v45 v46 v47 v48 v50 v51 v53 v55 hf hv0 hv2 hg2 hv3 hg3 hv4 hg4 hv5 hg5 hv6 hg6 hv8 hg8 hv9 hg9 hv12 hv13 hg13 hv14 hg14 hv15 hg15 hv17 hg17 hv20 hg20 hv23 hg23 hv25 hg25 hv36 hg36 hv47 hg47 hv48 hg48 hv53 hg53 hv55 hg55 hr => ?_)
  have e : v47.toInt = th 16 := hg47
  rw [← e]; exact hv47
theorem b0_17 {g : GG} {ad : Nat → Nat} {th : Nat → Int} {f : HP} (hT : TI g ad th f) : 0 ≤ th 17 ∧ th 17 ≤ 1 := by
  refine M0e hT (fun v0 v2 v3 v4 v5 v6 v8 v9 v12 v13 v14 v15 v16 v17 v18 v19 v20 v21 v22 v23 v25 v36 v37 v38 v39 v40 v45 v46 v47 v48 v50 v51 v53 v55 hf hv0 hv2 hg2 hv3 hg3 hv4 hg4 hv5 hg5 hv6 hg6 hv8 hg8 hv9 hg9 hv12 hv13 hg13 hv14 hg14 hv15 hg15 hv17 hg17 hv20 hg20 hv23 hg23 hv25 hg25 hv36 hg36 hv47 hg47 hv48 hg48 hv53 hg53 hv55 hg55 hr => ?_)
  have e : v48.toInt = th 17 := hg48
  rw [← e]; exact hv48
theorem b0_38 {g : GG} {ad : Nat → Nat} {th : Nat → Int} {f : HP} (hT : TI g ad th f) : 0 ≤ th 38 ∧ th 38 ≤ 400 := by
  refine M0e hT (fun v0 v2 v3 v4 v5 v6 v8 v9 v12 v13 v14 v15 v16 v17 v18 v19 v20 v21 v22 v23 v25 v36 v37 v38 v39 v40 v45 v46 v47 v48 v50 v51 v53 v55 hf hv0 hv2 hg2 hv3 hg3 hv4 hg4 hv5 hg5 hv6 hg6 hv8 hg8 hv9 hg9 hv12 hv13 hg13 hv14 hg14 hv15 hg15 hv17 hg17 hv20 hg20 hv23 hg23 hv25 hg25 hv36 hg36 hv47 hg47 hv48 hg48 hv53 hg53 hv55 hg55 hr => ?_)
  have e : v53.toInt = th 38 := hg53
  rw [← e]; exact hv53
theorem b0_39 {g : GG} {ad : Nat → Nat} {th : Nat → Int} {f : HP} (hT : TI g ad th f) : 0 ≤ th 39 ∧ th 39 ≤ 200 := by
  refine M0e hT (fun v0 v2 v3 v4 v5 v6 v8 v9 v12 v13 v14 v15 v16 v17 v18 v19 v20 v21 v22 v23 v25 v36 v37 v38 v39 v40 v45 v46 v47 v48 v50 v51 v53 v55 hf hv0 hv2 hg2 hv3 hg3 hv4 hg4 hv5 hg5 hv6 hg6 hv8 hg8 hv9 hg9 hv12 hv13 hg13 hv14 hg14 hv15 hg15 hv17 hg17 hv20 hg20 hv23 hg23 hv25 hg25 hv36 hg36 hv47 hg47 hv48 hg48 hv53 hg53 hv55 hg55 hr => ?_)
  have e : v55.toInt = th 39 := hg55
  rw [← e]; exact hv55
