/-! the reference: bytes, digits -/
def b1 (z k : Int32) : Int := if byS z k = 0 then 0 else 1
theorem b1_0 {z k : Int32} (h : byS z k = 0) : b1 z k = 0 := by unfold b1; rw [if_pos h]
theorem b1_1 {z k : Int32} (h : ¬ byS z k = 0) : b1 z k = 1 := by unfold b1; rw [if_neg h]
theorem b1_r (z k : Int32) : 0 ≤ b1 z k ∧ b1 z k ≤ 1 := by
  unfold b1
  split <;> decide
def nb (z : Int32) : Int := b1 z 24 + b1 z 16 + b1 z 8 + b1 z 0
theorem nb_r (z : Int32) : (0 ≤ nb z ∧ nb z ≤ 4) ∧ nb z = b1 z 24 + b1 z 16 + b1 z 8 + b1 z 0 ∧ (0 ≤ b1 z 24 ∧ b1 z 24 ≤ 1) ∧ (0 ≤ b1 z 16 ∧ b1 z 16 ≤ 1) ∧ (0 ≤ b1 z 8 ∧ b1 z 8 ≤ 1) ∧ (0 ≤ b1 z 0 ∧ b1 z 0 ≤ 1) := by
  have h1 := b1_r z 24
  have h2 := b1_r z 16
  have h3 := b1_r z 8
  have h4 := b1_r z 0
  have e : nb z = b1 z 24 + b1 z 16 + b1 z 8 + b1 z 0 := rfl
  refine ⟨⟨by omega, by omega⟩, e, h1, h2, h3, h4⟩
theorem or0 (x : Int32) : x ||| 0 = x := by
  apply Int32.toBitVec_inj.mp
  show x.toBitVec ||| 0#32 = x.toBitVec
  simp
theorem dg_at {row : Nat → Int32} {z : Int} {r : Int32} (hr : In (row z.toNat) (-128) 127) (hc : In r 48 57) (h : r.toInt = -1 ∨ r.toInt = (row z.toNat).toInt % 256) : In (row z.toNat) 48 57 := by
  obtain ⟨a, b⟩ := hr
  obtain ⟨c, d⟩ := hc
  exact ⟨by omega, by omega⟩
theorem dg_step {row : Nat → Int32} {a z : Int} (h : ∀ i : Nat, a ≤ (i : Int) → (i : Int) < z → In (row i) 48 57) (hn : In (row z.toNat) 48 57) (i : Nat) (q1 : a ≤ (i : Int)) (q2 : (i : Int) < z + 1) : In (row i) 48 57 := by
  by_cases q : (i : Int) < z
  · exact h i q1 q
  · have e : z.toNat = i := by omega
    rw [← e]; exact hn
