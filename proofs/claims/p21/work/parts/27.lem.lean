theorem play18 {x y z v : Int32} {t q : Int} (et : x.toInt = y.toInt + 1) (g1 : y.toInt = t) (g0 : z.toInt = t) (hp : v.toInt * rnd q ≤ z.toInt ∧ z.toInt < (v.toInt + 1) * rnd q) (hv : v.toInt ≤ 5) (h0 : 0 ≤ y.toInt) : In x 0 18 ∧ x.toInt ≤ 6 * rnd q := by
  have g := gn6 hp hv
  have c := rnd_c q
  exact ⟨⟨by omega, by omega⟩, by omega⟩
theorem gset_same (th : Nat → Int) (k : Nat) : gset th k (th k) = th := by
  funext n
  unfold gset
  split
  · rename_i h; rw [h]
  · rfl
def FLD (f : HP) (ad : Nat → Nat) (k : Nat) (w : Int32) : Prop := ∃ fs : List Value, f (ad 255) = .inr (10, fs) ∧ fs[k]? = some (.int w)
theorem FLD.eq {f : HP} {ad : Nat → Nat} {k : Nat} {w v : Int32} {fs : List Value} (h : FLD f ad k w) (hf : f (ad 255) = .inr (10, fs)) (hv : fs[k]? = some (.int v)) : w = v := by
  obtain ⟨fs2, h1, h2⟩ := h
  rw [hf] at h1
  injection h1 with h1
  injection h1 with _ h1
  rw [← h1, hv] at h2
  injection h2 with h2
  injection h2 with h2
  exact h2.symm
