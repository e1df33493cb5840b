theorem play18 {x y z v : Int32} {t q : Int} (et : x.toInt = y.toInt + 1) (g1 : y.toInt = t) (g0 : z.toInt = t) (hp : v.toInt * rnd q ≤ z.toInt ∧ z.toInt < (v.toInt + 1) * rnd q) (hv : v.toInt ≤ 5) (h0 : 0 ≤ y.toInt) : In x 0 18 ∧ x.toInt ≤ 6 * rnd q := by
  have g := gn6 hp hv
  have c := rnd_c q
  exact ⟨⟨by omega, by omega⟩, by omega⟩
theorem gset_same (th : Nat → Int) (k : Nat) : gset th k (th k) = th := by
  funext n
  unfold gset
  split
  · rename_i h; rw [h]
  · rfl
