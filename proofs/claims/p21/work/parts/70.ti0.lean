def pmL : List Nat := [78, 77, 76, 26, 25, 75, 74, 73, 32, 72, 71, 69, 68, 70, 67, 66, 35, 34, 33, 31, 30, 29, 28, 27, 24, 65, 64, 63, 62, 61, 60, 59, 58, 57, 56, 55, 54, 53, 52, 51, 50, 49, 48, 47, 46, 45, 44, 43, 42, 41, 40, 39, 38, 37, 36, 23, 22, 21, 20, 19, 18, 17, 16, 15, 14, 13, 12, 11, 10, 9, 8, 7, 6, 5, 4, 3, 2, 1, 0]
def th0 : Nat → Int := fun k => if k = 22 then 2126 else 0
def adL (al pm : List Nat) (aa : Nat → Nat → Nat) (n : Nat) : Nat := if n < 55 then al.getD (pm.getD n 0) 0 else if n < 255 then aa ((n - 55) / 10) ((n - 55) % 10) else al.getD (pm.getD (n - 200) 0) 0
theorem adL_r {al pm : List Nat} {aa : Nat → Nat → Nat} {i : Nat} (hi : i < 20) : cr (adL al pm aa) (3 + i) 0 = aa i 0 := by
  show adL al pm aa (25 + 10 * (3 + i) + 0) = _
  unfold adL
  rw [if_neg (by omega), if_pos (by omega), show (25 + 10 * (3 + i) + 0 - 55) / 10 = i by omega, show (25 + 10 * (3 + i) + 0 - 55) % 10 = 0 by omega]
theorem adL_c {al pm : List Nat} {aa : Nat → Nat → Nat} {j k : Nat} (h3 : 3 ≤ j) (hj : j < 23) (hk : k < 10) : cr (adL al pm aa) j k = aa (j - 3) k := by
  show adL al pm aa (25 + 10 * j + k) = _
  unfold adL
  rw [if_neg (by omega), if_pos (by omega), show (25 + 10 * j + k - 55) / 10 = j - 3 by omega, show (25 + 10 * j + k - 55) % 10 = k by omega]
theorem pm_len : pmL.length = 79 := by decide
theorem pm_nd : pmL.Nodup := by decide +kernel
theorem pm_b : ∀ i : Fin 79, pmL.getD i.val 0 < 79 := by decide +kernel
theorem st_mk {g : GG} {al : List Nat} {aa : Nat → Nat → Nat} {L0 L : List Nat} {f : HP} (hl : al.length = 79) (hN : al.Nodup) (hNs : ∀ b, b ∈ al → b ∈ L) (hR : RINGP g L0 L f 20 aa) (hne : ∀ b, b ∈ al → ∀ j, j < 20 → ∀ k, k < 10 → aa j k ≠ b) : ST (adL al pmL aa) L := by
  have P : ∀ i, i < 79 → pmL.getD i 0 < al.length := fun i hi => by rw [hl]; exact pm_b ⟨i, hi⟩
  have I : ∀ i j, i < 79 → j < 79 → al.getD (pmL.getD i 0) 0 = al.getD (pmL.getD j 0) 0 → i = j := fun i j hi hj e => getD_inj pm_nd (by rw [pm_len]; exact hi) (by rw [pm_len]; exact hj) (getD_inj hN (P i hi) (P j hj) e)
  have key : ∀ n, n < 279 → (∃ i, i < 79 ∧ adL al pmL aa n = al.getD (pmL.getD i 0) 0 ∧ ((n < 55 ∧ i = n) ∨ (255 ≤ n ∧ i = n - 200))) ∨ (55 ≤ n ∧ n < 255 ∧ adL al pmL aa n = aa ((n - 55) / 10) ((n - 55) % 10)) := fun n hn => by
    unfold adL
    by_cases q1 : n < 55
    · exact Or.inl ⟨n, by omega, by rw [if_pos q1], Or.inl ⟨q1, rfl⟩⟩
    · by_cases q2 : n < 255
      · exact Or.inr ⟨by omega, q2, by rw [if_neg q1, if_pos q2]⟩
      · exact Or.inl ⟨n - 200, by omega, by rw [if_neg q1, if_neg q2], Or.inr ⟨by omega, rfl⟩⟩
  refine ⟨fun n hn => ?_, fun a b ha hb e => ?_⟩
  · rcases key n hn with ⟨i, hi, e1, _⟩ | ⟨h1, h2, e1⟩
    · rw [e1]; exact hNs _ (getD_mem (P i hi))
    · rw [e1]; exact (hR.1 _ (by omega) _ (by omega)).1
  · rcases key a ha with ⟨i, hi, e1, q1⟩ | ⟨h1, h2, e1⟩ <;> rcases key b hb with ⟨j, hj, e2, q2⟩ | ⟨h3, h4, e2⟩
    · rw [e1, e2] at e
      have := I i j hi hj e
      omega
    · rw [e1, e2] at e
      exact absurd e.symm (hne _ (getD_mem (P i hi)) _ (by omega) _ (by omega))
    · rw [e1, e2] at e
      exact absurd e (hne _ (getD_mem (P j hj)) _ (by omega) _ (by omega))
    · rw [e1, e2] at e
      have := hR.2.1 _ _ _ _ (by omega) (by omega) (by omega) (by omega) e
      omega
theorem pred0 {k : Nat} : PRED 0 0 k 0 := ⟨fun _ => by decide, fun _ => ⟨⟨by decide, by decide⟩, Or.inl (by decide)⟩, fun _ => ⟨by decide, by decide⟩⟩
theorem prw_st {n : Nat} {v : Int} : PRW n v 0 0 (fun _ => 0) := fun i _ _ => pred0
theorem ci0 : CIv th0 := by
  refine ⟨⟨⟨by decide, by decide⟩, Or.inl (by decide)⟩, fun h => absurd h (by decide), by decide, fun i hi => ?_⟩
  have : th0 6 = 0 := rfl
  omega
theorem mi0 : MI th0 := by
  refine ⟨by decide, by decide, by decide, by decide, by decide, by decide, by decide, by decide, by decide, by decide⟩
set_option maxHeartbeats 4000000 in
set_option maxRecDepth 100000 in
theorem ring0 {g : GG} {al : List Nat} {aa : Nat → Nat → Nat} {L0 L : List Nat} {f : HP} (hR : RINGP g L0 L f 20 aa) {j k : Nat} (h3 : 3 ≤ j) (hj : j < 23) (hk : k < 10) : OKc g (adL al pmL aa) th0 j k (f (cr (adL al pmL aa) j k)) := by
  have hq := hR.2.2 (j - 3) (by omega) k hk
  have e : ∀ k, k < 10 → adL al pmL aa (25 + 10 * j + k) = aa (j - 3) k := fun k hk => adL_c h3 hj hk
  have t2 : th0 (200 + j) = 0 := by unfold th0; rw [if_neg (by omega)]
  have t3 : th0 (300 + j) = 0 := by unfold th0; rw [if_neg (by omega)]
  rw [adL_c h3 hj hk]
  match k, hk, hq with
  | 0, _, hq =>
    refine ⟨0, 0, 0, 0, 0, 0, 0, 0, 0, ?_, ⟨by decide, by decide⟩, by rw [t2]; decide, ⟨by decide, by decide⟩, by rw [t3]; decide, ⟨by decide, by decide⟩⟩
    rw [show f (aa (j - 3) 0) = _ from hq]
    show _ = (Sum.inr (3, [Value.int 0, .int 0, .int 0, .int 0, .int 0, .int 0, .int 0, .long 0, .long 0, .ref (adL al pmL aa (25 + 10 * j + 1)), .ref (adL al pmL aa (25 + 10 * j + 2)), .ref (adL al pmL aa (25 + 10 * j + 3)), .ref (adL al pmL aa (25 + 10 * j + 4)), .ref (adL al pmL aa (25 + 10 * j + 5)), .ref (adL al pmL aa (25 + 10 * j + 6)), .ref (adL al pmL aa (25 + 10 * j + 7)), .ref (adL al pmL aa (25 + 10 * j + 8)), .ref (adL al pmL aa (25 + 10 * j + 9))]) : va_E)
    rw [e 1 (by decide), e 2 (by decide), e 3 (by decide), e 4 (by decide), e 5 (by decide), e 6 (by decide), e 7 (by decide), e 8 (by decide), e 9 (by decide)]
  | 1, _, hq => exact ⟨fun _ => 0, hq⟩
  | 2, _, hq => exact ⟨fun _ => 0, hq⟩
  | 3, _, hq => exact ⟨fun _ => 0, hq⟩
  | 4, _, hq => exact ⟨fun _ => 0, hq⟩
  | 5, _, hq => exact ⟨fun _ => 0, hq⟩
  | 6, _, hq => exact ⟨fun _ => 0, hq⟩
  | 7, _, hq => exact ⟨fun _ => 0, hq⟩
  | 8, _, hq => exact ⟨fun _ => 0, hq⟩
  | 9, _, hq => exact ⟨fun _ => 0, hq⟩
  | k + 10, h, _ => exact absurd h (by omega)
