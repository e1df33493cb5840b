/-! what the constructors make -/
def OK0 (g : GG) (a : Nat → Nat) (k : Nat) (e : va_E) : Prop := match k with
  | 0 => e = .inr (3, [.int 0, .int 0, .int 0, .int 0, .int 0, .int 0, .int 0, .long 0, .long 0, .ref (a 1), .ref (a 2), .ref (a 3), .ref (a 4), .ref (a 5), .ref (a 6), .ref (a 7), .ref (a 8), .ref (a 9)])
  | 1 => e = .inl (g.2.1 0, 30, .inl (fun _ => 0))
  | 2 => e = .inl (g.2.1 1, 162, .inr (.inl (fun _ => 0)))
  | 3 => e = .inl (g.2.1 1, 18, .inr (.inl (fun _ => 0)))
  | 4 => e = .inl (g.2.1 1, 18, .inr (.inl (fun _ => 0)))
  | 5 => e = .inl (g.2.1 1, 6, .inr (.inl (fun _ => 0)))
  | 6 => e = .inl (g.2.1 0, 6, .inl (fun _ => 0))
  | 7 => e = .inl (g.2.1 0, 6, .inl (fun _ => 0))
  | 8 => e = .inl (g.2.1 0, 6, .inl (fun _ => 0))
  | 9 => e = .inl (g.2.1 0, 6, .inl (fun _ => 0))
  | _ => True
def RINGP (g : GG) (L0 L : List Nat) (f : HP) (n : Nat) (aa : Nat → Nat → Nat) : Prop := (∀ j, j < n → ∀ k, k < 10 → aa j k ∈ L ∧ aa j k ∉ L0) ∧ (∀ j j' k k', j < n → j' < n → k < 10 → k' < 10 → aa j k = aa j' k' → j = j' ∧ k = k') ∧ ∀ j, j < n → ∀ k, k < 10 → OK0 g (aa j) k (f (aa j k))
theorem nil_in {L : List Nat} : ∀ b, b ∈ ([] : List Nat) → b ∈ L := fun _ h => absurd h List.not_mem_nil
theorem RINGP.z {g : GG} {L0 L : List Nat} {f : HP} {aa : Nat → Nat → Nat} : RINGP g L0 L f 0 aa := ⟨fun j h => absurd h (Nat.not_lt_zero j), fun j j' k k' h => absurd h (Nat.not_lt_zero j), fun j h => absurd h (Nat.not_lt_zero j)⟩
theorem RINGP.tr {g : GG} {L0 L L' : List Nat} {f f' : HP} {n a : Nat} {aa : Nat → Nat → Nat} (h : RINGP g L0 L f n aa) (ha : ∀ j, j < n → ∀ k, k < 10 → aa j k ≠ a) (hs : ∀ b, b ∈ L → b ∈ L') (hf : ∀ b, b ∈ L → b ≠ a → f' b = f b) : RINGP g L0 L' f' n aa :=
  ⟨fun j hj k hk => ⟨hs _ (h.1 j hj k hk).1, (h.1 j hj k hk).2⟩, h.2.1, fun j hj k hk => by rw [hf _ (h.1 j hj k hk).1 (ha j hj k hk)]; exact h.2.2 j hj k hk⟩
theorem RINGP.sub {g : GG} {L0 L1 L : List Nat} {f : HP} {n : Nat} {aa : Nat → Nat → Nat} (h : RINGP g L0 L f n aa) (hs : ∀ b, b ∈ L1 → b ∈ L0) : RINGP g L1 L f n aa := ⟨fun j hj k hk => ⟨(h.1 j hj k hk).1, fun q => (h.1 j hj k hk).2 (hs _ q)⟩, h.2⟩
theorem getD_mem {l : List Nat} {i : Nat} (h : i < l.length) : l.getD i 0 ∈ l := by
  rw [List.getD_eq_getElem?_getD, List.getElem?_eq_getElem h]
  exact List.getElem_mem h
theorem getD_inj {l : List Nat} (hn : l.Nodup) {i j : Nat} (hi : i < l.length) (hj : j < l.length) (e : l.getD i 0 = l.getD j 0) : i = j := by
  rw [List.getD_eq_getElem?_getD, List.getD_eq_getElem?_getD, List.getElem?_eq_getElem hi, List.getElem?_eq_getElem hj] at e
  exact (List.getElem?_inj hi hn).mp (by rw [List.getElem?_eq_getElem hi, List.getElem?_eq_getElem hj]; exact congrArg some e)
theorem RINGP.add {g : GG} {L0 L : List Nat} {f : HP} {n : Nat} {aa : Nat → Nat → Nat} {l : List Nat} (h : RINGP g L0 L f n aa) (hl : l.length = 10) (hn : l.Nodup) (hm : ∀ b, b ∈ l → b ∈ L ∧ b ∉ L0) (hne : ∀ b, b ∈ l → ∀ j, j < n → ∀ k, k < 10 → aa j k ≠ b) (hok : ∀ k, k < 10 → OK0 g (fun k => l.getD (9 - k) 0) k (f (l.getD (9 - k) 0))) :
    ∃ aa' : Nat → Nat → Nat, (∀ j, j < n → aa' j = aa j) ∧ aa' n = (fun k => l.getD (9 - k) 0) ∧ RINGP g L0 L f (n + 1) aa' := by
  refine ⟨fun j => if j = n then (fun k => l.getD (9 - k) 0) else aa j, fun j hj => if_neg (by omega), if_pos rfl, fun j hj k hk => ?_, fun j j' k k' hj hj' hk hk' e => ?_, fun j hj k hk => ?_⟩
  · by_cases q : j = n
    · simp only [if_pos q]; exact hm _ (getD_mem (by omega))
    · simp only [if_neg q]; exact h.1 j (by omega) k hk
  · by_cases q : j = n <;> by_cases q' : j' = n
    · simp only [if_pos q, if_pos q'] at e
      have := getD_inj hn (by omega) (by omega) e
      exact ⟨by omega, by omega⟩
    · simp only [if_pos q, if_neg q'] at e
      exact absurd e.symm (hne _ (getD_mem (by omega)) j' (by omega) k' hk')
    · simp only [if_neg q, if_pos q'] at e
      exact absurd e (hne _ (getD_mem (by omega)) j (by omega) k hk)
    · simp only [if_neg q, if_neg q'] at e
      exact h.2.1 j j' k k' (by omega) (by omega) hk hk' e
  · by_cases q : j = n
    · simp only [if_pos q]; exact hok k hk
    · simp only [if_neg q]; exact h.2.2 j (by omega) k hk
theorem rr_step {r r2 : Nat → Option Nat} {aa aa' : Nat → Nat → Nat} {n : Nat} {i : Int32} {v : Nat} (h : ∀ j, j < n → r j = some (aa j 0)) (e : r2 = va_up r i.toNatClampNeg (some v)) (hi : i.toNatClampNeg = n) (ha : ∀ j, j < n → aa' j = aa j) (hv : aa' n 0 = v) : ∀ j, j < n + 1 → r2 j = some (aa' j 0) := fun j hj => by
  rw [e, hi]
  by_cases q : j = n
  · subst q; simp [va_up, hv]
  · simp [va_up, q, ha j (by omega), h j (by omega)]
theorem nd_app {l k : List Nat} {L : List Nat} (h1 : l.Nodup) (hn : ∀ b, b ∈ l → b ∉ L) (h2 : k.Nodup) (hs : ∀ b, b ∈ k → b ∈ L) : (l ++ k).Nodup := List.nodup_append.mpr ⟨h1, h2, fun a ha b hb e => hn a ha (e ▸ hs b hb)⟩
theorem fm_app {l k : List Nat} {L : List Nat} (h1 : ∀ b, b ∈ l → b ∈ L) (h2 : ∀ b, b ∈ k → b ∈ L) : ∀ b, b ∈ l ++ k → b ∈ L := fun b hb => (List.mem_append.mp hb).elim (h1 b) (h2 b)
theorem nd_ne {l : List Nat} (i j : Nat) (h : l.Nodup) {a b : Nat} (ha : l[i]? = some a := by rfl) (hb : l[j]? = some b := by rfl) (hij : i ≠ j := by decide) : a ≠ b := fun e => by
  subst e
  have hi : i < l.length := (List.getElem?_eq_some_iff.mp ha).1
  exact hij ((List.getElem?_inj hi h).mp (ha.trans hb.symm))
