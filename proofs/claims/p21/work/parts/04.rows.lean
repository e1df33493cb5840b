/-! ROWS OVER THE POOL -/
theorem pl_mem {L : List Nat} {f : HP} {a : Nat} (h : a ∈ L) : ∃ k : Nat, (va_pl L f)[k]? = some (a, f a) := va_pl_get (X := []) h
theorem pl_set {A : Nat → Prop} {L : List Nat} {f : HP} {a k : Nat} {e : va_E} (hD : va_D A (va_pl L f)) (h : a ∈ L) (hk : (va_pl L f)[k]? = some (a, f a)) : (va_pl L f).set k (a, e) = va_pl L (va_up f a e) := va_pl_set (X := []) hD h hk
theorem up_at {α : Type} (f : Nat → α) (a : Nat) (v : α) : va_up f a v a = v := by simp [va_up]
theorem kne {f : HP} {a b c1 c2 : Nat} {l1 l2 : List Value} (ha : f a = .inr (c1, l1)) (hb : f b = .inr (c2, l2)) (h : c1 ≠ c2) : a ≠ b := fun e => by
  rw [e, hb] at ha
  injection ha with h1
  injection h1 with h2
  exact h h2.symm
theorem kno {f : HP} {a b c1 : Nat} {l1 : List Value} {x : ClassId × vp_A} (ha : f a = .inr (c1, l1)) (hb : f b = .inl x) : a ≠ b := fun e => by
  rw [e, hb] at ha
  cases ha
theorem knn {f : HP} {a b n1 n2 : Nat} {x1 x2 : ClassId} {y1 y2 : (Nat → Int32) ⊕ (Nat → Int64) ⊕ (Nat → UInt32) ⊕ (Nat → UInt64) ⊕ (Nat → Option Nat)} (ha : f a = .inl (x1, n1, y1)) (hb : f b = .inl (x2, n2, y2)) (h : n1 ≠ n2) : a ≠ b := fun e => by
  rw [e, hb] at ha
  injection ha with h1
  injection h1 with h2 h3
  injection h3 with h4 h5
  exact h h4.symm
section ROWS
variable {p : Program} {l : Launch} {e : Env} {R : Room} {s : State} {m : MethodId} {args : Array Value} {below : List Frame} {meth : Method} {c : Code} {H : Heap} {locs : List Loc} {cells slots : Nat} {Q : State → Prop} {cc : ByteArray} {pc : Nat} {ls : Array Slot} {rest : List Value} {D : va_G} {tys : List (ClassId × FieldType)} {L : List Nat} {f : HP} {A : Nat → Prop} {H0 : Heap} {a : Nat}
theorem pl_get (hexec : p.tables.exec = Jvm.exec) (hb : c.code = cc) {own ref C : String} {T : u_T} {N ci index : Nat} {Ts : List Cond} (hts : ∀ w ∈ Ts, w.before args s = true) (hin : ∀ w ∈ u_ws C T N, w ∈ Ts) (hown : s.vm.findClass own = some m.cls) (hK : va_K D vwCl tys s) (hP : va_P D vwCl (va_pl L f) H) (hm : a ∈ L) {fs : List Value} (hf : f a = .inr (ci, fs)) (hc : vwCl[ci]? = some (C, T, N)) (k : Nat) (hk : k < N) (hlink : (Cond.fieldLink own index ref (T k).2.1 (T k).2.2.1).before args s = true) (hsame : ∀ x, s.fieldFound? (T k).1 (T k).2.1 (T k).2.2.1 = some x → s.fieldFound? ref (T k).2.1 (T k).2.2.1 = some x) {v : Value} (hv : fs[k]? = some v) (hdg : decode cc pc = .ok (.getfield index, 3))
    (kk : W p l e R s m args below meth c H locs cells slots Q (F0 m (pc + 3) ls (v :: rest))) : W p l e R s m args below meth c H locs cells slots Q (F0 m pc ls (.ref a :: rest)) := by
  obtain ⟨q0, hq⟩ := pl_mem (f := f) hm
  rw [hf] at hq
  exact va_get hexec hb hts hin hown hK hP q0 hq hc k hk hlink hsame hv hdg kk
theorem pl_getN (hexec : p.tables.exec = Jvm.exec) (hb : c.code = cc) {own ref C host : String} {T : u_T} {N ci index : Nat} {Ts : List Cond} (hts : ∀ w ∈ Ts, w.before args s = true) (hin : ∀ w ∈ u_ws C T N, w ∈ Ts) (hown : s.vm.findClass own = some m.cls) (hK : va_K D vwCl tys s) (hP : va_P D vwCl (va_pl L f) H) (hm : a ∈ L) {fs : List Value} (hf : f a = .inr (ci, fs)) (hc : vwCl[ci]? = some (C, T, N)) (k : Nat) (hk : k < N) (hlink : va_Nw (.fieldLinkNest own index ref (T k).2.1 (T k).2.2.1 host) s) (hsame : ∀ x, s.fieldFound? (T k).1 (T k).2.1 (T k).2.2.1 = some x → s.fieldFound? ref (T k).2.1 (T k).2.2.1 = some x) {v : Value} (hv : fs[k]? = some v) (hdg : decode cc pc = .ok (.getfield index, 3))
    (kk : W p l e R s m args below meth c H locs cells slots Q (F0 m (pc + 3) ls (v :: rest))) : W p l e R s m args below meth c H locs cells slots Q (F0 m pc ls (.ref a :: rest)) := by
  obtain ⟨q0, hq⟩ := pl_mem (f := f) hm
  rw [hf] at hq
  exact va_getN hexec hb hts hin hown hK hP q0 hq hc k hk (va_Nw.use rfl hlink) hsame hv hdg kk
theorem pl_after {e1 : va_E} {q0 : Nat} {H1 : Heap} {G : Prop} (hD : va_D A (va_pl L f)) (hm : a ∈ L) (hq : (va_pl L f)[q0]? = some (a, f a)) (h1 : va_P D vwCl ((va_pl L f).set q0 (a, e1)) H1) (h2 : va_D A ((va_pl L f).set q0 (a, e1))) (kk : ∀ f1 : HP, f1 a = e1 → (∀ b, b ≠ a → f1 b = f b) → va_P D vwCl (va_pl L f1) H1 → va_D A (va_pl L f1) → G) : G := by
  rw [pl_set hD hm hq] at h1 h2
  exact kk (va_up f a e1) (up_at f a e1) (fun b hb => va_up_ne f e1 hb) h1 h2
theorem pl_put (hexec : p.tables.exec = Jvm.exec) (hb : c.code = cc) {own ref C : String} {T : u_T} {N ci index : Nat} {Ts : List Cond} (hts : ∀ w ∈ Ts, w.before args s = true) (hin : ∀ w ∈ u_ws C T N, w ∈ Ts) (ty0 : Nat → FieldType) (hty : ∀ k, k < N → parseFieldDescriptor (T k).2.2.1 = some (ty0 k)) (hnm : ∀ a, a < N → ∀ b, b < N → a ≠ b → (T a).2.1 ≠ (T b).2.1) (hown : s.vm.findClass own = some m.cls) (hK : va_K D vwCl tys s) (hP : va_P D vwCl (va_pl L f) H) (hD : va_D A (va_pl L f)) (hS0 : va_S A H0 H locs) (hm : a ∈ L) {fs : List Value} (hf : f a = .inr (ci, fs)) (hc : vwCl[ci]? = some (C, T, N)) (k : Nat) (hk : k < N) (hlink : (Cond.fieldLink own index ref (T k).2.1 (T k).2.2.1).before args s = true) (hsame : ∀ x, s.fieldFound? (T k).1 (T k).2.1 (T k).2.2.1 = some x → s.fieldFound? ref (T k).2.1 (T k).2.2.1 = some x) (hfin : (T k).2.2.2 = false) {ty : FieldType} {v : Value} (hd : parseFieldDescriptor (T k).2.2.1 = some ty) (hn : narrow ty v = v) (hfit : fits ty v = true) (hl : k < fs.length) {fs' : List Value} (hs : fs.set k v = fs')
    (hdg : decode cc pc = .ok (.putfield index, 3)) (kk : ∀ (H1 : Heap) (locs1 : List Loc) (f1 : HP), f1 a = .inr (ci, fs') → (∀ b, b ≠ a → f1 b = f b) → va_P D vwCl (va_pl L f1) H1 → va_D A (va_pl L f1) → va_S A H0 H1 locs1 → W p l e R s m args below meth c H1 locs1 cells slots Q (F0 m (pc + 3) ls rest)) : W p l e R s m args below meth c H locs cells slots Q (F0 m pc ls (v :: .ref a :: rest)) := by
  obtain ⟨q0, hq⟩ := pl_mem (f := f) hm
  have hq2 := hq
  rw [hf] at hq2
  refine va_put hexec hb hts hin ty0 hty hnm hown hK hP hD hS0 q0 hq2 hc k hk hlink hsame hfin hd hn hfit hl hdg fun H1 locs1 h1 h2 h3 => ?_
  exact pl_after hD hm hq h1 h2 (fun f1 g1 g2 g3 g4 => kk H1 locs1 f1 (by rw [g1, hs]) g2 g3 g4 h3)
theorem pl_putN (hexec : p.tables.exec = Jvm.exec) (hb : c.code = cc) {own ref C host : String} {T : u_T} {N ci index : Nat} {Ts : List Cond} (hts : ∀ w ∈ Ts, w.before args s = true) (hin : ∀ w ∈ u_ws C T N, w ∈ Ts) (ty0 : Nat → FieldType) (hty : ∀ k, k < N → parseFieldDescriptor (T k).2.2.1 = some (ty0 k)) (hnm : ∀ a, a < N → ∀ b, b < N → a ≠ b → (T a).2.1 ≠ (T b).2.1) (hown : s.vm.findClass own = some m.cls) (hK : va_K D vwCl tys s) (hP : va_P D vwCl (va_pl L f) H) (hD : va_D A (va_pl L f)) (hS0 : va_S A H0 H locs) (hm : a ∈ L) {fs : List Value} (hf : f a = .inr (ci, fs)) (hc : vwCl[ci]? = some (C, T, N)) (k : Nat) (hk : k < N) (hlink : va_Nw (.fieldLinkNest own index ref (T k).2.1 (T k).2.2.1 host) s) (hsame : ∀ x, s.fieldFound? (T k).1 (T k).2.1 (T k).2.2.1 = some x → s.fieldFound? ref (T k).2.1 (T k).2.2.1 = some x) (hfin : (T k).2.2.2 = false) {ty : FieldType} {v : Value} (hd : parseFieldDescriptor (T k).2.2.1 = some ty) (hn : narrow ty v = v) (hfit : fits ty v = true) (hl : k < fs.length) {fs' : List Value} (hs : fs.set k v = fs')
    (hdg : decode cc pc = .ok (.putfield index, 3)) (kk : ∀ (H1 : Heap) (locs1 : List Loc) (f1 : HP), f1 a = .inr (ci, fs') → (∀ b, b ≠ a → f1 b = f b) → va_P D vwCl (va_pl L f1) H1 → va_D A (va_pl L f1) → va_S A H0 H1 locs1 → W p l e R s m args below meth c H1 locs1 cells slots Q (F0 m (pc + 3) ls rest)) : W p l e R s m args below meth c H locs cells slots Q (F0 m pc ls (v :: .ref a :: rest)) := by
  obtain ⟨q0, hq⟩ := pl_mem (f := f) hm
  have hq2 := hq
  rw [hf] at hq2
  refine va_putN hexec hb hts hin ty0 hty hnm hown hK hP hD hS0 q0 hq2 hc k hk (va_Nw.use rfl hlink) hsame hfin hd hn hfit hl hdg fun H1 locs1 h1 h2 h3 => ?_
  exact pl_after hD hm hq h1 h2 (fun f1 g1 g2 g3 g4 => kk H1 locs1 f1 (by rw [g1, hs]) g2 g3 g4 h3)
theorem pl_putF (hexec : p.tables.exec = Jvm.exec) (hb : c.code = cc) {own ref C : String} {T : u_T} {N ci index : Nat} {Ts : List Cond} (hts : ∀ w ∈ Ts, w.before args s = true) (hin : ∀ w ∈ u_ws C T N, w ∈ Ts) (ty0 : Nat → FieldType) (hty : ∀ k, k < N → parseFieldDescriptor (T k).2.2.1 = some (ty0 k)) (hnm : ∀ a, a < N → ∀ b, b < N → a ≠ b → (T a).2.1 ≠ (T b).2.1) (hown : s.vm.findClass own = some m.cls) (hK : va_K D vwCl tys s) (hP : va_P D vwCl (va_pl L f) H) (hD : va_D A (va_pl L f)) (hS0 : va_S A H0 H locs) (hm : a ∈ L) {fs : List Value} (hf : f a = .inr (ci, fs)) (hc : vwCl[ci]? = some (C, T, N)) (k : Nat) (hk : k < N) (hlink : (Cond.fieldLink own index ref (T k).2.1 (T k).2.2.1).before args s = true) (hsame : ∀ x, s.fieldFound? (T k).1 (T k).2.1 (T k).2.2.1 = some x → s.fieldFound? ref (T k).2.1 (T k).2.2.1 = some x) (hfin : (T k).2.2.2 = true) (hin2 : meth.name = "<init>") (hdecl : (T k).1 = own) {ty : FieldType} {v : Value} (hd : parseFieldDescriptor (T k).2.2.1 = some ty) (hn : narrow ty v = v) (hfit : fits ty v = true) (hl : k < fs.length) {fs' : List Value} (hs : fs.set k v = fs')
    (hdg : decode cc pc = .ok (.putfield index, 3)) (kk : ∀ (H1 : Heap) (locs1 : List Loc) (f1 : HP), f1 a = .inr (ci, fs') → (∀ b, b ≠ a → f1 b = f b) → va_P D vwCl (va_pl L f1) H1 → va_D A (va_pl L f1) → va_S A H0 H1 locs1 → W p l e R s m args below meth c H1 locs1 cells slots Q (F0 m (pc + 3) ls rest)) : W p l e R s m args below meth c H locs cells slots Q (F0 m pc ls (v :: .ref a :: rest)) := by
  obtain ⟨q0, hq⟩ := pl_mem (f := f) hm
  have hq2 := hq
  rw [hf] at hq2
  refine va_putF hexec hb hts hin ty0 hty hnm hown hK hP hD hS0 q0 hq2 hc k hk hlink hsame hfin hin2 hdecl hd hn hfit hl hdg fun H1 locs1 h1 h2 h3 => ?_
  exact pl_after hD hm hq h1 h2 (fun f1 g1 g2 g3 g4 => kk H1 locs1 f1 (by rw [g1, hs]) g2 g3 g4 h3)
theorem pl_alen (hexec : p.tables.exec = Jvm.exec) (hb : c.code = cc) (hK : va_K D vwCl tys s) (hP : va_P D vwCl (va_pl L f) H) (hm : a ∈ L) (t0 : Nat) {cA : ClassId} {x : vp_A} (hf : f a = .inl (cA, x)) {ty : FieldType} (ht : tys[t0]? = some (cA, ty)) {v : Int32} (hv : Int32.ofNat x.1 = v) (hdg : decode cc pc = .ok (.arraylength, 1))
    (kk : W p l e R s m args below meth c H locs cells slots Q (F0 m (pc + 1) ls (.int v :: rest))) : W p l e R s m args below meth c H locs cells slots Q (F0 m pc ls (.ref a :: rest)) := by
  obtain ⟨q0, hq⟩ := pl_mem (f := f) hm
  rw [hf] at hq
  exact va_alen hexec hb hK hP q0 t0 hq ht hv hdg kk
theorem pl_iald (hexec : p.tables.exec = Jvm.exec) (hb : c.code = cc) (hK : va_K D vwCl tys s) (hP : va_P D vwCl (va_pl L f) H) (hm : a ∈ L) (t0 : Nat) {cA : ClassId} {n : Nat} {r : Nat → Int32} (hf : f a = .inl (cA, n, .inl r)) (ht : tys[t0]? = some (cA, .int)) {i : Int32} (hin : vp_in i n) (hdg : decode cc pc = .ok (.iaload, 1))
    (kk : W p l e R s m args below meth c H locs cells slots Q (F0 m (pc + 1) ls (.int (r i.toNatClampNeg) :: rest))) : W p l e R s m args below meth c H locs cells slots Q (F0 m pc ls (.int i :: .ref a :: rest)) := by
  obtain ⟨q0, hq⟩ := pl_mem (f := f) hm
  rw [hf] at hq
  exact va_iald hexec hb hK hP q0 t0 hq ht hin hdg kk
theorem pl_iast (hexec : p.tables.exec = Jvm.exec) (hb : c.code = cc) (hK : va_K D vwCl tys s) (hP : va_P D vwCl (va_pl L f) H) (hD : va_D A (va_pl L f)) (hS : va_S A H0 H locs) (hm : a ∈ L) (t0 : Nat) {cA : ClassId} {n : Nat} {r : Nat → Int32} (hf : f a = .inl (cA, n, .inl r)) (ht : tys[t0]? = some (cA, .int)) {i : Int32} {x : Int32} (hin : vp_in i n) (hdg : decode cc pc = .ok (.iastore, 1))
    (kk : ∀ (H1 : Heap) (locs1 : List Loc) (f1 : HP), f1 a = .inl (cA, n, .inl (upd r i.toNatClampNeg x)) → (∀ b, b ≠ a → f1 b = f b) → va_P D vwCl (va_pl L f1) H1 → va_D A (va_pl L f1) → va_S A H0 H1 locs1 → W p l e R s m args below meth c H1 locs1 cells slots Q (F0 m (pc + 1) ls rest)) : W p l e R s m args below meth c H locs cells slots Q (F0 m pc ls (.int x :: .int i :: .ref a :: rest)) := by
  obtain ⟨q0, hq⟩ := pl_mem (f := f) hm
  have hq2 := hq
  rw [hf] at hq2
  refine va_iast hexec hb hK hP hD hS q0 t0 hq2 ht hin hdg fun H1 locs1 h1 h2 h3 => ?_
  exact pl_after hD hm hq h1 h2 (fun f1 g1 g2 g3 g4 => kk H1 locs1 f1 g1 g2 g3 g4 h3)
theorem pl_bast (hexec : p.tables.exec = Jvm.exec) (hb : c.code = cc) (hK : va_K D vwCl tys s) (hP : va_P D vwCl (va_pl L f) H) (hD : va_D A (va_pl L f)) (hS : va_S A H0 H locs) (hm : a ∈ L) (t0 : Nat) {cA : ClassId} {n : Nat} {r : Nat → Int32} (hf : f a = .inl (cA, n, .inl r)) (ht : tys[t0]? = some (cA, .byte)) {i : Int32} {x : Int32} (hin : vp_in i n) (hdg : decode cc pc = .ok (.bastore, 1))
    (kk : ∀ (H1 : Heap) (locs1 : List Loc) (f1 : HP) (r1 : Nat → Int32), f1 a = .inl (cA, n, .inl r1) → (∀ b, b ≠ a → f1 b = f b) → va_P D vwCl (va_pl L f1) H1 → va_D A (va_pl L f1) → va_S A H0 H1 locs1 → W p l e R s m args below meth c H1 locs1 cells slots Q (F0 m (pc + 1) ls rest)) : W p l e R s m args below meth c H locs cells slots Q (F0 m pc ls (.int x :: .int i :: .ref a :: rest)) := by
  obtain ⟨q0, hq⟩ := pl_mem (f := f) hm
  have hq2 := hq
  rw [hf] at hq2
  refine va_bast hexec hb hK hP hD hS q0 t0 hq2 ht hin hdg fun H1 locs1 h1 h2 h3 => ?_
  exact pl_after hD hm hq h1 h2 (fun f1 g1 g2 g3 g4 => kk H1 locs1 f1 _ g1 g2 g3 g4 h3)
theorem pl_grow {e1 : va_E} {q : Nat} {H1 : Heap} {G : Prop} (h1 : va_P D vwCl (va_pl L f ++ [(q, e1)]) H1) (h2 : va_D A (va_pl L f ++ [(q, e1)])) (kk : ∀ (L1 : List Nat) (f1 : HP), q ∉ L → (∀ b, b ∈ L → b ∈ L1) → q ∈ L1 → f1 q = e1 → (∀ b, b ∈ L → f1 b = f b) → va_P D vwCl (va_pl L1 f1) H1 → va_D A (va_pl L1 f1) → G) : G := by
  have hq : q ∉ L := va_pl_fresh2 (X := []) h2
  rw [va_pl_push hq] at h1 h2
  exact kk (L ++ [q]) (va_up f q e1) hq (fun b hb => List.mem_append_left _ hb) (List.mem_append_right _ List.mem_cons_self) (up_at f q e1) (fun b hb => va_up_ne f e1 (fun e => hq (e ▸ hb))) h1 h2
theorem pl_new {c0 : Code} (hexec : p.tables.exec = Jvm.exec) (hb : c0.code = cc) {own C : String} {T : u_T} {N ci index : Nat} {Ts : List Cond} (hts : ∀ w ∈ Ts, w.before args s = true) (hin : ∀ w ∈ u_ws C T N, w ∈ Ts) (ty : Nat → FieldType) (hty : ∀ k, k < N → parseFieldDescriptor (T k).2.2.1 = some (ty k)) (hown : s.vm.findClass own = some m.cls) (hcl : (Cond.classLink own index C).before args s = true) (hinst : (Cond.instantiable C N).before args s = true) (hini : (Cond.initialized C).before args s = true)
    (hK : va_K D vwCl tys s) (hP : va_P D vwCl (va_pl L f) H) (hD : va_D A (va_pl L f)) (hS : va_S A H0 H locs) (hA : ∀ q, H0.size ≤ q → A q) (hc : vwCl[ci]? = some (C, T, N)) {fs : List Value} (hfs : ∀ j, j < N → defaultValue (ty j) = vp_V fs j) (hcells : cells + 1 ≤ R.cells) (hslots : slots + N ≤ R.slots) (hdg : decode cc pc = .ok (.new index, 3))
    (kk : ∀ (q : Nat) (H1 : Heap) (L1 : List Nat) (f1 : HP), q ∉ L → (∀ b, b ∈ L → b ∈ L1) → q ∈ L1 → f1 q = .inr (ci, fs) → (∀ b, b ∈ L → f1 b = f b) → va_P D vwCl (va_pl L1 f1) H1 → va_D A (va_pl L1 f1) → va_S A H0 H1 locs →
      W p l e R s m args below meth c0 H1 locs (cells + 1) (slots + N) Q (F0 m (pc + 3) ls (.ref q :: rest))) : W p l e R s m args below meth c0 H locs cells slots Q (F0 m pc ls rest) := by
  refine va_new hexec hb hts hin ty hty hown hcl hinst hini hK hP hD hS hA hc hfs hcells hslots hdg fun q H1 h1 h2 h3 => ?_
  exact pl_grow h1 h2 (fun L1 f1 g0 g1 g2 g3 g4 g5 g6 => kk q H1 L1 f1 g0 g1 g2 g3 g4 g5 g6 h3)
theorem pl_newa (hexec : p.tables.exec = Jvm.exec) (hb : c.code = cc) {atype : ArrayType} (harr : (Cond.arrayClass (newarray.typeOf atype)).before args s = true) {ty : FieldType} (hty : newarray.typeOf atype = ty) (hK : va_K D vwCl tys s) (hP : va_P D vwCl (va_pl L f) H) (hD : va_D A (va_pl L f)) (hS : va_S A H0 H locs) (hA : ∀ q, H0.size ≤ q → A q) (t0 : Nat) {cA0 : ClassId} (ht : tys[t0]? = some (cA0, ty)) (hnm : ∀ cA : ClassId, va_RA s cA ty → s.vm.findClass ("[" ++ ty.toString) = some cA)
    {n : Int32} {N' : Nat} {a0 : vp_A} (ha : ∀ cA : ClassId, vp_cell cA a0 = arrV cA N' (fun _ => defaultValue ty)) (hn : ¬ n < 0) (hN : n.toNatClampNeg = N') (hbytes : N' * componentBytes ty ≤ 536870912) (hcells : cells + 1 ≤ R.cells) (hslots : slots + N' ≤ R.slots) (hdg : decode cc pc = .ok (.newarray atype, 2))
    (kk : ∀ (q : Nat) (H1 : Heap) (L1 : List Nat) (f1 : HP), q ∉ L → (∀ b, b ∈ L → b ∈ L1) → q ∈ L1 → f1 q = .inl (cA0, a0) → (∀ b, b ∈ L → f1 b = f b) → va_P D vwCl (va_pl L1 f1) H1 → va_D A (va_pl L1 f1) → va_S A H0 H1 locs →
      W p l e R s m args below meth c H1 locs (cells + 1) (slots + N') Q (F0 m (pc + 2) ls (.ref q :: rest))) : W p l e R s m args below meth c H locs cells slots Q (F0 m pc ls (.int n :: rest)) := by
  refine va_newa hexec hb harr hty hK hP hD hS hA ha hn hN hbytes hcells hslots hdg fun q cA H1 h0 h1 h2 h3 => ?_
  have e1 := hnm cA ((h0.2 tys.length (cA, ty) (by simp)).2)
  have e2 := hnm cA0 ((hK.2 t0 _ ht).2)
  have e3 : cA = cA0 := Option.some.inj (e1.symm.trans e2)
  subst e3
  exact pl_grow h1 h2 (fun L1 f1 g0 g1 g2 g3 g4 g5 g6 => kk q H1 L1 f1 g0 g1 g2 g3 g4 g5 g6 h3)
theorem pl_newq (hexec : p.tables.exec = Jvm.exec) (hb : c.code = cc) {own C : String} {index : Nat} (hown : s.vm.findClass own = some m.cls) (hclink : (Cond.classLink own index C).before args s = true) (hover : va_AO C s) (hK : va_K D vwCl tys s) (hP : va_P D vwCl (va_pl L f) H) (hD : va_D A (va_pl L f)) (hS : va_S A H0 H locs) (hA : ∀ q, H0.size ≤ q → A q) (t0 : Nat) {cA0 : ClassId} (ht : tys[t0]? = some (cA0, .object C))
    {n : Int32} {N' : Nat} (hn : ¬ n < 0) (hN : n.toNatClampNeg = N') (hbytes : N' * 4 ≤ 536870912) (hcells : cells + 1 ≤ R.cells) (hslots : slots + N' ≤ R.slots) (hdg : decode cc pc = .ok (.anewarray index, 3))
    (kk : ∀ (q : Nat) (H1 : Heap) (L1 : List Nat) (f1 : HP), q ∉ L → (∀ b, b ∈ L → b ∈ L1) → q ∈ L1 → f1 q = .inl (cA0, N', .inr (.inr (.inr (.inr (fun _ => none))))) → (∀ b, b ∈ L → f1 b = f b) → va_P D vwCl (va_pl L1 f1) H1 → va_D A (va_pl L1 f1) → va_S A H0 H1 locs →
      W p l e R s m args below meth c H1 locs (cells + 1) (slots + N') Q (F0 m (pc + 3) ls (.ref q :: rest))) : W p l e R s m args below meth c H locs cells slots Q (F0 m pc ls (.int n :: rest)) := by
  refine va_newq hexec hb hown hclink hover hK hP hD hS hA hn hN hbytes hcells hslots hdg fun q cA H1 h0 h1 h2 h3 => ?_
  obtain ⟨-, -, -, -, -, e1⟩ := (h0.2 tys.length (cA, .object C) (by simp)).2
  obtain ⟨-, -, -, -, -, e2⟩ := (hK.2 t0 _ ht).2
  have e3 : cA = cA0 := Option.some.inj (e1.symm.trans e2)
  subst e3
  exact pl_grow h1 h2 (fun L1 f1 g0 g1 g2 g3 g4 g5 g6 => kk q H1 L1 f1 g0 g1 g2 g3 g4 g5 g6 h3)
theorem pl_astq (hexec : p.tables.exec = Jvm.exec) (hb : c.code = cc) (hK : va_K D vwCl tys s) (hP : va_P D vwCl (va_pl L f) H) (hD : va_D A (va_pl L f)) (hS : va_S A H0 H locs) (hm : a ∈ L) (t0 ci : Nat) {cA : ClassId} {r : vw_C} {n v : Nat} {vs : List Value} {fr : Nat → Option Nat} (hf : f a = .inl (cA, n, .inr (.inr (.inr (.inr fr))))) (ht : tys[t0]? = some (cA, .object r.1)) (hmv : v ∈ L) (hv : f v = .inr (ci, vs)) (hc : vwCl[ci]? = some r) {i : Int32} (hin : vp_in i n) (hdg : decode cc pc = .ok (.aastore, 1))
    (kk : ∀ (H1 : Heap) (locs1 : List Loc) (f1 : HP) (fr1 : Nat → Option Nat), fr1 = va_up fr i.toNatClampNeg (some v) → f1 a = .inl (cA, n, .inr (.inr (.inr (.inr fr1)))) → (∀ b, b ≠ a → f1 b = f b) → va_P D vwCl (va_pl L f1) H1 → va_D A (va_pl L f1) → va_S A H0 H1 locs1 → W p l e R s m args below meth c H1 locs1 cells slots Q (F0 m (pc + 1) ls rest)) : W p l e R s m args below meth c H locs cells slots Q (F0 m pc ls (.ref v :: .int i :: .ref a :: rest)) := by
  obtain ⟨q0, hq⟩ := pl_mem (f := f) hm
  obtain ⟨qk, hqk⟩ := pl_mem (f := f) hmv
  have hq2 := hq
  rw [hf] at hq2
  rw [hv] at hqk
  refine va_astq hexec hb hK hP hD hS q0 t0 qk ci hq2 ht hqk hc hin hdg fun H1 locs1 h1 h2 h3 => ?_
  exact pl_after hD hm hq h1 h2 (fun f1 g1 g2 g3 g4 => kk H1 locs1 f1 _ rfl g1 g2 g3 g4 h3)
theorem ret_i {g : GG} {post : Int32 → (List Nat × HP) → Prop} {mc ms : Nat} {v : Int32} {ty : FieldType} (hexec : p.tables.exec = Jvm.exec) (hb : c.code = cc) (hr : meth.sig.returnType = some ty) (hlocks : meth.locks = false) (hn : narrow ty (.int v) = .int v) (hP : va_P g.1 vwCl (va_pl L f) H) (hD : va_D A (va_pl L f)) (hS : va_S A s.heap H locs) (hc : cells ≤ mc) (hs : slots ≤ ms) (hpost : post v (L, f)) (hdg : decode cc pc = .ok (.ireturn, 1)) :
    W p l e R s m args below meth c H locs cells slots (MQ below (va_Qi post (PstB g A) A) args s mc ms A) (F0 m pc ls [.int v]) := by
  refine W.widen (k := mc) (n := ms) hc hs ?_
  exact W.zret (v := v) hexec hb hr hn (fun t ht hW => ⟨⟨v, (L, f), rfl, hpost, by rw [ht]; exact hP, hD⟩, hS.F ht⟩) hS.2.2 hdg hlocks
theorem ret_l {g : GG} {post : Int64 → (List Nat × HP) → Prop} {mc ms : Nat} {v : Int64} (hexec : p.tables.exec = Jvm.exec) (hb : c.code = cc) (hr : meth.sig.returnType = some .long) (hlocks : meth.locks = false) (hP : va_P g.1 vwCl (va_pl L f) H) (hD : va_D A (va_pl L f)) (hS : va_S A s.heap H locs) (hc : cells ≤ mc) (hs : slots ≤ ms) (hpost : post v (L, f)) (hdg : decode cc pc = .ok (.lreturn, 1)) :
    W p l e R s m args below meth c H locs cells slots (MQ below (va_Ql post (PstB g A) A) args s mc ms A) (F0 m pc ls [.long v]) := by
  refine W.widen (k := mc) (n := ms) hc hs ?_
  exact W.lret (v := v) hexec hb hr (fun t ht hW => ⟨⟨v, (L, f), rfl, hpost, by rw [ht]; exact hP, hD⟩, hS.F ht⟩) hS.2.2 hdg hlocks
theorem ret_v {g : GG} {post : (List Nat × HP) → Prop} {mc ms : Nat} (hexec : p.tables.exec = Jvm.exec) (hb : c.code = cc) (hr : meth.sig.returnType = none) (hlocks : meth.locks = false) (hP : va_P g.1 vwCl (va_pl L f) H) (hD : va_D A (va_pl L f)) (hS : va_S A s.heap H locs) (hc : cells ≤ mc) (hs : slots ≤ ms) (hpost : post (L, f)) (hdg : decode cc pc = .ok (.return_, 1)) :
    W p l e R s m args below meth c H locs cells slots (MQ below (va_Qv post (PstB g A) A) args s mc ms A) (F0 m pc ls []) := by
  refine W.widen (k := mc) (n := ms) hc hs ?_
  exact W.vret hexec hb hr (fun t ht hW => ⟨⟨(L, f), rfl, hpost, by rw [ht]; exact hP, hD⟩, hS.F ht⟩) hS.2.2 hdg hlocks
end ROWS
