theorem wg_291 : Cond.sameField "RulerWord$Planned" "RulerWord$Voice" "phase" "I" ∈ GW := mG 291 (by decide +kernel) rfl
theorem wg_294 : Cond.sameField "RulerWord$Planned" "RulerWord$Voice" "turn" "I" ∈ GW := mG 294 (by decide +kernel) rfl
theorem wg_801 : Cond.sameMethod "RulerWord$Voice" "RulerWord$Voice" "choose" "(LRulerWord$Course;III)I" ∈ GW := mG 801 (by decide +kernel) rfl
theorem wg_1296 : Cond.sameMethod "java/lang/Throwable" "java/lang/Throwable" "fillInStackTrace" "()Ljava/lang/Throwable;" ∈ GW := mG 1296 (by decide +kernel) rfl
theorem wg_1952 : Cond.sameMethod "java/lang/Throwable" "java/lang/Throwable" "fillInStackTrace" "(I)Ljava/lang/Throwable;" ∈ GW := mG 1952 (by decide +kernel) rfl
/-! a call whose named method is abstract; rounds -/
section CALLSA
variable {p : Program} {l : Launch} {e : Env} {R : Room} {s : State} {m : MethodId} {args : Array Value} {below : List Frame} {meth : Method} {c : Code} {H : Heap} {locs : List Loc} {cells slots : Nat} {Q : State → Prop} {cc : ByteArray} {pc : Nat} {ls : Array Slot} {rest st : List Value} {g : GG} {L : List Nat} {f : HP} {A : Nat → Prop} {a : Nat}
variable {y : MethodName} {bytes : ByteArray} {maxL nL n index : Nat} {ret : Option FieldType} {rm : Room} {Qc : Array Value → State → Outcome → State → Prop} {free : Addr → Prop} {d0 : Cond} {own : String} {b : Nat} {As : List Value}
theorem run_VA {x : MethodName} {owner : String} (hx : p.tables.exec = Jvm.exec) (hb : c.code = cc) (hml : c.maxLocals = nL) (hown : s.vm.findClass own = some m.cls) (hts : ∀ w ∈ d0 :: GW, w.before args s = true)
    (hM : Met l y (Cond.code y bytes maxL ret :: GW) rm (va_Pc (.ref b :: As) (PreB g L f H.size)) Qc rm.cells rm.slots free) (hcode : Cond.code y bytes maxL ret ∈ GW) (hlk : Cond.methodLink own index x ∈ GW) (hsm : Cond.sameMethod x.cls owner x.name x.desc ∈ GW) (hsel : Cond.selects y.cls x y ∈ GW) (hin : Cond.instanceMethod y ∈ GW) (hini : Cond.initialized y.cls ∈ GW) (hdc : Cond.declares ⟨owner, x.name, x.desc⟩ ∈ NW)
    (hd : owner ≠ "java/lang/invoke/MethodHandle" ∧ owner ≠ "java/lang/invoke/VarHandle" ∧ (parseMethodDescriptor x.desc).map (fun d => d.parameters.length) = some n) (hR : rm.frames + 1 ≤ R.frames ∧ 8 + (maxL + 11) + rm.locals ≤ R.locals)
    (hG : GK g s) (hE : SW g A s s.heap) (hA : ∀ q, s.heap.size ≤ q → A q) (hP : va_P g.1 vwCl (va_pl L f) H) (hD : va_D A (va_pl L f)) (hS : va_S A s.heap H locs)
    (hm : b ∈ L) {ci : Nat} {fs : List Value} (hf : f b = .inr (ci, fs)) {T : u_T} {N : Nat} (hc : vwCl[ci]? = some (y.cls, T, N)) (hn : As.length = n) (hsz : ls.size = nL) (hst : st = As.reverse ++ .ref b :: rest) (hW : (rest.map fun v => v.category).sum ≤ 8) (hdg : decode cc pc = .ok (.invokevirtual index, 3)) (hroom : cells + rm.cells ≤ R.cells ∧ slots + rm.slots ≤ R.slots) :
    va_Run p l e R s m args below meth c H locs cells slots rm.cells rm.slots (F0 m pc ls st) rest (Qc (Value.ref b :: As).toArray) free := by
  obtain ⟨q0, hq⟩ := pl_mem (f := f) hm
  rw [hf] at hq
  have hgood : GoodIn (d0 :: GW) (va_wsU own index y.cls owner x y (Cond.code y bytes maxL ret :: GW)) := by
    intro w hw
    unfold va_wsU at hw
    rcases List.mem_append.mp hw with h | h
    · simp only [List.mem_cons, List.not_mem_nil, or_false] at h
      rcases h with rfl | rfl | rfl | rfl | rfl
      · exact ⟨mT hlk, goodGW hlk⟩
      · exact ⟨mT hsm, goodGW hsm⟩
      · exact ⟨mT hsel, goodGW hsel⟩
      · exact ⟨mT hin, goodGW hin⟩
      · exact ⟨mT hini, goodGW hini⟩
    · exact goodIn_GW hcode w h
  exact va_runU (C := y.cls) (owner := owner) (x := x) (n := n) ⟨hx, hb, hml, hown, hts⟩ hM (va_cwA n hts hgood rfl rfl rfl (hG.2.1 _ hdc) hd hR) ⟨pre_blind, va_recv hG.1 hP hc hq, fun U hU hW => ⟨rfl, pre_of hG hE hA hP hD hS U hU hW⟩⟩ rfl hn hsz hst (lv_room hW) hdg hroom
end CALLSA
def rnd (z : Int) : Int := if z = 0 then 3 else 2
theorem rnd_c (z : Int) : rnd z = 2 ∨ rnd z = 3 := by
  unfold rnd
  split
  · exact Or.inr rfl
  · exact Or.inl rfl
theorem rnd_f {v : Int32} {z : Int} (h : v.toInt = z) (c : v = 0) : (3 : Int32).toInt = rnd z := by
  have e : z = 0 := by rw [← h, c]; decide
  rw [e]; decide
theorem rnd_t {v : Int32} {z : Int} (h : v.toInt = z) (c : ¬ v = 0) : (2 : Int32).toInt = rnd z := by
  have e : z ≠ 0 := fun q => c (Int32.toInt_inj.mp (by rw [h, q]; decide))
  unfold rnd
  rw [if_neg e]; decide
theorem div_b {x y v : Int32} {z : Int} (e : v = x / y) (h0 : 0 ≤ x.toInt) (hy : y.toInt = rnd z) : v.toInt * rnd z ≤ x.toInt ∧ x.toInt < (v.toInt + 1) * rnd z := by
  have h2 : 0 < y.toInt := by rcases rnd_c z with q | q <;> omega
  rw [e, i32_divT h0 h2, hy]
  have h3 : 0 < rnd z := by omega
  have t2 : x.toInt / rnd z * rnd z ≤ x.toInt := Int.ediv_mul_le _ (by omega)
  have t3 := Int.lt_ediv_add_one_mul_self x.toInt h3
  exact ⟨t2, t3⟩
theorem ph6 {x v : Int32} {z : Int} {a b : Int} (h : v.toInt * rnd z ≤ x.toInt ∧ x.toInt < (v.toInt + 1) * rnd z) (h6 : x.toInt ≤ 6 * rnd z) (g : In v a b) : In v a 6 := by
  obtain ⟨g1, g2⟩ := g
  refine ⟨g1, ?_⟩
  rcases rnd_c z with q | q <;> rw [q] at h h6 <;> omega
theorem gn6 {x v : Int32} {z : Int} (h : v.toInt * rnd z ≤ x.toInt ∧ x.toInt < (v.toInt + 1) * rnd z) (g : v.toInt ≤ 5) : x.toInt + 1 ≤ 6 * rnd z := by
  rcases rnd_c z with q | q <;> rw [q] at h ⊢ <;> omega
section LDCW
variable {p : Program} {l : Launch} {e : Env} {R : Room} {s : State} {m : MethodId} {args : Array Value} {below : List Frame} {meth : Method} {c : Code} {H : Heap} {locs : List Loc} {cells slots : Nat} {Q : State → Prop} {cc : ByteArray} {pc : Nat} {ls : Array Slot} {rest : List Value}
theorem va_ldcSw (hx : p.tables.exec = Jvm.exec) (hb : c.code = cc) {own tx : String} {index q : Nat} (hown : s.vm.findClass own = some m.cls) (hZ : vk_R own index tx q s) (hd : decode cc pc = .ok (.ldc_w index, 3))
    (kk : W p l e R s m args below meth c H locs cells slots Q (F0 m (pc + 3) ls (.ref q :: rest))) : W p l e R s m args below meth c H locs cells slots Q (F0 m pc ls rest) := by
  intro T hT X
  obtain ⟨t, a1, b1⟩ := kk T hT X
  exact ⟨t, X.ldcStringW hx hown (text := tx) (a := q) hZ.1 hZ.2 (g := F0 m pc ls rest) rfl (by rw [hb]; exact hd) t a1, b1⟩
end LDCW
