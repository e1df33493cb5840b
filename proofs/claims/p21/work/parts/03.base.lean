/-! THE POOL: a world of addresses L, what each holds f; one list of words for every method -/
abbrev HP : Type := Nat → va_E
abbrev GG : Type := va_G × (Nat → ClassId) × (Nat → Nat) × (Nat → Nat)
def isNest : Cond → Bool
  | .fieldLinkNest _ _ _ _ _ _ => true
  | .methodLinkNest _ _ _ _ => true
  | .declares _ => true
  | .castable _ _ => true
  | _ => false
def GW : List Cond := lw_tbl.filter goodWord
def NW : List Cond := lw_tbl.filter isNest
theorem mG {w : Cond} (i : Nat) (h : lw_tbl[i]? = some w) (g : goodWord w = true) : w ∈ GW := List.mem_filter.mpr ⟨List.mem_of_getElem? h, g⟩
theorem mN {w : Cond} (i : Nat) (h : lw_tbl[i]? = some w) (g : isNest w = true) : w ∈ NW := List.mem_filter.mpr ⟨List.mem_of_getElem? h, g⟩
theorem mT {w c : Cond} (h : w ∈ GW) : w ∈ c :: GW := List.mem_cons_of_mem _ h
theorem goodGW {w : Cond} (h : w ∈ GW) : (w.onTables && w.keeps) = true ∨ ∃ ty, w = .arrayClass ty := good_of_word (List.mem_filter.mp h).2
theorem goodIn_GW {c d : Cond} (h : d ∈ GW) : GoodIn (c :: GW) (d :: GW) := fun w hw => (List.mem_cons.mp hw).elim (fun e => ⟨by rw [e]; exact mT h, by rw [e]; exact goodGW h⟩) (fun h2 => ⟨mT h2, goodGW h2⟩)
theorem nest_on {w : Cond} (h : isNest w = true) : w.onTables = true := by
  cases w <;> first | rfl | exact absurd h (by simp [isNest])
theorem nest_warm {w : Cond} (h : isNest w = true) {s U : State} (hW : s.WarmedH U.vm) (hZ : va_Nw w s) : va_Nw w U := by
  cases w <;> first | exact va_Nw.warmF hW hZ | exact va_Nw.warmM hW hZ | exact va_Nw.warmD hW hZ | exact va_Nw.warmC hW hZ | exact absurd h (by simp [isNest])
/-- the claim's string constants: (owner, entry, text, which literal) -/
def tyG (g : GG) : List (ClassId × FieldType) := [(g.2.1 0, .int), (g.2.1 1, .long), (g.2.1 2, .byte), (g.2.1 3, .boolean), (g.2.1 4, .object "RulerWord$Course")]
def GK (g : GG) (U : State) : Prop := va_K g.1 vwCl (tyG g) U ∧ (∀ w ∈ NW, va_Nw w U) ∧ (∀ q ∈ SR, vk_R q.1 q.2.1 q.2.2.1 (g.2.2.1 q.2.2.2) U) ∧ va_AO "RulerWord$Course" U
theorem GK.warm {g : GG} {s U : State} (hW : s.WarmedH U.vm) (h : GK g s) : GK g U := ⟨va_K.moved hW.alike h.1, fun w hw => nest_warm (List.mem_filter.mp hw).2 hW (h.2.1 w hw), fun q hq => vk_R.warm hW (h.2.2.1 q hq), va_AO.moved hW.alike h.2.2.2⟩
theorem GK.same {g : GG} {s U : State} (hv : U.vm = s.vm) (h : GK g s) : GK g U := ⟨va_K.moved (by rw [hv]; exact Vm.Alike.refl _) h.1, fun w hw => va_Nw.same (nest_on (List.mem_filter.mp hw).2) hv.symm (h.2.1 w hw), fun q hq => vk_R.same hv (h.2.2.1 q hq), va_AO.moved (by rw [hv]; exact Vm.Alike.refl _) h.2.2.2⟩
abbrev Rg (L : List Nat) (f : HP) (sz : Nat) : Nat → Prop := va_A (va_pl L f) sz
def SW (g : GG) (A : Nat → Prop) (U : State) (H : Heap) : Prop := (∀ i : Nat, i < nS → va_O "java/lang/String" (g.2.2.1 i) A U H ∧ va_OF "java/lang/String" "coder" "B" (.int 0) (g.2.2.1 i) A U H ∧ va_OF "java/lang/String" "value" "[B" (.ref (g.2.2.2 i)) (g.2.2.1 i) A U H ∧ va_T .byte (g.2.2.2 i) (lenS.getD i 0) (fun j => .int ((bytS.getD i []).getD j 0)) A U H) ∧ va_Z "java/lang/String" "COMPACT_STRINGS" "Z" (.int 1) A U H ∧ vx_Zq Bundle.tN "UNASSIGNED_STACK" Bundle.steD A U H ∧ vx_Zq Bundle.tN "SUPPRESSED_SENTINEL" Bundle.listD A U H ∧ va_Zq "jdk/internal/util/Preconditions" "SIOOBE_FORMATTER" "Ljava/util/function/BiFunction;" A U H
theorem SW.moved {g : GG} {A : Nat → Prop} {u U : State} {H : Heap} (hvm : u.vm.Alike U.vm) (h : SW g A u H) : SW g A U H := ⟨fun i hi => ⟨va_O.moved hvm (h.1 i hi).1, va_OF.moved hvm (h.1 i hi).2.1, va_OF.moved hvm (h.1 i hi).2.2.1, va_T.moved hvm (h.1 i hi).2.2.2⟩, va_Z.moved hvm h.2.1, vx_Zq.moved hvm h.2.2.1, vx_Zq.moved hvm h.2.2.2.1, va_Zq.moved hvm h.2.2.2.2⟩
theorem SW.kept {g : GG} {A : Nat → Prop} {U : State} {H H1 : Heap} (h : SW g A U H) (hq : ∀ a : Nat, a < H.size → ¬ A a → H1[a]? = H[a]?) : SW g A U H1 := ⟨fun i hi => ⟨(h.1 i hi).1.kept hq, (h.1 i hi).2.1.kept hq, (h.1 i hi).2.2.1.kept hq, (h.1 i hi).2.2.2.kept hq⟩, h.2.1.kept hq, h.2.2.1.kept hq, h.2.2.2.1.kept hq, va_Zq.kept h.2.2.2.2 hq⟩
theorem SW.narrow {g : GG} {A B : Nat → Prop} {U : State} {H : Heap} (h : SW g A U H) (hAB : ∀ q, B q → A q) : SW g B U H := ⟨fun i hi => ⟨(h.1 i hi).1.narrow hAB, (h.1 i hi).2.1.narrow hAB, (h.1 i hi).2.2.1.narrow hAB, (h.1 i hi).2.2.2.narrow hAB⟩, h.2.1.narrow hAB, h.2.2.1.narrow hAB, h.2.2.2.1.narrow hAB, va_Zq.narrow h.2.2.2.2 hAB⟩
def PreB (g : GG) (L : List Nat) (f : HP) (sz : Nat) (U : State) : Prop := U.heap.size = sz ∧ va_P g.1 vwCl (va_pl L f) U.heap ∧ GK g U ∧ va_D (fun _ => True) (va_pl L f) ∧ SW g (Rg L f sz) U U.heap
def PstB (g : GG) (A : Nat → Prop) (u : List Nat × HP) (t : State) : Prop := va_P g.1 vwCl (va_pl u.1 u.2) t.heap ∧ va_D A (va_pl u.1 u.2)
/-- contracts: an int, a long, nothing comes back -/
def MtI (l : Launch) (g : GG) (y : MethodName) (cc : ByteArray) (n : Nat) (ret : Option FieldType) (rm : Room) (av : List Value) (L : List Nat) (f : HP) (sz : Nat) (post : Int32 → (List Nat × HP) → Prop) : Prop :=
  Met l y (Cond.code y cc n ret :: GW) rm (va_Pc av (PreB g L f sz)) (va_Qi post (PstB g (Rg L f sz)) (Rg L f sz)) rm.cells rm.slots (Rg L f sz)
def MtL (l : Launch) (g : GG) (y : MethodName) (cc : ByteArray) (n : Nat) (ret : Option FieldType) (rm : Room) (av : List Value) (L : List Nat) (f : HP) (sz : Nat) (post : Int64 → (List Nat × HP) → Prop) : Prop :=
  Met l y (Cond.code y cc n ret :: GW) rm (va_Pc av (PreB g L f sz)) (va_Ql post (PstB g (Rg L f sz)) (Rg L f sz)) rm.cells rm.slots (Rg L f sz)
def MtV (l : Launch) (g : GG) (y : MethodName) (cc : ByteArray) (n : Nat) (rm : Room) (av : List Value) (L : List Nat) (f : HP) (sz : Nat) (post : (List Nat × HP) → Prop) : Prop :=
  Met l y (Cond.code y cc n none :: GW) rm (va_Pc av (PreB g L f sz)) (va_Qv post (PstB g (Rg L f sz)) (Rg L f sz)) rm.cells rm.slots (Rg L f sz)
/-- what a method's body stands on -/
def ENV (p : Program) (e : Env) (s : State) (m : MethodId) (av : List Value) (meth : Method) (c : Code) (y : MethodName) (cc : ByteArray) (n : Nat) (ret : Option FieldType) (g : GG) (L : List Nat) (f : HP) (A : Nat → Prop) : Prop :=
  p.tables.exec = Jvm.exec ∧ c.code = cc ∧ meth.sig.returnType = ret ∧ c.maxLocals = n ∧ s.vm.findClass y.cls = some m.cls ∧ meth.locks = false ∧ (∀ w ∈ (Cond.code y cc n ret :: GW), w.before av.toArray s = true) ∧ GK g s ∧ (∀ q, s.heap.size ≤ q → A q) ∧ SW g A s s.heap ∧ meth.name = y.name
theorem pre_blind {g : GG} {av : List Value} {L : List Nat} {f : HP} {sz : Nat} : FrameBlind (va_Pc av (PreB g L f sz)) := fun a U gg mk q => by
  obtain ⟨q0, q1, qP, qK, qD, qS⟩ := q
  exact ⟨q0, q1, qP, GK.same (s := U) (U := U.calling gg mk a) rfl qK, qD, SW.moved (u := U) (U := U.calling gg mk a) (Vm.Alike.refl U.vm) qS⟩
section START
variable {l : Launch} {g : GG} {y : MethodName} {cc : ByteArray} {n : Nat} {ret : Option FieldType} {rm : Room} {av : List Value} {L : List Nat} {f : HP} {sz : Nat}
theorem env_of {p : Program} {e : Env} {s : State} {m : MethodId} {args : Array Value} {below : List Frame} {meth : Method} {c : Code} {s₁ : State} (B : BodyLoose p l y (headSpec (Cond.code y cc n ret :: GW) rm) cc n ret e s m args below meth c s₁) (hml : c.maxLocals = n) (hv : va_Pc av (PreB g L f sz) args s) :
    args = av.toArray ∧ sz = s.heap.size ∧ va_P g.1 vwCl (va_pl L f) s.heap ∧ va_D (Rg L f sz) (va_pl L f) ∧ ENV p e s m av meth c y cc n ret g L f (Rg L f sz) := by
  obtain ⟨rfl, hsz, hP, hK, hD0, hE⟩ := hv
  subst hsz
  exact ⟨rfl, rfl, hP, hD0.self, B.exec, B.bytes, B.returns, hml, findClass_of_methodNamed B.named, B.notSynchronized, atoms_spec (ws := Cond.code y cc n ret :: GW) B.pre, hK, fun q h => Or.inr h, hE, (name_of_methodNamed B.named B.method).1⟩
theorem MtI.of {post : Int32 → (List Nat × HP) → Prop} (hy : plainName y.cls = true) (hlen : (lg_sl av).length ≤ n)
    (body : ∀ (p : Program) (e : Env) (s : State) (m : MethodId) (below : List Frame) (meth : Method) (c : Code) (A : Nat → Prop), ENV p e s m av meth c y cc n ret g L f A → va_P g.1 vwCl (va_pl L f) s.heap → va_D A (va_pl L f) → va_S A s.heap s.heap [] → ∀ ls : Array Slot, lv_has ls n (lv_args 0 av) →
      W p l e rm s m av.toArray below meth c s.heap [] 0 0 (MQ below (va_Qi post (PstB g A) A) av.toArray s rm.cells rm.slots A) (F0 m 0 ls [])) : MtI l g y cc n ret rm av L f sz post := by
  refine Met.ofW (cc := cc) (maxL := n) (ret := ret) hy rfl ?_
  intro p e s m args below meth c s₁ B hml hv
  obtain ⟨rfl, rfl, hP, hD, hE⟩ := env_of B hml hv
  have hl := lv_entry av (n := n) hlen
  rw [lg_entry_eq]
  exact body p e s m below meth c _ hE hP hD va_S.rf _ hl
theorem MtL.of {post : Int64 → (List Nat × HP) → Prop} (hy : plainName y.cls = true) (hlen : (lg_sl av).length ≤ n)
    (body : ∀ (p : Program) (e : Env) (s : State) (m : MethodId) (below : List Frame) (meth : Method) (c : Code) (A : Nat → Prop), ENV p e s m av meth c y cc n ret g L f A → va_P g.1 vwCl (va_pl L f) s.heap → va_D A (va_pl L f) → va_S A s.heap s.heap [] → ∀ ls : Array Slot, lv_has ls n (lv_args 0 av) →
      W p l e rm s m av.toArray below meth c s.heap [] 0 0 (MQ below (va_Ql post (PstB g A) A) av.toArray s rm.cells rm.slots A) (F0 m 0 ls [])) : MtL l g y cc n ret rm av L f sz post := by
  refine Met.ofW (cc := cc) (maxL := n) (ret := ret) hy rfl ?_
  intro p e s m args below meth c s₁ B hml hv
  obtain ⟨rfl, rfl, hP, hD, hE⟩ := env_of B hml hv
  have hl := lv_entry av (n := n) hlen
  rw [lg_entry_eq]
  exact body p e s m below meth c _ hE hP hD va_S.rf _ hl
theorem MtV.of {post : (List Nat × HP) → Prop} (hy : plainName y.cls = true) (hlen : (lg_sl av).length ≤ n)
    (body : ∀ (p : Program) (e : Env) (s : State) (m : MethodId) (below : List Frame) (meth : Method) (c : Code) (A : Nat → Prop), ENV p e s m av meth c y cc n none g L f A → va_P g.1 vwCl (va_pl L f) s.heap → va_D A (va_pl L f) → va_S A s.heap s.heap [] → ∀ ls : Array Slot, lv_has ls n (lv_args 0 av) →
      W p l e rm s m av.toArray below meth c s.heap [] 0 0 (MQ below (va_Qv post (PstB g A) A) av.toArray s rm.cells rm.slots A) (F0 m 0 ls [])) : MtV l g y cc n rm av L f sz post := by
  refine Met.ofW (cc := cc) (maxL := n) (ret := none) hy rfl ?_
  intro p e s m args below meth c s₁ B hml hv
  obtain ⟨rfl, rfl, hP, hD, hE⟩ := env_of B hml hv
  have hl := lv_entry av (n := n) hlen
  rw [lg_entry_eq]
  exact body p e s m below meth c _ hE hP hD va_S.rf _ hl
end START
