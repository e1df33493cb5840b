/-! CALLS OVER THE POOL -/
def CD (y : MethodName) (n : Nat) : Prop := y.cls ≠ "java/lang/invoke/MethodHandle" ∧ y.cls ≠ "java/lang/invoke/VarHandle" ∧ (parseMethodDescriptor y.desc).map (fun d => d.parameters.length) = some n
/-- an instance method's words; a static one's; a constructor's -/
def CV (y : MethodName) (bytes : ByteArray) (maxL : Nat) (ret : Option FieldType) (n : Nat) : Prop := Cond.code y bytes maxL ret ∈ GW ∧ Cond.initialized y.cls ∈ GW ∧ Cond.instanceMethod y ∈ GW ∧ Cond.selects y.cls y y ∈ GW ∧ CD y n
def CS (y : MethodName) (bytes : ByteArray) (maxL : Nat) (ret : Option FieldType) (n : Nat) : Prop := Cond.code y bytes maxL ret ∈ GW ∧ Cond.initialized y.cls ∈ GW ∧ Cond.static y ∈ GW ∧ CD y n
def CI (y : MethodName) (bytes : ByteArray) (maxL : Nat) (n : Nat) : Prop := Cond.code y bytes maxL none ∈ GW ∧ Cond.initialized y.cls ∈ GW ∧ Cond.instanceMethod y ∈ GW ∧ CD y n ∧ y.name = "<init>"
theorem reg_of {L : List Nat} {f : HP} {A : Nat → Prop} {H0 H : Heap} {locs : List Loc} (hD : va_D A (va_pl L f)) (hS : va_S A H0 H locs) (hA : ∀ q, H0.size ≤ q → A q) : ∀ q, Rg L f H.size q → A q := by
  intro q h
  rcases h with ⟨k, e, hk⟩ | h
  · exact hD.2 k _ hk
  · exact hA q (Nat.le_trans hS.1 h)
theorem pre_of {g : GG} {L : List Nat} {f : HP} {A : Nat → Prop} {s : State} {H : Heap} {locs : List Loc} (hG : GK g s) (hE : SW g A s s.heap) (hA : ∀ q, s.heap.size ≤ q → A q) (hP : va_P g.1 vwCl (va_pl L f) H) (hD : va_D A (va_pl L f)) (hS : va_S A s.heap H locs) : ∀ U : State, U.heap = H → s.WarmedH U.vm → PreB g L f H.size U := by
  intro U hU hW
  refine ⟨by rw [hU], by rw [hU]; exact hP, hG.warm hW, hD.weaken (fun _ _ _ _ => trivial), ?_⟩
  rw [hU]
  exact SW.moved hW.alike (SW.narrow (SW.kept hE (fun a h1 h2 => hS.2.1 a h1 h2)) (reg_of hD hS hA))
section CALLS
variable {p : Program} {l : Launch} {e : Env} {R : Room} {s : State} {m : MethodId} {args : Array Value} {below : List Frame} {meth : Method} {c : Code} {H : Heap} {locs : List Loc} {cells slots : Nat} {Q : State → Prop} {cc : ByteArray} {pc : Nat} {ls : Array Slot} {rest st : List Value} {g : GG} {L : List Nat} {f : HP} {A : Nat → Prop} {a : Nat}
variable {y : MethodName} {bytes : ByteArray} {maxL nL n index : Nat} {ret : Option FieldType} {rm : Room} {Qc : Array Value → State → Outcome → State → Prop} {free : Addr → Prop} {d0 : Cond} {own : String} {b : Nat} {As : List Value}
theorem run_V (hx : p.tables.exec = Jvm.exec) (hb : c.code = cc) (hml : c.maxLocals = nL) (hown : s.vm.findClass own = some m.cls) (hts : ∀ w ∈ d0 :: GW, w.before args s = true)
    (hM : Met l y (Cond.code y bytes maxL ret :: GW) rm (va_Pc (.ref b :: As) (PreB g L f H.size)) Qc rm.cells rm.slots free) (hv : CV y bytes maxL ret n) (hl : Cond.methodLink own index y ∈ GW) (hR : rm.frames + 1 ≤ R.frames ∧ 8 + (maxL + 11) + rm.locals ≤ R.locals)
    (hG : GK g s) (hE : SW g A s s.heap) (hA : ∀ q, s.heap.size ≤ q → A q) (hP : va_P g.1 vwCl (va_pl L f) H) (hD : va_D A (va_pl L f)) (hS : va_S A s.heap H locs)
    (hm : b ∈ L) {ci : Nat} {fs : List Value} (hf : f b = .inr (ci, fs)) {T : u_T} {N : Nat} (hc : vwCl[ci]? = some (y.cls, T, N)) (hn : As.length = n) (hsz : ls.size = nL) (hst : st = As.reverse ++ .ref b :: rest) (hW : (rest.map fun v => v.category).sum ≤ 8) (hdg : decode cc pc = .ok (.invokevirtual index, 3)) (hroom : cells + rm.cells ≤ R.cells ∧ slots + rm.slots ≤ R.slots) :
    va_Run p l e R s m args below meth c H locs cells slots rm.cells rm.slots (F0 m pc ls st) rest (Qc (Value.ref b :: As).toArray) free := by
  obtain ⟨h1, h2, h3, h4, h5⟩ := hv
  obtain ⟨q0, hq⟩ := pl_mem (f := f) hm
  rw [hf] at hq
  refine va_runV (C := y.cls) (n := n) ⟨hx, hb, hml, hown, hts⟩ hM ⟨callB_of n hts (goodIn_GW h1) rfl rfl rfl (hts _ (mT h2)) (hts _ (mT hl)) h5 hR, hts _ (mT h3), hts _ (mT h4)⟩ ⟨pre_blind, va_recv hG.1 hP hc hq, fun U hU hW => ⟨rfl, pre_of hG hE hA hP hD hS U hU hW⟩⟩ rfl hn hsz hst (lv_room hW) hdg hroom
theorem run_VN {host : String} (hx : p.tables.exec = Jvm.exec) (hb : c.code = cc) (hml : c.maxLocals = nL) (hown : s.vm.findClass own = some m.cls) (hts : ∀ w ∈ d0 :: GW, w.before args s = true)
    (hM : Met l y (Cond.code y bytes maxL ret :: GW) rm (va_Pc (.ref b :: As) (PreB g L f H.size)) Qc rm.cells rm.slots free) (hv : CV y bytes maxL ret n) (hl : Cond.methodLinkNest own index y host ∈ NW) (hR : rm.frames + 1 ≤ R.frames ∧ 8 + (maxL + 11) + rm.locals ≤ R.locals)
    (hG : GK g s) (hE : SW g A s s.heap) (hA : ∀ q, s.heap.size ≤ q → A q) (hP : va_P g.1 vwCl (va_pl L f) H) (hD : va_D A (va_pl L f)) (hS : va_S A s.heap H locs)
    (hm : b ∈ L) {ci : Nat} {fs : List Value} (hf : f b = .inr (ci, fs)) {T : u_T} {N : Nat} (hc : vwCl[ci]? = some (y.cls, T, N)) (hn : As.length = n) (hsz : ls.size = nL) (hst : st = As.reverse ++ .ref b :: rest) (hW : (rest.map fun v => v.category).sum ≤ 8) (hdg : decode cc pc = .ok (.invokevirtual index, 3)) (hroom : cells + rm.cells ≤ R.cells ∧ slots + rm.slots ≤ R.slots) :
    va_Run p l e R s m args below meth c H locs cells slots rm.cells rm.slots (F0 m pc ls st) rest (Qc (Value.ref b :: As).toArray) free := by
  obtain ⟨h1, h2, h3, h4, h5⟩ := hv
  obtain ⟨q0, hq⟩ := pl_mem (f := f) hm
  rw [hf] at hq
  refine va_runVN (C := y.cls) (n := n) ⟨hx, hb, hml, hown, hts⟩ hM ⟨va_cnB n hts (goodIn_GW h1) rfl rfl rfl (hG.2.1 _ hl) (hts _ (mT h2)) h5 hR, hts _ (mT h3), hts _ (mT h4)⟩ ⟨pre_blind, va_recv hG.1 hP hc hq, fun U hU hW => ⟨rfl, pre_of hG hE hA hP hD hS U hU hW⟩⟩ rfl hn hsz hst (lv_room hW) hdg hroom
theorem run_S (hx : p.tables.exec = Jvm.exec) (hb : c.code = cc) (hml : c.maxLocals = nL) (hown : s.vm.findClass own = some m.cls) (hts : ∀ w ∈ d0 :: GW, w.before args s = true)
    (hM : Met l y (Cond.code y bytes maxL ret :: GW) rm (va_Pc As (PreB g L f H.size)) Qc rm.cells rm.slots free) (hv : CS y bytes maxL ret n) (hl : Cond.methodLink own index y ∈ GW) (hR : rm.frames + 1 ≤ R.frames ∧ 8 + (maxL + 11) + rm.locals ≤ R.locals)
    (hG : GK g s) (hE : SW g A s s.heap) (hA : ∀ q, s.heap.size ≤ q → A q) (hP : va_P g.1 vwCl (va_pl L f) H) (hD : va_D A (va_pl L f)) (hS : va_S A s.heap H locs)
    (hn : As.length = n) (hsz : ls.size = nL) (hst : st = As.reverse ++ rest) (hW : (rest.map fun v => v.category).sum ≤ 8) (hdg : decode cc pc = .ok (.invokestatic index, 3)) (hroom : cells + rm.cells ≤ R.cells ∧ slots + rm.slots ≤ R.slots) :
    va_Run p l e R s m args below meth c H locs cells slots rm.cells rm.slots (F0 m pc ls st) rest (Qc As.toArray) free := by
  obtain ⟨h1, h2, h3, h5⟩ := hv
  refine va_runS (n := n) ⟨hx, hb, hml, hown, hts⟩ hM ⟨callB_of n hts (goodIn_GW h1) rfl rfl rfl (hts _ (mT h2)) (hts _ (mT hl)) h5 hR, hts _ (mT h3)⟩ ⟨pre_blind, fun U hU hW => ⟨rfl, pre_of hG hE hA hP hD hS U hU hW⟩⟩ rfl hn hsz hst (lv_room hW) hdg hroom
theorem run_SN {host : String} (hx : p.tables.exec = Jvm.exec) (hb : c.code = cc) (hml : c.maxLocals = nL) (hown : s.vm.findClass own = some m.cls) (hts : ∀ w ∈ d0 :: GW, w.before args s = true)
    (hM : Met l y (Cond.code y bytes maxL ret :: GW) rm (va_Pc As (PreB g L f H.size)) Qc rm.cells rm.slots free) (hv : CS y bytes maxL ret n) (hl : Cond.methodLinkNest own index y host ∈ NW) (hR : rm.frames + 1 ≤ R.frames ∧ 8 + (maxL + 11) + rm.locals ≤ R.locals)
    (hG : GK g s) (hE : SW g A s s.heap) (hA : ∀ q, s.heap.size ≤ q → A q) (hP : va_P g.1 vwCl (va_pl L f) H) (hD : va_D A (va_pl L f)) (hS : va_S A s.heap H locs)
    (hn : As.length = n) (hsz : ls.size = nL) (hst : st = As.reverse ++ rest) (hW : (rest.map fun v => v.category).sum ≤ 8) (hdg : decode cc pc = .ok (.invokestatic index, 3)) (hroom : cells + rm.cells ≤ R.cells ∧ slots + rm.slots ≤ R.slots) :
    va_Run p l e R s m args below meth c H locs cells slots rm.cells rm.slots (F0 m pc ls st) rest (Qc As.toArray) free := by
  obtain ⟨h1, h2, h3, h5⟩ := hv
  refine va_runSN (n := n) ⟨hx, hb, hml, hown, hts⟩ hM ⟨va_cnB n hts (goodIn_GW h1) rfl rfl rfl (hG.2.1 _ hl) (hts _ (mT h2)) h5 hR, hts _ (mT h3), trivial⟩ ⟨pre_blind, fun U hU hW => ⟨rfl, pre_of hG hE hA hP hD hS U hU hW⟩⟩ rfl hn hsz hst (lv_room hW) hdg hroom
theorem run_I (hx : p.tables.exec = Jvm.exec) (hb : c.code = cc) (hml : c.maxLocals = nL) (hown : s.vm.findClass own = some m.cls) (hts : ∀ w ∈ d0 :: GW, w.before args s = true)
    (hM : Met l y (Cond.code y bytes maxL none :: GW) rm (va_Pc (.ref b :: As) (PreB g L f H.size)) Qc rm.cells rm.slots free) (hv : CI y bytes maxL n) (hl : Cond.methodLink own index y ∈ GW) (hR : rm.frames + 1 ≤ R.frames ∧ 8 + (maxL + 11) + rm.locals ≤ R.locals)
    (hG : GK g s) (hE : SW g A s s.heap) (hA : ∀ q, s.heap.size ≤ q → A q) (hP : va_P g.1 vwCl (va_pl L f) H) (hD : va_D A (va_pl L f)) (hS : va_S A s.heap H locs)
    (hn : As.length = n) (hsz : ls.size = nL) (hst : st = As.reverse ++ .ref b :: rest) (hW : (rest.map fun v => v.category).sum ≤ 8) (hdg : decode cc pc = .ok (.invokespecial index, 3)) (hroom : cells + rm.cells ≤ R.cells ∧ slots + rm.slots ≤ R.slots) :
    va_Run p l e R s m args below meth c H locs cells slots rm.cells rm.slots (F0 m pc ls st) rest (Qc (Value.ref b :: As).toArray) free := by
  obtain ⟨h1, h2, h3, h5, h6⟩ := hv
  refine va_runI (n := n) ⟨hx, hb, hml, hown, hts⟩ hM ⟨callB_of n hts (goodIn_GW h1) rfl rfl rfl (hts _ (mT h2)) (hts _ (mT hl)) h5 hR, h6, hts _ (mT h3)⟩ ⟨pre_blind, fun U hU hW => ⟨rfl, pre_of hG hE hA hP hD hS U hU hW⟩⟩ rfl hn hsz hst (lv_room hW) hdg hroom
theorem run_IN {host : String} (hx : p.tables.exec = Jvm.exec) (hb : c.code = cc) (hml : c.maxLocals = nL) (hown : s.vm.findClass own = some m.cls) (hts : ∀ w ∈ d0 :: GW, w.before args s = true)
    (hM : Met l y (Cond.code y bytes maxL none :: GW) rm (va_Pc (.ref b :: As) (PreB g L f H.size)) Qc rm.cells rm.slots free) (hv : CI y bytes maxL n) (hl : Cond.methodLinkNest own index y host ∈ NW) (hR : rm.frames + 1 ≤ R.frames ∧ 8 + (maxL + 11) + rm.locals ≤ R.locals)
    (hG : GK g s) (hE : SW g A s s.heap) (hA : ∀ q, s.heap.size ≤ q → A q) (hP : va_P g.1 vwCl (va_pl L f) H) (hD : va_D A (va_pl L f)) (hS : va_S A s.heap H locs)
    (hn : As.length = n) (hsz : ls.size = nL) (hst : st = As.reverse ++ .ref b :: rest) (hW : (rest.map fun v => v.category).sum ≤ 8) (hdg : decode cc pc = .ok (.invokespecial index, 3)) (hroom : cells + rm.cells ≤ R.cells ∧ slots + rm.slots ≤ R.slots) :
    va_Run p l e R s m args below meth c H locs cells slots rm.cells rm.slots (F0 m pc ls st) rest (Qc (Value.ref b :: As).toArray) free := by
  obtain ⟨h1, h2, h3, h5, h6⟩ := hv
  refine va_runIN (n := n) ⟨hx, hb, hml, hown, hts⟩ hM ⟨va_cnB n hts (goodIn_GW h1) rfl rfl rfl (hG.2.1 _ hl) (hts _ (mT h2)) h5 hR, h6, hts _ (mT h3)⟩ ⟨pre_blind, fun U hU hW => ⟨rfl, pre_of hG hE hA hP hD hS U hU hW⟩⟩ rfl hn hsz hst (lv_room hW) hdg hroom
theorem call_i {post : Int32 → (List Nat × HP) → Prop} {mc ms : Nat} {aa : Array Value} {H0 : Heap} (hr : va_Run p l e R s m args below meth c H locs cells slots mc ms (F0 m pc ls st) rest (va_Qi post (PstB g (Rg L f H.size)) (Rg L f H.size) aa) (Rg L f H.size)) (hA : ∀ q, H0.size ≤ q → A q) (hD : va_D A (va_pl L f)) (hS : va_S A H0 H locs)
    (kk : ∀ (r : Int32) (L1 : List Nat) (f1 : HP) (H1 : Heap) (locs1 : List Loc), post r (L1, f1) → va_P g.1 vwCl (va_pl L1 f1) H1 → va_D A (va_pl L1 f1) → va_S A H0 H1 locs1 → W p l e R s m args below meth c H1 locs1 (cells + mc) (slots + ms) Q (F0 m (pc + 3) ls (.int r :: rest))) : W p l e R s m args below meth c H locs cells slots Q (F0 m pc ls st) := by
  have hF := reg_of hD hS hA
  refine va_calli hr hS (fun q _ h => hF q h) hF (fun r u t H1 locs1 ht hvm hw hB hz1 hk1 hS1 => ?_)
  obtain ⟨hP1, hD1⟩ := hB
  rw [ht] at hP1
  exact kk r u.1 u.2 H1 locs1 hw hP1 (hD1.weaken (fun _ q _ h => hF q.1 h)) hS1
theorem call_l {post : Int64 → (List Nat × HP) → Prop} {mc ms : Nat} {aa : Array Value} {H0 : Heap} (hr : va_Run p l e R s m args below meth c H locs cells slots mc ms (F0 m pc ls st) rest (va_Ql post (PstB g (Rg L f H.size)) (Rg L f H.size) aa) (Rg L f H.size)) (hA : ∀ q, H0.size ≤ q → A q) (hD : va_D A (va_pl L f)) (hS : va_S A H0 H locs)
    (kk : ∀ (r : Int64) (L1 : List Nat) (f1 : HP) (H1 : Heap) (locs1 : List Loc), post r (L1, f1) → va_P g.1 vwCl (va_pl L1 f1) H1 → va_D A (va_pl L1 f1) → va_S A H0 H1 locs1 → W p l e R s m args below meth c H1 locs1 (cells + mc) (slots + ms) Q (F0 m (pc + 3) ls (.long r :: rest))) : W p l e R s m args below meth c H locs cells slots Q (F0 m pc ls st) := by
  have hF := reg_of hD hS hA
  refine va_calll hr hS (fun q _ h => hF q h) hF (fun r u t H1 locs1 ht hvm hw hB hz1 hk1 hS1 => ?_)
  obtain ⟨hP1, hD1⟩ := hB
  rw [ht] at hP1
  exact kk r u.1 u.2 H1 locs1 hw hP1 (hD1.weaken (fun _ q _ h => hF q.1 h)) hS1
theorem call_v {post : (List Nat × HP) → Prop} {mc ms : Nat} {aa : Array Value} {H0 : Heap} (hr : va_Run p l e R s m args below meth c H locs cells slots mc ms (F0 m pc ls st) rest (va_Qv post (PstB g (Rg L f H.size)) (Rg L f H.size) aa) (Rg L f H.size)) (hA : ∀ q, H0.size ≤ q → A q) (hD : va_D A (va_pl L f)) (hS : va_S A H0 H locs)
    (kk : ∀ (L1 : List Nat) (f1 : HP) (H1 : Heap) (locs1 : List Loc), post (L1, f1) → va_P g.1 vwCl (va_pl L1 f1) H1 → va_D A (va_pl L1 f1) → va_S A H0 H1 locs1 → W p l e R s m args below meth c H1 locs1 (cells + mc) (slots + ms) Q (F0 m (pc + 3) ls rest)) : W p l e R s m args below meth c H locs cells slots Q (F0 m pc ls st) := by
  have hF := reg_of hD hS hA
  refine va_callv hr hS (fun q _ h => hF q h) hF (fun u t H1 locs1 ht hvm hw hB hz1 hk1 hS1 => ?_)
  obtain ⟨hP1, hD1⟩ := hB
  rw [ht] at hP1
  exact kk u.1 u.2 H1 locs1 hw hP1 (hD1.weaken (fun _ q _ h => hF q.1 h)) hS1
end CALLS
/-! a reference comes back; a String is asked -/
def MtR (l : Launch) (g : GG) (y : MethodName) (cc : ByteArray) (n : Nat) (ret : Option FieldType) (rm : Room) (av : List Value) (L : List Nat) (f : HP) (sz : Nat) (post : Nat → (List Nat × HP) → Prop) : Prop :=
  Met l y (Cond.code y cc n ret :: GW) rm (va_Pc av (PreB g L f sz)) (va_Qr (fun _ : List Nat × HP => True) (fun u a t => PstB g (Rg L f sz) u t ∧ post a u) (Rg L f sz)) rm.cells rm.slots (Rg L f sz)
theorem MtR.of {l : Launch} {g : GG} {y : MethodName} {cc : ByteArray} {n : Nat} {ret : Option FieldType} {rm : Room} {av : List Value} {L : List Nat} {f : HP} {sz : Nat} {post : Nat → (List Nat × HP) → Prop} (hy : plainName y.cls = true) (hlen : (lg_sl av).length ≤ n)
    (body : ∀ (p : Program) (e : Env) (s : State) (m : MethodId) (below : List Frame) (meth : Method) (c : Code) (A : Nat → Prop), ENV p e s m av meth c y cc n ret g L f A → va_P g.1 vwCl (va_pl L f) s.heap → va_D A (va_pl L f) → va_S A s.heap s.heap [] → ∀ ls : Array Slot, lv_has ls n (lv_args 0 av) →
      W p l e rm s m av.toArray below meth c s.heap [] 0 0 (MQ below (va_Qr (fun _ : List Nat × HP => True) (fun u a t => PstB g A u t ∧ post a u) A) av.toArray s rm.cells rm.slots A) (F0 m 0 ls [])) : MtR l g y cc n ret rm av L f sz post := by
  refine Met.ofW (cc := cc) (maxL := n) (ret := ret) hy rfl ?_
  intro p e s m args below meth c s₁ B hml hv
  obtain ⟨rfl, rfl, hP, hD, hE⟩ := env_of B hml hv
  have hl := lv_entry av (n := n) hlen
  rw [lg_entry_eq]
  exact body p e s m below meth c _ hE hP hD va_S.rf _ hl
section CALLS2
variable {p : Program} {l : Launch} {e : Env} {R : Room} {s : State} {m : MethodId} {args : Array Value} {below : List Frame} {meth : Method} {c : Code} {H : Heap} {locs : List Loc} {cells slots : Nat} {Q : State → Prop} {cc : ByteArray} {pc : Nat} {ls : Array Slot} {rest st : List Value} {g : GG} {L : List Nat} {f : HP} {A : Nat → Prop} {a : Nat}
variable {y : MethodName} {bytes : ByteArray} {maxL nL n index : Nat} {ret : Option FieldType} {rm : Room} {Qc : Array Value → State → Outcome → State → Prop} {free : Addr → Prop} {d0 : Cond} {own : String} {b : Nat} {As : List Value}
theorem call_r {post : Nat → (List Nat × HP) → Prop} {mc ms : Nat} {aa : Array Value} {H0 : Heap} (hr : va_Run p l e R s m args below meth c H locs cells slots mc ms (F0 m pc ls st) rest (va_Qr (fun _ : List Nat × HP => True) (fun u a t => PstB g (Rg L f H.size) u t ∧ post a u) (Rg L f H.size) aa) (Rg L f H.size)) (hA : ∀ q, H0.size ≤ q → A q) (hD : va_D A (va_pl L f)) (hS : va_S A H0 H locs)
    (kk : ∀ (r : Nat) (L1 : List Nat) (f1 : HP) (H1 : Heap) (locs1 : List Loc), post r (L1, f1) → va_P g.1 vwCl (va_pl L1 f1) H1 → va_D A (va_pl L1 f1) → va_S A H0 H1 locs1 → W p l e R s m args below meth c H1 locs1 (cells + mc) (slots + ms) Q (F0 m (pc + 3) ls (.ref r :: rest))) : W p l e R s m args below meth c H locs cells slots Q (F0 m pc ls st) := by
  have hF := reg_of hD hS hA
  refine va_callr hr hS (fun q _ h => hF q h) hF ?_
  intro u r t H1 locs1 ht hvm hw hB hz1 hk1 hS1
  obtain ⟨⟨hP1, hD1⟩, hpo⟩ := hB
  rw [ht] at hP1
  exact kk r u.1 u.2 H1 locs1 hpo hP1 (hD1.weaken (fun _ q _ h => hF q.1 h)) hS1
theorem ret_r {post : Nat → (List Nat × HP) → Prop} {mc ms : Nat} {v : Nat} {ty : FieldType} (hexec : p.tables.exec = Jvm.exec) (hb : c.code = cc) (hr : meth.sig.returnType = some ty) (hlocks : meth.locks = false) (hn : (∃ n, ty = FieldType.object n) ∨ ∃ t : FieldType, ty = t.array) (hP : va_P g.1 vwCl (va_pl L f) H) (hD : va_D A (va_pl L f)) (hS : va_S A s.heap H locs) (hc : cells ≤ mc) (hs : slots ≤ ms) (hpost : post v (L, f)) (hdg : decode cc pc = .ok (.areturn, 1)) :
    W p l e R s m args below meth c H locs cells slots (MQ below (va_Qr (fun _ : List Nat × HP => True) (fun u a t => PstB g A u t ∧ post a u) A) args s mc ms A) (F0 m pc ls [.ref v]) := by
  refine W.widen (k := mc) (n := ms) hc hs ?_
  exact W.aret (v := .ref v) hexec hb hr hn (Or.inr ⟨v, rfl⟩) (fun t ht hW => ⟨⟨(L, f), v, rfl, trivial, ⟨by rw [ht]; exact hP, hD⟩, hpost⟩, hS.F ht⟩) hS.2.2 hdg hlocks
/-- a method of a String constant -/
theorem run_VJ (hx : p.tables.exec = Jvm.exec) (hb : c.code = cc) (hml : c.maxLocals = nL) (hown : s.vm.findClass own = some m.cls) (hts : ∀ w ∈ d0 :: GW, w.before args s = true)
    {i : Nat} (hi : i < nS) (hM : Met l y (Cond.code y bytes maxL ret :: GW) rm (va_Pc (.ref (g.2.2.1 i) :: As) (PreB g L f H.size)) Qc rm.cells rm.slots free) (hv : CV y bytes maxL ret n) (hl : Cond.methodLink own index y ∈ GW) (hyc : y.cls = "java/lang/String") (hR : rm.frames + 1 ≤ R.frames ∧ 8 + (maxL + 11) + rm.locals ≤ R.locals)
    (hG : GK g s) (hE : SW g A s s.heap) (hA : ∀ q, s.heap.size ≤ q → A q) (hP : va_P g.1 vwCl (va_pl L f) H) (hD : va_D A (va_pl L f)) (hS : va_S A s.heap H locs)
    (hn : As.length = n) (hsz : ls.size = nL) (hst : st = As.reverse ++ .ref (g.2.2.1 i) :: rest) (hW : (rest.map fun v => v.category).sum ≤ 8) (hdg : decode cc pc = .ok (.invokevirtual index, 3)) (hroom : cells + rm.cells ≤ R.cells ∧ slots + rm.slots ≤ R.slots) :
    va_Run p l e R s m args below meth c H locs cells slots rm.cells rm.slots (F0 m pc ls st) rest (Qc (Value.ref (g.2.2.1 i) :: As).toArray) free := by
  obtain ⟨h1, h2, h3, h4, h5⟩ := hv
  obtain ⟨cell, g1, g2, g3, -⟩ := ((hE.1 i hi).1).kept (fun a h1 h2 => hS.2.1 a h1 h2)
  refine va_runV (C := y.cls) (n := n) ⟨hx, hb, hml, hown, hts⟩ hM ⟨callB_of n hts (goodIn_GW h1) rfl rfl rfl (hts _ (mT h2)) (hts _ (mT hl)) h5 hR, hts _ (mT h3), hts _ (mT h4)⟩ ⟨pre_blind, ⟨cell, g1, g2, by rw [hyc]; exact g3⟩, fun U hU hW => ⟨rfl, pre_of hG hE hA hP hD hS U hU hW⟩⟩ rfl hn hsz hst (lv_room hW) hdg hroom
end CALLS2
