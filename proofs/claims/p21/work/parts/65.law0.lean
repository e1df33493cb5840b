/-! THE LAW: its world at the start, the throw of line(), two pools side by side -/
abbrev NSE : String := "java/util/NoSuchElementException"
abbrev nseN : List String := ["java/lang/RuntimeException", "java/lang/Exception"]
def atN : List Cond := vx_at0 "RulerWord" 178 NSE nseN
theorem atN_in : ∀ w ∈ atN, w ∈ GW ∨ w ∈ NW := by
  have h : atN.all (fun w => decide (w ∈ lw_tbl) && (goodWord w || isNest w)) = true := by decide +kernel
  intro w hw
  have h1 := List.all_eq_true.mp h w hw
  simp only [Bool.and_eq_true, decide_eq_true_eq, Bool.or_eq_true] at h1
  exact h1.2.elim (fun q => Or.inl (List.mem_filter.mpr ⟨h1.1, q⟩)) (fun q => Or.inr (List.mem_filter.mpr ⟨h1.1, q⟩))
theorem atN_ot : ∀ w ∈ Cond.classLink "RulerWord" 176 NSE :: Cond.initialized NSE :: atN, vx_ot w = true := by
  have h : (Cond.classLink "RulerWord" 176 NSE :: Cond.initialized NSE :: atN).all vx_ot = true := by decide +kernel
  exact fun w hw => List.all_eq_true.mp h w hw
theorem atN_of {d0 : Cond} {g : GG} {args : Array Value} {s : State} (hts : ∀ w ∈ d0 :: GW, w.before args s = true) (hG : GK g s) : ∀ w ∈ atN, w.before args s = true := fun w hw => (atN_in w hw).elim (fun h => hts w (mT h)) (fun h => va_Nw.use (nest_on (List.mem_filter.mp h).2) (hG.2.1 w h))
/-- a method that throws NoSuchElementException, or ends as told -/
def XQ (g : GG) (L : List Nat) (f : HP) (sz : Nat) : String → State → State → Prop := vx_X (fun _ : Unit => True) (fun E _ t => E = NSE ∧ va_P g.1 vwCl (va_pl L f) t.heap) (Rg L f sz)
def MtX (l : Launch) (g : GG) (y : MethodName) (cc : ByteArray) (n : Nat) (ret : Option FieldType) (rm : Room) (av : List Value) (L : List Nat) (f : HP) (sz : Nat) (post : Int32 → (List Nat × HP) → Prop) : Prop :=
  vx_Met l y (Cond.code y cc n ret :: GW) rm (va_Pc av (PreB g L f sz)) (va_Qi post (PstB g (Rg L f sz)) (Rg L f sz)) (XQ g L f sz) rm.cells rm.slots (Rg L f sz)
theorem MtX.of {l : Launch} {g : GG} {y : MethodName} {cc : ByteArray} {n : Nat} {ret : Option FieldType} {rm : Room} {av : List Value} {L : List Nat} {f : HP} {sz : Nat} {post : Int32 → (List Nat × HP) → Prop} (hy : plainName y.cls = true) (hlen : (lg_sl av).length ≤ n)
    (body : ∀ (p : Program) (e : Env) (s : State) (m : MethodId) (below : List Frame) (meth : Method) (c : Code) (A : Nat → Prop), A = Rg L f s.heap.size → (∀ x ∈ c.exceptionTable.toList, False) → ENV p e s m av meth c y cc n ret g L f A → va_P g.1 vwCl (va_pl L f) s.heap → va_D A (va_pl L f) → va_S A s.heap s.heap [] → ∀ ls : Array Slot, lv_has ls n (lv_args 0 av) →
      W p l e rm s m av.toArray below meth c s.heap [] 0 0 (vx_MQ below (va_Qi post (PstB g A) A) (XQ g L f s.heap.size) av.toArray s rm.cells rm.slots A) (F0 m 0 ls [])) : MtX l g y cc n ret rm av L f sz post := by
  refine vx_ofW (cc := cc) (maxL := n) (ret := ret) hy rfl ?_
  intro p e s m args below meth c s₁ B hml htab hv
  obtain ⟨rfl, rfl, hP, hD, hE⟩ := env_of B hml hv
  have hl := lv_entry av (n := n) hlen
  rw [lg_entry_eq]
  exact body p e s m below meth c _ rfl htab hE hP hD va_S.rf _ hl
section LAWCALLS
variable {p : Program} {l : Launch} {e : Env} {R : Room} {s : State} {m : MethodId} {args : Array Value} {below : List Frame} {meth : Method} {c : Code} {H : Heap} {locs : List Loc} {cells slots : Nat} {Q : State → Prop} {cc : ByteArray} {pc : Nat} {ls : Array Slot} {rest st : List Value} {g : GG} {L : List Nat} {f : HP} {A : Nat → Prop} {a : Nat}
variable {y : MethodName} {bytes : ByteArray} {maxL nL n index : Nat} {ret : Option FieldType} {rm : Room} {Qc : Array Value → State → Outcome → State → Prop} {free : Addr → Prop} {d0 : Cond} {own : String} {b : Nat} {As : List Value}
theorem run_VX {XC : String → State → State → Prop} (hx : p.tables.exec = Jvm.exec) (hb : c.code = cc) (hml : c.maxLocals = nL) (hown : s.vm.findClass own = some m.cls) (hts : ∀ w ∈ d0 :: GW, w.before args s = true)
    (hM : vx_Met l y (Cond.code y bytes maxL ret :: GW) rm (va_Pc (.ref b :: As) (PreB g L f H.size)) Qc XC rm.cells rm.slots free) (hv : CV y bytes maxL ret n) (hl : Cond.methodLink own index y ∈ GW) (hR : rm.frames + 1 ≤ R.frames ∧ 8 + (maxL + 11) + rm.locals ≤ R.locals)
    (hG : GK g s) (hE : SW g A s s.heap) (hA : ∀ q, s.heap.size ≤ q → A q) (hP : va_P g.1 vwCl (va_pl L f) H) (hD : va_D A (va_pl L f)) (hS : va_S A s.heap H locs)
    (hm : b ∈ L) {ci : Nat} {fs : List Value} (hf : f b = .inr (ci, fs)) {T : u_T} {N : Nat} (hc : vwCl[ci]? = some (y.cls, T, N)) (hn : As.length = n) (hsz : ls.size = nL) (hst : st = As.reverse ++ .ref b :: rest) (hW : (rest.map fun v => v.category).sum ≤ 8) (hdg : decode cc pc = .ok (.invokevirtual index, 3)) (hroom : cells + rm.cells ≤ R.cells ∧ slots + rm.slots ≤ R.slots) :
    vx_Run p l e R s m args below meth c H locs cells slots rm.cells rm.slots (F0 m pc ls st) rest (Qc (Value.ref b :: As).toArray) XC free := by
  obtain ⟨h1, h2, h3, h4, h5⟩ := hv
  obtain ⟨q0, hq⟩ := pl_mem (f := f) hm
  rw [hf] at hq
  refine vx_runV (C := y.cls) (n := n) ⟨hx, hb, hml, hown, hts⟩ hM ⟨callB_of n hts (goodIn_GW h1) rfl rfl rfl (hts _ (mT h2)) (hts _ (mT hl)) h5 hR, hts _ (mT h3), hts _ (mT h4)⟩ ⟨pre_blind, va_recv hG.1 hP hc hq, fun U hU hW => ⟨rfl, pre_of hG hE hA hP hD hS U hU hW⟩⟩ rfl hn hsz hst (lv_room hW) hdg hroom
theorem run_SW {hh : List (Nat × Nat × Nat × Nat)} (hx : p.tables.exec = Jvm.exec) (hb : c.code = cc) (hml : c.maxLocals = nL) (hown : s.vm.findClass own = some m.cls) (hts : ∀ w ∈ d0 :: GW, w.before args s = true)
    (hM : Met l y (Cond.codeWith y bytes maxL ret hh :: GW) rm (va_Pc As (PreB g L f H.size)) Qc rm.cells rm.slots free) (hcw : Cond.codeWith y bytes maxL ret hh ∈ GW) (hin : Cond.initialized y.cls ∈ GW) (hst0 : Cond.static y ∈ GW) (h5 : CD y n) (hl : Cond.methodLink own index y ∈ GW) (hR : rm.frames + 1 ≤ R.frames ∧ 8 + (maxL + 11) + rm.locals ≤ R.locals)
    (hG : GK g s) (hE : SW g A s s.heap) (hA : ∀ q, s.heap.size ≤ q → A q) (hP : va_P g.1 vwCl (va_pl L f) H) (hD : va_D A (va_pl L f)) (hS : va_S A s.heap H locs)
    (hn : As.length = n) (hsz : ls.size = nL) (hst : st = As.reverse ++ rest) (hW : (rest.map fun v => v.category).sum ≤ 8) (hdg : decode cc pc = .ok (.invokestatic index, 3)) (hroom : cells + rm.cells ≤ R.cells ∧ slots + rm.slots ≤ R.slots) :
    va_Run p l e R s m args below meth c H locs cells slots rm.cells rm.slots (F0 m pc ls st) rest (Qc As.toArray) free := by
  have hG2 : GoodIn (d0 :: GW) (Cond.codeWith y bytes maxL ret hh :: GW) := goodIn_GW hcw
  refine vx_runSW (n := n) (hh := hh) ⟨hx, hb, hml, hown, hts⟩ hM ⟨⟨rfl, rfl, hR.1, hR.2, pay_in hts hG2, List.mem_cons_self⟩, hts _ (mT hcw), hts _ (mT hin), ⟨h5.1, h5.2.1⟩, fun sig h => ?_, hts _ (mT hl), hts _ (mT hst0)⟩ ⟨pre_blind, fun U hU hW => ⟨rfl, pre_of hG hE hA hP hD hS U hU hW⟩⟩ rfl hn hsz hst (lv_room hW) hdg hroom
  have h2 := h5.2.2
  rw [h] at h2
  exact (Option.some.inj h2).symm
theorem pl_P_at {D : va_G} {Lm : List Nat} {fm : HP} (h : va_P D vwCl (va_pl Lm fm) H) {a : Nat} (ha : a ∈ Lm) : a < H.size := by
  obtain ⟨k, hk⟩ := pl_mem (f := fm) ha
  exact (h k _ hk).lt
theorem pl_kept {D : va_G} {Lm : List Nat} {fm : HP} {H1 : Heap} (h : va_P D vwCl (va_pl Lm fm) H) (hk : ∀ a, a ∈ Lm → H1[a]? = H[a]?) : va_P D vwCl (va_pl Lm fm) H1 := h.kept (fun k q hq => by
  have hq2 := List.mem_of_getElem? hq
  obtain ⟨a, ha, rfl⟩ := List.mem_map.mp hq2
  exact hk a ha)
/-- a call in one pool: another one stays -/
theorem call_k {S : Type} {B : S → State → Prop} {post : Int32 → S → Prop} {mc ms : Nat} {aa : Array Value} {H0 : Heap} {Lm : List Nat} {fm : HP} (hr : va_Run p l e R s m args below meth c H locs cells slots mc ms (F0 m pc ls st) rest (va_Qi post B (Rg L f H.size) aa) (Rg L f H.size)) (hA : ∀ q, H0.size ≤ q → A q) (hD : va_D A (va_pl L f)) (hS : va_S A H0 H locs) (hPm : va_P g.1 vwCl (va_pl Lm fm) H) (hdis : ∀ a, a ∈ Lm → a ∉ L)
    (kk : ∀ (r : Int32) (u : S) (H1 : Heap) (locs1 : List Loc), post r u → va_P g.1 vwCl (va_pl Lm fm) H1 → va_S A H0 H1 locs1 → W p l e R s m args below meth c H1 locs1 (cells + mc) (slots + ms) Q (F0 m (pc + 3) ls (.int r :: rest))) : W p l e R s m args below meth c H locs cells slots Q (F0 m pc ls st) := by
  have hF := reg_of hD hS hA
  refine va_calli hr hS (fun q _ h => hF q h) hF (fun r u t H1 locs1 ht hvm hw hB hz1 hk1 hS1 => ?_)
  refine kk r u H1 locs1 hw (pl_kept hPm (fun a ha => hk1 a (pl_P_at hPm ha) (fun h => ?_))) hS1
  rcases h with ⟨k, e, hk⟩ | h
  · have h2 := List.mem_of_getElem? hk
    obtain ⟨a', ha', e2⟩ := List.mem_map.mp h2
    cases e2
    exact hdis a ha ha'
  · exact absurd (pl_P_at hPm ha) (Nat.not_lt.mpr h)
theorem sub_P {D : va_G} (P : Nat → Bool) (h : va_P D vwCl (va_pl L f) H) : va_P D vwCl (va_pl (L.filter P) f) H := fun k q hq => by
  obtain ⟨a, ha, rfl⟩ := List.mem_map.mp (List.mem_of_getElem? hq)
  obtain ⟨k2, hk2⟩ := pl_mem (f := f) (List.mem_filter.mp ha).1
  exact h k2 _ hk2
theorem pl_nodup (h : va_D A (va_pl L f)) : L.Nodup := by
  rw [List.Nodup, List.pairwise_iff_getElem]
  intro i j hi hj hij e
  have g1 : (va_pl L f)[i]? = some (L[i], f L[i]) := by simp only [va_pl, List.getElem?_map, List.getElem?_eq_getElem hi]; rfl
  have g2 : (va_pl L f)[j]? = some (L[j], f L[j]) := by simp only [va_pl, List.getElem?_map, List.getElem?_eq_getElem hj]; rfl
  have := h.1 i j _ _ g1 g2 e
  omega
theorem sub_D (P : Nat → Bool) (h : va_D A (va_pl L f)) : va_D A (va_pl (L.filter P) f) := by
  have hn : (L.filter P).Nodup := (pl_nodup h).filter P
  refine ⟨fun i j p q hi hj e => ?_, fun k q hq => ?_⟩
  · simp only [va_pl, List.getElem?_map] at hi hj
    cases hx : (L.filter P)[i]? with
    | none => rw [hx] at hi; cases hi
    | some x =>
      cases hy : (L.filter P)[j]? with
      | none => rw [hy] at hj; cases hj
      | some y =>
        rw [hx] at hi
        rw [hy] at hj
        cases hi
        cases hj
        have e : x = y := e
        subst e
        exact (List.getElem?_inj (List.getElem?_eq_some_iff.mp hx).1 hn).mp (hx.trans hy.symm)
  · obtain ⟨a, ha, rfl⟩ := List.mem_map.mp (List.mem_of_getElem? hq)
    obtain ⟨k2, hk2⟩ := pl_mem (f := f) (List.mem_filter.mp ha).1
    exact h.2 k2 _ hk2
end LAWCALLS
