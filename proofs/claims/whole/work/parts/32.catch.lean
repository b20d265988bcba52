/-! what is caught: the search of a handler whose class isn't resolved yet; a call that throws -/
theorem sbn_same {s s' : State} {k n : Nat} (h : s.sameButNew s' [] k n) : ∀ q : Nat, q < s.heap.size → s'.heap[q]? = s.heap[q]? := by
  intro q hq
  obtain ⟨-, -, -, -, -, h6⟩ := h
  have e1 : s.heap[q]? = some s.heap[q] := Array.getElem?_eq_getElem hq
  obtain ⟨c', g1, g2, g3, g4⟩ := h6 q _ e1
  rw [g1, e1]
  congr 1
  rw [g2]
  have e2 : c'.slots = s.heap[q].slots := by
    apply Array.ext_getElem?
    intro i
    exact g4 i (fun hh => by cases hh)
  rw [e2]
section FH
variable {Q : Handler → Pre} {E : CtlPost} {e : Env} {d : Bool} {acts : List Action} {s : State} {f : JFrame} {a : Addr}
theorem fh_cold {x : ExceptionTableEntry} {t : List ExceptionTableEntry} {c : ClassId} {vm' : Vm} {cell : Cell} (hx : covers x f.pc = true) (h0 : x.catchType ≠ 0) (hg : (Jvm.resolveClass f.method.cls x.catchType).Gives e.toSetting s.vm (.ok c) vm') (hsz : vm'.classes.size ≤ s.vm.classes.size)
    (hcell : s.heap[a]? = some cell) (hobj : ∀ k, cell.vm ≠ .statics k) (hk : ∃ k, vm'.classes[cell.cls]? = some k) (hc : ∃ k, vm'.classes[c]? = some k) :
    wp (findHandler.go f a (x :: t)) Q E e d acts s ↔ if vm'.assignable cell.cls c = true then Q (.found x.handlerPc) d acts (s.setVm vm') else wp (findHandler.go f a t) Q E e d acts (s.setVm vm') := by
  obtain ⟨ha, ht⟩ := hg.op (op := VmOp.resolveClass f.method.cls x.catchType) rfl
  simp only [covers] at hx
  cases hfit : vm'.assignable cell.cls c <;>
    simp [findHandler.go, hx, h0, ha, ht, hcell, hobj, hk, hc, hfit, hsz, VmOp.dirties, VmOp.acts]
end FH
def FindsTo (e : Env) (s : State) (f : JFrame) (a : Addr) (h : Handler) (s' : State) : Prop :=
  ∀ (Q : Handler → Pre) (E : CtlPost) (d : Bool) (acts : List Action), wp (findHandler f a) Q E e d acts s ↔ Q h d acts s'
theorem stepThrowing_catchTo {e : Env} {s s' : State} {a : Addr} {f : JFrame} {r : List Frame} {pc : Nat} (hfind : FindsTo e s f a (.found pc) s') :
    (stepThrowing e s a (.java f :: r)).Is (s'.setFrames (.java { f with pc := pc, stack := [.ref a] } :: r)) [] := by
  simp only [stepThrowing, searchFrame, vmDo]
  generalize hr : Sem.go _ e false [] s = res
  obtain ⟨as, rfl, ha⟩ := Sem.eq_ok_of hr (a := Handler.found pc) (s' := s') (acts' := []) (by simp [hfind _ _ _ _])
  exact ⟨rfl, ha⟩
theorem Steps.caughtTo {tb : Tables} {e : Env} {s target : State} {g : JFrame} {c : Code} {below : List Frame} {a : Addr} {vm' : Vm} (h : At s g.method c below) {pc : Nat} (hfind : FindsTo e ((s.setTop g).pushFrame (.throwing a)) g a (.found pc) (((s.setTop g).pushFrame (.throwing a)).setVm vm'))
    (hrest : Steps tb e below ((s.setVm vm').setTop { g with pc := pc, stack := [.ref a] }) target) :
    Steps tb e below ((s.setTop g).pushFrame (.throwing a)) target := by
  obtain ⟨hgo, hw⟩ := h.throwing a
  refine Steps.head hgo hw ?_
  rw [stepThread_throwing (frames_entered h.top _), (stepThrowing_catchTo (s := (s.setTop g).pushFrame (.throwing a)) hfind).1]
  obtain ⟨g₀, hg⟩ := Option.isSome_iff_exists.mp h.top
  obtain ⟨r, hr⟩ := State.topJava?_eq_some.mp hg
  have hr2 : (s.setVm vm').frames = .java g₀ :: r := hr
  rw [State.setTop_of_frames _ hr2] at hrest
  rw [State.pushFrame, State.setTop_of_frames _ hr, hr]
  have e3 : (((s.setFrames (.java g :: r)).setFrames (.throwing a :: (s.setFrames (.java g :: r)).frames)).setVm vm').setFrames (.java { g with pc := pc, stack := [.ref a] } :: (Frame.java g₀ :: r).tail) = (s.setVm vm').setFrames (.java { g with pc := pc, stack := [.ref a] } :: r) := by
    rw [State.setFrames_setFrames]
    show ((s.setFrames _).setFrames _).setVm vm' = _
    rw [State.setFrames_setFrames]
    rfl
  exact e3 ▸ hrest
section CT
variable {p : Program} {l : Launch} {e : Env} {R : Room} {s : State} {m : MethodId} {args : Array Value} {below : List Frame} {meth : Method} {c : Code} {T : State} {locs : List Loc} {cells slots : Nat}
theorem catch1 (X : Stand p l e R s m args below meth c T locs cells slots) {own C : String} (hown : s.vm.findClass own = some m.cls) {x : ExceptionTableEntry} {t : List ExceptionTableEntry} (htab : c.exceptionTable.toList = x :: t) (h0 : x.catchType ≠ 0) (hlink : (Cond.classLink own x.catchType C).before args s = true)
    {a : Addr} {cell : Cell} (hcell : T.heap[a]? = some cell) (hobj : cell.vm.isStatics = false) (hcls : s.vm.findClass C = some cell.cls) {g : JFrame} (hg : g.method = m) (hx : covers x g.pc = true) :
    ∃ vm', Stand p l e R s m args below meth c (T.setVm vm') locs cells slots ∧ ∀ target, Steps p.tables e below ((T.setVm vm').setTop { g with pc := x.handlerPc, stack := [.ref a] }) target → Steps p.tables e below ((T.setTop g).pushFrame (.throwing a)) target := by
  subst hg
  have hpl : e.platform.magicAccessors = ({} : Platform).magicAccessors := by rw [X.admits.platform]
  obtain ⟨cc, hfc, hcl⟩ := Cond.classLink_spec hown hlink e.platform hpl
  cases hcls.symm.trans hfc
  obtain ⟨hg₁, hwarm₁, hready₁⟩ := State.classEntry (e := e) X.warmed hcl
  have hsz : (T.vm.noted g.method.cls x.catchType (.cls cell.cls)).classes.size ≤ T.vm.classes.size := by rw [Vm.size_noted]; exact Nat.le_refl _
  generalize T.vm.noted g.method.cls x.catchType (.cls cell.cls) = vm₁ at hg₁ hwarm₁ hready₁ hsz
  have X₁ := X.noted hwarm₁
  obtain ⟨k0, hk0⟩ := Vm.classAt_of_findClass hcls
  obtain ⟨k1, hk1, -⟩ := hwarm₁.alike.2.2 _ _ hk0
  refine ⟨vm₁, X₁, fun target hrest => Steps.caughtTo X.here ?_ hrest⟩
  intro Q E d acts
  have hm : ((T.setTop g).pushFrame (.throwing a)).vm.method? g.method = some meth := by rw [Stand.throwing_vm]; exact X.method'
  rw [W.findHandler_eq hm X.code, htab, fh_cold (c := cell.cls) (cell := cell) hx h0 (by rw [Stand.throwing_vm]; exact hg₁) (by rw [Stand.throwing_vm]; exact hsz) (by rw [Stand.throwing_heap]; exact hcell) (VmData.ne_statics_of hobj) ⟨k1, hk1⟩ ⟨k1, hk1⟩, if_pos (asg_self _ _)]
theorem catch2 (X : Stand p l e R s m args below meth c T locs cells slots) {own C1 C : String} (hown : s.vm.findClass own = some m.cls) {x1 x : ExceptionTableEntry} {t : List ExceptionTableEntry} (htab : c.exceptionTable.toList = x1 :: x :: t) (h1 : x1.catchType ≠ 0) (h0 : x.catchType ≠ 0) (hlink1 : (Cond.classLink own x1.catchType C1).before args s = true) (hlink : (Cond.classLink own x.catchType C).before args s = true)
    {a : Addr} {cell : Cell} (hcell : T.heap[a]? = some cell) (hobj : cell.vm.isStatics = false) (hcls : s.vm.findClass C = some cell.cls) (hno : ∀ c1, s.vm.findClass C1 = some c1 → s.vm.assignable cell.cls c1 = false) {g : JFrame} (hg : g.method = m) (hx1 : covers x1 g.pc = true) (hx : covers x g.pc = true) :
    ∃ vm', Stand p l e R s m args below meth c (T.setVm vm') locs cells slots ∧ ∀ target, Steps p.tables e below ((T.setVm vm').setTop { g with pc := x.handlerPc, stack := [.ref a] }) target → Steps p.tables e below ((T.setTop g).pushFrame (.throwing a)) target := by
  subst hg
  have hpl : e.platform.magicAccessors = ({} : Platform).magicAccessors := by rw [X.admits.platform]
  obtain ⟨c1, hfc1, hcl1⟩ := Cond.classLink_spec hown hlink1 e.platform hpl
  have hno1 := hno c1 hfc1
  obtain ⟨hg₁, hwarm₁, -⟩ := State.classEntry (e := e) X.warmed hcl1
  have hsz : (T.vm.noted g.method.cls x1.catchType (.cls c1)).classes.size ≤ T.vm.classes.size := by rw [Vm.size_noted]; exact Nat.le_refl _
  generalize T.vm.noted g.method.cls x1.catchType (.cls c1) = vm₁ at hg₁ hwarm₁ hsz
  have X₁ := X.noted hwarm₁
  obtain ⟨k0, hk0⟩ := Vm.classAt_of_findClass hcls
  obtain ⟨k1, hk1, -⟩ := hwarm₁.alike.2.2 _ _ hk0
  obtain ⟨j0, hj0⟩ := Vm.classAt_of_findClass hfc1
  obtain ⟨j1, hj1, -⟩ := hwarm₁.alike.2.2 _ _ hj0
  obtain ⟨cc, hfc, hcl⟩ := Cond.classLink_spec hown hlink e.platform hpl
  cases hcls.symm.trans hfc
  obtain ⟨hg₂, hwarm₂, -⟩ := State.classEntry (e := e) hwarm₁ hcl
  have hsz2 : (vm₁.noted g.method.cls x.catchType (.cls cell.cls)).classes.size ≤ vm₁.classes.size := by rw [Vm.size_noted]; exact Nat.le_refl _
  generalize vm₁.noted g.method.cls x.catchType (.cls cell.cls) = vm₂ at hg₂ hwarm₂ hsz2
  have X₂ := X.noted hwarm₂
  obtain ⟨k2, hk2, -⟩ := hwarm₂.alike.2.2 _ _ hk0
  refine ⟨vm₂, X₂, fun target hrest => Steps.caughtTo X.here ?_ hrest⟩
  intro Q E d acts
  have hm : ((T.setTop g).pushFrame (.throwing a)).vm.method? g.method = some meth := by rw [Stand.throwing_vm]; exact X.method'
  rw [W.findHandler_eq hm X.code, htab, fh_cold (c := c1) (cell := cell) hx1 h1 (by rw [Stand.throwing_vm]; exact hg₁) (by rw [Stand.throwing_vm]; exact hsz) (by rw [Stand.throwing_heap]; exact hcell) (VmData.ne_statics_of hobj) ⟨k1, hk1⟩ ⟨j1, hj1⟩, if_neg (by rw [hwarm₁.alike.assignable, hno1]; decide),
    fh_cold (s := ((T.setTop g).pushFrame (.throwing a)).setVm vm₁) (c := cell.cls) (cell := cell) hx h0 (show (Jvm.resolveClass g.method.cls x.catchType).Gives e.toSetting vm₁ (.ok cell.cls) vm₂ from hg₂) (show vm₂.classes.size ≤ vm₁.classes.size from hsz2) (show ((T.setTop g).pushFrame (.throwing a)).heap[a]? = some cell by rw [Stand.throwing_heap]; exact hcell) (VmData.ne_statics_of hobj) ⟨k2, hk2⟩ ⟨k2, hk2⟩, if_pos (asg_self _ _)]
  exact Iff.rfl
end CT
section PCT
variable {G : Gt} {A : Nat → Prop} {p : Program} {l : Launch} {e : Env} {R : Room} {s : State} {m : MethodId} {args : Array Value} {below : List Frame} {meth : Method} {c : Code} {Q : State → Prop} {nL cells slots : Nat} {ws w0 wr : va_W} {ll : List (Nat × Value)} {pc : Nat} {st0 rest : List Value} {cc : ByteArray} {own : String}
variable {y : MethodName} {cy : ByteArray} {ny n ix : Nat} {ret : Option FieldType} {rm : Room} {E : (Nat → Prop) → State → Prop}
theorem pv_widen {k2 n2 : Nat} {st : List Value} (hc : cells ≤ k2) (hs : slots ≤ n2) (k : Vw G A p l e R s m args below meth c Q nL k2 n2 ws ll pc st) : Vw G A p l e R s m args below meth c Q nL cells slots ws ll pc st := fun H locs ls h1 h2 h3 h4 => W.widen hc hs (k H locs ls h1 h2 h3 h4)
/-- an instance method that throws; the caller's own handler takes it -/
theorem pv_callT {b ci : Nat} {fs : List Value} {As : List Value} {q : vw_C} {cls : String} (hpc : Nat) (X : Cx G A p s m args c cc nL own) (hC : CtT l G y cy ny ret rm E (.ref b :: As) w0 cls) (hE : E A s) (cut : Cut ws w0 wr) (f : MF y cy ny ret n) (hl : Cond.methodLink own ix y ∈ gW) (hi : Cond.instanceMethod y ∈ gW) (hse : Cond.selects y.cls y y ∈ gW) (hn : As.length = n) (q0 : Nat) (he : w0[q0]? = some (b, .inr (ci, fs))) (hc : pCl[ci]? = some q) (hq : q.1 = y.cls)
    (hR : rm.frames + 1 ≤ R.frames ∧ 8 + (ny + 11) + rm.locals ≤ R.locals) (hf : cells + 1 ≤ R.cells ∧ slots + 6 ≤ R.slots) (hst : st0 = As.reverse ++ .ref b :: rest) (hW : (rest.map fun v => v.category).sum ≤ 8) (hd : decode cc pc = .ok (.invokevirtual ix, 3))
    (hcatch : ∀ (T : State) (locs : List Loc) (cells slots : Nat) (a : Addr) (cell : Cell) (g : JFrame), Stand p l e R s m args below meth c T locs cells slots → g.method = m → g.pc = pc → T.heap[a]? = some cell → cell.vm = .none → s.vm.findClass cls = some cell.cls →
      ∃ vm', Stand p l e R s m args below meth c (T.setVm vm') locs cells slots ∧ ∀ target, Steps p.tables e below ((T.setVm vm').setTop { g with pc := hpc, stack := [.ref a] }) target → Steps p.tables e below ((T.setTop g).pushFrame (.throwing a)) target)
    (k : ∀ a : Nat, Vw G A p l e R s m args below meth c Q nL (cells + 1) (slots + 6) ws ll hpc [.ref a]) : Vw G A p l e R s m args below meth c Q nL cells slots ws ll pc st0 := by
  intro H locs ls h1 h2 h3 h4 T hT X0
  have hts := X.2.2.2.2.1
  have hP0 := cut.sub h1
  obtain ⟨cellB, hcB, hoB, hclB⟩ := va_recv X.2.2.2.2.2.1 hP0 hc he
  rw [hq] at hclB
  obtain ⟨mk, methM, hnamed, hmethM, hstM, habM⟩ := Cond.instanceMethod_spec (hts _ hi)
  obtain ⟨methM', cM, hmethM', hcM, -, hlM, -, -, -, hsigM⟩ := Cond.code_spec hnamed (hts _ f.1)
  cases hmethM.symm.trans hmethM'
  obtain ⟨c2, r2, m2, q1, q2, q3, q4, kP, hkP, hkPi⟩ := Cond.selects_spec (hts _ hse)
  cases hclB.symm.trans q1
  cases (State.methodFound?_of_named hnamed ⟨f.2.2.1, f.2.2.2.1⟩).symm.trans q2
  cases hnamed.symm.trans q3
  have hselP : selectMethod e.platform s.vm cellB.cls mk = .method mk := by rw [Launch.admits_selectMethod X0.admits]; exact q4
  have hlen : ∀ sig, parseMethodDescriptor y.desc = some sig → As.length = sig.parameters.length := fun sig h => by
    have h2 := f.2.2.2.2
    rw [h] at h2
    exact hn.trans (Option.some.inj h2).symm
  obtain ⟨vm₁, X₁, hstep₁⟩ := X0.invokevirtual X.1 X.2.2.2.1 (hts _ hl) hnamed hmethM hstM hkP hkPi ⟨f.2.2.1, f.2.2.2.1⟩ (a := b) (cell := cellB) (by rw [hT]; exact hcB)
    (fun z h => by rw [h] at hoB; cases hoB) hselP hmethM habM hkP hkPi (g := F0 m pc ls st0) rfl (argsL := As) (rest := rest) (hlen _ hsigM) hst (by rw [X.2.1]; exact hd)
  have hnm1 := X₁.named hnamed
  obtain ⟨kY, hkY, -⟩ := className_of_methodNamed hnm1
  have hws : ∀ w ∈ mw y cy ny ret, ∀ (a' : Array Value) (U : State), s.WarmedH U.vm → w.before a' U = true := pay_in hts f.good
  have hinitY : kY.init = .initialized := Cond.initialized_spec (args := args) (findClass_of_methodNamed hnm1) hkY (word_at X₁.warmed (gW_good _ f.2.1).2 (hts _ f.2.1))
  have hmY : (T.setVm vm₁).vm.method? mk = some methM := by
    have := X₁.warmed.alike.method? mk
    rw [this]; exact hmethM
  have happ : (headSpec (mw y cy ny ret) rm).appliesLoose y e.platform ((T.setVm vm₁).calling (F0 m pc ls rest) mk (Value.ref b :: As).toArray) = true :=
    Spec.appliesLoose_calling (g := (F0 m pc ls rest)) X₁.here (by rw [X.2.1]; exact hd) hnm1 hkY hinitY
      (X₁.room_calling (g := (F0 m pc ls rest)) (R' := rm) (by show ls.size = _; rw [X.2.2.1]; exact h4.1) hmY hcM hR.1 (by show 2 * 0 + (rest.map fun v => v.category).sum + (cM.maxLocals + 11) + rm.locals ≤ R.locals; rw [hlM]; omega) (by rw [hC.2.1]; exact hf.1) (by rw [hC.2.2.1]; exact hf.2)) (atoms_intro fun w hw => hws w hw _ _ X₁.warmed)
  obtain ⟨mid, hmid⟩ := X₁.here.above
  have hfr : ((T.setVm vm₁).setTop (F0 m pc ls rest)).frames = (.java (F0 m pc ls rest) :: mid) ++ below := by rw [State.frames_setTop' _ X₁.here.top, hmid]; rfl
  have hPc : va_Pc (.ref b :: As) (fun U => va_P G.1 pCl w0 U.heap ∧ gK G U ∧ E (fun q => U.heap.size ≤ q) U) (Value.ref b :: As).toArray ((T.setVm vm₁).calling (F0 m pc ls rest) mk (Value.ref b :: As).toArray) := by
    refine ⟨rfl, ?_, ?_, ?_⟩
    · show va_P G.1 pCl w0 T.heap; rw [hT]; exact hP0
    · exact va_K.moved X₁.warmed.alike X.2.2.2.2.2.1
    · have g1 : E (fun q => T.heap.size ≤ q) (T.setVm vm₁) := hC.1.1 A _ s (T.setVm vm₁) hE X₁.warmed (fun z hz1 hz2 => by show T.heap[z]? = _; rw [hT]; exact h3.2.1 z hz1 hz2) (fun z hz => X.2.2.2.2.2.2 z (Nat.le_trans (by rw [hT]; exact h3.1) hz))
      exact hC.1.2 _ (T.setVm vm₁) _ g1 rfl rfl
  obtain ⟨o, s₂, hsteps, -, hend, xa, ce, rfl, g1, g2, g3, g4, g5, g6⟩ := Steps.callFree hC.2.2.2 p X₁.admits X₁.cas X₁.clock (acts := []) hfr happ hPc trivial
  rw [State.frames_setTop' _ X₁.here.top, X₁.tail] at hend
  obtain ⟨T', X', hwT, hsB, ht⟩ := X₁.outOfThrown (g := (F0 m pc ls rest)) rfl hend g5 g6
  have hheap : T'.heap = s₂.heap := by rw [ht, Stand.throwing_heap]
  obtain ⟨vm₂, X₂, hc2⟩ := hcatch T' _ _ _ xa ce (F0 m pc ls rest) X' rfl rfl (by rw [hheap]; exact g1) g3 (by
    have := X₁.warmed.alike.findClass cls
    rw [← this]; exact g2)
  have hsame : ∀ z : Nat, z < H.size → T'.heap[z]? = H[z]? := fun z hz => by
    have := sbn_same g6 z (by show z < T.heap.size; rw [hT]; exact hz)
    have e1 : (({ s₂ with vm := ((T.setVm vm₁).calling (F0 m pc ls rest) mk (Value.ref b :: As).toArray).vm } : State)).heap = s₂.heap := rfl
    rw [e1] at this
    rw [hheap, this]
    show T.heap[z]? = _
    rw [hT]
  have hsize : H.size ≤ T'.heap.size := by
    have this : T.heap.size ≤ s₂.heap.size := g6.2.1
    rw [hheap, ← hT]
    exact this
  obtain ⟨t, a1, b1⟩ := k xa T'.heap (locs ++ []) ls (h1.kept (fun kk qq hk => hsame qq.1 (h1 kk qq hk).lt)) h2 ⟨Nat.le_trans h3.1 hsize, fun z hz1 hz2 => by rw [hsame z (Nat.lt_of_lt_of_le hz1 h3.1)]; exact h3.2.1 z hz1 hz2, fun z hz => h3.2.2 z (by simpa using hz)⟩ h4 (T'.setVm vm₂) rfl X₂
  exact ⟨t, hstep₁ _ (fun acts => by rw [doInvoke_state]; exact hsteps.trans (by rw [ht]; exact hc2 t a1)), b1⟩
end PCT
section PH
/-- a static method with handlers -/
def CtH {Xt : Type} (l : Launch) (G : Gt) (y : MethodName) (cy : ByteArray) (ny : Nat) (hh : List (Nat × Nat × Nat × Nat)) (rm : Room) (E : (Nat → Prop) → State → Prop) (av : List Value) (w0 : va_W) (post : Int32 → Xt → Prop) (w1 : Xt → va_W) : Prop :=
  Stb E ∧ ∀ sz : Nat, Met l y (.codeWith y cy ny (some .int) hh :: gW) rm (va_Pc av (fun U => U.heap.size = sz ∧ va_P G.1 pCl w0 U.heap ∧ va_D (fun _ => True) w0 ∧ gK G U ∧ E (va_A w0 sz) U)) (va_Qi post (qB G (va_A w0 sz) w1) (va_A w0 sz)) rm.cells rm.slots (va_A w0 sz)
theorem CtH.of {Xt : Type} {l : Launch} {G : Gt} {y : MethodName} {cy : ByteArray} {ny : Nat} {hh : List (Nat × Nat × Nat × Nat)} {rm : Room} {E : (Nat → Prop) → State → Prop} {av : List Value} {w0 : va_W} {post : Int32 → Xt → Prop} {w1 : Xt → va_W}
    (hE : Stb E) (hy : plainName y.cls = true) (hn : (lg_sl av).length ≤ ny)
    (h : ∀ (p : Program) (e : Env) (s : State) (m : MethodId) (args : Array Value) (below : List Frame) (meth : Method) (c : Code) (A : Nat → Prop),
      Cx G A p s m args c cy ny y.cls → E A s → meth.sig.returnType = some .int → meth.locks = false → c.exceptionTable.toList.map (fun h => (h.startPc, h.endPc, h.handlerPc, h.catchType)) = hh → Vw G A p l e rm s m args below meth c (MQ below (va_Qi post (qB G A w1) A) args s rm.cells rm.slots A) ny 0 0 w0 (lv_args 0 av) 0 []) :
    CtH l G y cy ny hh rm E av w0 post w1 := by
  refine ⟨hE, fun sz => ?_⟩
  refine va_MetW (cc := cy) (maxL := ny) (ret := some .int) (hh := hh) hy rfl ?_
  intro p e s m args below meth c s₁ B hml hv
  obtain ⟨rfl, hsz, hP, hD0, hK, hEs⟩ := hv
  subst hsz
  have hts := atoms_spec (ws := (.codeWith y cy ny (some .int) hh :: gW)) B.pre
  obtain ⟨m9, meth9, c9, hn9, hm9, hc9, -, -, htab, -⟩ := Cond.codeWith_spec (hts _ List.mem_cons_self)
  cases B.named.symm.trans hn9
  cases B.method.symm.trans hm9
  cases (Stand.of_body B).code.symm.trans hc9
  have key := h p e s m av.toArray below meth c (va_A w0 s.heap.size) ⟨B.exec, B.bytes, hml, findClass_of_methodNamed B.named, fun w hw => hts w (List.mem_cons_of_mem _ hw), hK, fun q hq => Or.inr hq⟩ hEs B.returns B.notSynchronized htab
  rw [lg_entry_eq]
  exact key s.heap [] _ hP hD0.self va_S.rf (lv_entry av hn)
variable {G : Gt} {A : Nat → Prop} {p : Program} {l : Launch} {e : Env} {R : Room} {s : State} {m : MethodId} {args : Array Value} {below : List Frame} {meth : Method} {c : Code} {Q : State → Prop} {nL cells slots : Nat} {w0 : va_W} {pc : Nat} {st0 rest : List Value} {cc : ByteArray} {own : String}
theorem rn_SW {Xt : Type} {post : Int32 → Xt → Prop} {w1 : Xt → va_W} {y : MethodName} {cy : ByteArray} {ny n ix : Nat} {hh : List (Nat × Nat × Nat × Nat)} {rm : Room} {E : (Nat → Prop) → State → Prop} {av : List Value} (X : Cx G A p s m args c cc nL own) (hC : CtH l G y cy ny hh rm E av w0 post w1) (hE : E A s) (hcw : Cond.codeWith y cy ny (some .int) hh ∈ gW) (hini : Cond.initialized y.cls ∈ gW) (hdd : y.cls ≠ "java/lang/invoke/MethodHandle" ∧ y.cls ≠ "java/lang/invoke/VarHandle" ∧ (parseMethodDescriptor y.desc).map (fun d => d.parameters.length) = some n) (hl : Cond.methodLink own ix y ∈ gW) (hs : Cond.static y ∈ gW) (hn : av.length = n)
    (hR : rm.frames + 1 ≤ R.frames ∧ 8 + (ny + 11) + rm.locals ≤ R.locals) (hf : cells + rm.cells ≤ R.cells ∧ slots + rm.slots ≤ R.slots) (hst : st0 = av.reverse ++ rest) (hW : (rest.map fun v => v.category).sum ≤ 8) (hd : decode cc pc = .ok (.invokestatic ix, 3)) :
    Rn G A p l e R s m args below meth c nL cells slots rm.cells rm.slots w0 av (fun sz => va_Qi post (qB G (va_A w0 sz) w1) (va_A w0 sz)) pc st0 rest := by
  intro H locs ls hsz hP hD hS hF
  have hts := X.2.2.2.2.1
  have hpre : PreS s H (va_Pc av (fun U => U.heap.size = H.size ∧ va_P G.1 pCl w0 U.heap ∧ va_D (fun _ => True) w0 ∧ gK G U ∧ E (va_A w0 H.size) U)) av :=
    ⟨fun a U g mk q => by
      obtain ⟨q0, q1, q2, q3, q4, q5⟩ := q
      exact ⟨q0, q1, q2, q3, va_K.moved (u := U) (U := U.calling g mk a) (Vm.Alike.refl U.vm) q4, hC.1.2 _ U _ q5 rfl rfl⟩,
     fun U hU hW => ⟨rfl, by rw [hU], by rw [hU]; exact hP, hD, va_K.moved hW.alike X.2.2.2.2.2.1, hC.1.1 A _ s U hE hW (fun q h1 h2 => by rw [hU]; exact hS.2.1 q h1 h2) hF⟩⟩
  have hgood : GoodIn gW (.codeWith y cy ny (some .int) hh :: gW) := fun w h => by
    rcases List.mem_cons.mp h with rfl | h
    · exact gW_good _ hcw
    · exact gW_good _ h
  have hK : Back l R p e below s args y 3 8 (PreOf R rm.cells rm.slots (va_Pc av (fun U => U.heap.size = H.size ∧ va_P G.1 pCl w0 U.heap ∧ va_D (fun _ => True) w0 ∧ gK G U ∧ E (va_A w0 H.size) U))) (PostOf (va_Qi post (qB G (va_A w0 H.size) w1) (va_A w0 H.size)) rm.cells rm.slots (va_A w0 H.size)) :=
    va_backW (hh := hh) (bytes := cy) (maxL := ny) (ret := some .int) (hC.2 H.size) hpre.1 rfl rfl hR.1 hR.2 (pay_in hts hgood) List.mem_cons_self (fun a' U hW => word_at hW (gW_good _ hini).2 (hts _ hini))
  intro T hT X0
  obtain ⟨mk, methM, cM, hnamed, hmethM, -, -, -, -, -, -, hsigM⟩ := Cond.codeWith_spec (hts _ hcw)
  have hstatic : methM.isStatic = true := Cond.static_spec hnamed hmethM (hts _ hs)
  obtain ⟨kP, hkP, -⟩ := className_of_methodNamed hnamed
  have hinitP : kP.init = .initialized := Cond.initialized_spec (findClass_of_methodNamed hnamed) hkP (hts _ hini)
  have hlen : ∀ sig, parseMethodDescriptor y.desc = some sig → av.length = sig.parameters.length := fun sig h => by
    have h2 := hdd.2.2
    rw [h] at h2
    exact hn.trans (Option.some.inj h2).symm
  obtain ⟨vm₁, X₁, hstep₁⟩ := X0.invokestatic X.1 X.2.2.2.1 (hts _ hl) hnamed hmethM hstatic hkP hinitP ⟨hdd.1, hdd.2.1⟩ (g := F0 m pc ls st0) rfl (argsL := av) (rest := rest) (hlen _ hsigM) hst (by rw [X.2.1]; exact hd)
  obtain ⟨v, ⟨U', l2, c2, s2⟩, X', ⟨g', mk', t, L, e1, e2, hq, h1, hL, h2, h3⟩, hsteps⟩ := hK m meth c ⟨T.setVm vm₁, locs, cells, slots⟩ (F0 m pc ls rest) (.invokestatic ix) mk av.toArray X₁ rfl (by show ls.size = _; rw [X.2.2.1]; exact hsz) (by rw [X.2.1]; exact hd) (lv_room hW) (X₁.named hnamed) ⟨hf.1, hf.2, hpre.2 (T.setVm vm₁) hT X₁.warmed⟩
  dsimp only [Pt.U, Pt.locs, Pt.cells, Pt.slots] at X' e1 e2 h1 h2 h3 hsteps
  subst h1; subst h2; subst h3
  exact ⟨v, (T.setVm vm₁).calling g' mk' av.toArray, t, U', L, hT, X', hL, e1, e2, hq, fun target h => hstep₁ _ fun acts => by rw [doInvoke_state]; exact hsteps.trans h⟩
end PH
