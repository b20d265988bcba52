/-! calls over Vw: cut the callee's cells out, run it by its contract, put what came back beside the rest -/
def Cut (ws w0 wr : va_W) : Prop := ∃ isC isR : List Nat, isC.map (fun i => ws[i]?) = w0.map some ∧ isR.map (fun i => ws[i]?) = wr.map some ∧ va_nd isC = true ∧ va_nd isR = true ∧ ∀ i ∈ isR, i ∉ isC
theorem Cut.mk {ws w0 wr : va_W} (isC isR : List Nat) (h1 : isC.map (fun i => ws[i]?) = w0.map some) (h2 : isR.map (fun i => ws[i]?) = wr.map some) (h3 : va_nd isC = true) (h4 : va_nd isR = true) (h5 : (isR.all fun i => decide (i ∉ isC)) = true) : Cut ws w0 wr :=
  ⟨isC, isR, h1, h2, h3, h4, fun i hi => by simpa using List.all_eq_true.mp h5 i hi⟩
theorem rng_map (ws : va_W) : (List.range ws.length).map (fun i => ws[i]?) = ws.map some := by
  apply List.ext_getElem?
  intro i
  rw [List.getElem?_map, List.getElem?_map]
  by_cases h : i < ws.length
  · rw [List.getElem?_range h, List.getElem?_eq_getElem h]; simp [h]
  · rw [List.getElem?_eq_none (by simpa using h), List.getElem?_eq_none (by simpa using h)]; rfl
theorem nd_of : ∀ (l : List Nat), l.Nodup → va_nd l = true
  | [], _ => rfl
  | a :: l, h => by
    have h := List.nodup_cons.mp h
    simp only [va_nd, Bool.and_eq_true, decide_eq_true_eq]
    exact ⟨h.1, nd_of l h.2⟩
theorem Cut.no (ws : va_W) : Cut ws [] ws := ⟨[], List.range ws.length, rfl, rng_map ws, rfl, nd_of _ List.nodup_range, fun _ _ h => by cases h⟩
theorem Cut.all (ws : va_W) : Cut ws ws [] := ⟨List.range ws.length, [], rng_map ws, rfl, nd_of _ List.nodup_range, rfl, fun _ h => by cases h⟩
theorem Cut.sub {ws w0 wr : va_W} (h : Cut ws w0 wr) {D : va_G} {cl : List vw_C} {H : Heap} (hP : va_P D cl ws H) : va_P D cl w0 H := by
  obtain ⟨isC, isR, h1, -, -⟩ := h
  intro k q hk
  have h2 : (isC.map (fun i => ws[i]?))[k]? = some (some q) := by rw [h1, List.getElem?_map, hk]; rfl
  rw [List.getElem?_map] at h2
  cases hi : isC[k]? with
  | none => rw [hi] at h2; cases h2
  | some i => rw [hi] at h2; exact hP i q (Option.some.inj h2)
section PC
variable {G : Gt} {A : Nat → Prop} {p : Program} {l : Launch} {e : Env} {R : Room} {s : State} {m : MethodId} {args : Array Value} {below : List Frame} {meth : Method} {c : Code} {Q : State → Prop} {nL cells slots : Nat} {ws w0 wr : va_W} {ll : List (Nat × Value)} {pc : Nat} {st st0 rest : List Value} {cc : ByteArray} {own : String}
variable {y : MethodName} {cy : ByteArray} {ny n ix : Nat} {ret : Option FieldType} {rm : Room} {E : (Nat → Prop) → State → Prop} {av : List Value} {Qp : Nat → Array Value → State → Outcome → State → Prop} {mc ms : Nat}
/-- a call's run, from every heap that holds the callee's world -/
def Rn (G : Gt) (A : Nat → Prop) (p : Program) (l : Launch) (e : Env) (R : Room) (s : State) (m : MethodId) (args : Array Value) (below : List Frame) (meth : Method) (c : Code) (nL cells slots mc ms : Nat) (w0 : va_W) (av : List Value) (Qp : Nat → Array Value → State → Outcome → State → Prop) (pc : Nat) (st0 rest : List Value) : Prop :=
  ∀ (H : Heap) (locs : List Loc) (ls : Array Slot), ls.size = nL → va_P G.1 pCl w0 H → va_D (fun _ => True) w0 → va_S A s.heap H locs → (∀ q, va_A w0 H.size q → A q) → va_Run p l e R s m args below meth c H locs cells slots mc ms (F0 m pc ls st0) rest (Qp H.size av.toArray) (va_A w0 H.size)
abbrev MF (y : MethodName) (cy : ByteArray) (ny : Nat) (ret : Option FieldType) (n : Nat) : Prop := Cond.code y cy ny ret ∈ gW ∧ Cond.initialized y.cls ∈ gW ∧ (y.cls ≠ "java/lang/invoke/MethodHandle" ∧ y.cls ≠ "java/lang/invoke/VarHandle" ∧ (parseMethodDescriptor y.desc).map (fun d => d.parameters.length) = some n)
theorem MF.good (f : MF y cy ny ret n) : GoodIn gW (mw y cy ny ret) := fun w h => by
  rcases List.mem_cons.mp h with rfl | h
  · exact gW_good _ f.1
  · exact gW_good _ h
theorem pre_of (X : Cx G A p s m args c cc nL own) (hC : Ct l G y cy ny ret rm E av w0 Qp mc ms) (hE : E A s) {H : Heap} {locs : List Loc} (hP : va_P G.1 pCl w0 H) (hD : va_D (fun _ => True) w0) (hS : va_S A s.heap H locs) (hF : ∀ q, va_A w0 H.size q → A q) :
    PreS s H (va_Pc av (fun U => U.heap.size = H.size ∧ va_P G.1 pCl w0 U.heap ∧ va_D (fun _ => True) w0 ∧ gK G U ∧ E (va_A w0 H.size) U)) av :=
  ⟨fun a U g mk q => by
    obtain ⟨q0, q1, q2, q3, q4, q5⟩ := q
    exact ⟨q0, q1, q2, q3, va_K.moved (u := U) (U := U.calling g mk a) (Vm.Alike.refl U.vm) q4, hC.1.2 _ U _ q5 rfl rfl⟩,
   fun U hU hW => ⟨rfl, by rw [hU], by rw [hU]; exact hP, hD, va_K.moved hW.alike X.2.2.2.2.2.1, hC.1.1 A _ s U hE hW (fun q h1 h2 => by rw [hU]; exact hS.2.1 q h1 h2) hF⟩⟩
/-- a static method -/
theorem rn_S (X : Cx G A p s m args c cc nL own) (hC : Ct l G y cy ny ret rm E av w0 Qp mc ms) (hE : E A s) (f : MF y cy ny ret n) (hl : Cond.methodLink own ix y ∈ gW) (hs : Cond.static y ∈ gW) (hn : av.length = n)
    (hR : rm.frames + 1 ≤ R.frames ∧ 8 + (ny + 11) + rm.locals ≤ R.locals) (hf : cells + mc ≤ R.cells ∧ slots + ms ≤ R.slots) (hst : st0 = av.reverse ++ rest) (hW : (rest.map fun v => v.category).sum ≤ 8) (hd : decode cc pc = .ok (.invokestatic ix, 3)) :
    Rn G A p l e R s m args below meth c nL cells slots mc ms w0 av Qp pc st0 rest := by
  intro H locs ls hsz hP hD hS hF
  have hts := X.2.2.2.2.1
  exact va_runS (Ts := gW) ⟨X.1, X.2.1, X.2.2.1, X.2.2.2.1, hts⟩ (hC.2.2.2 H.size) ⟨callB_of n hts f.good rfl hC.2.1 hC.2.2.1 (hts _ f.2.1) (hts _ hl) f.2.2 hR, hts _ hs⟩ (pre_of X hC hE hP hD hS hF) rfl hn hsz hst (lv_room hW) hd hf
/-- a private static method of a nest mate -/
theorem rn_SN (X : Cx G A p s m args c cc nL own) {host : String} (hC : Ct l G y cy ny ret rm E av w0 Qp mc ms) (hE : E A s) (f : MF y cy ny ret n) (hl : va_Nw (.methodLinkNest own ix y host) s) (hs : Cond.static y ∈ gW) (hn : av.length = n)
    (hR : rm.frames + 1 ≤ R.frames ∧ 8 + (ny + 11) + rm.locals ≤ R.locals) (hf : cells + mc ≤ R.cells ∧ slots + ms ≤ R.slots) (hst : st0 = av.reverse ++ rest) (hW : (rest.map fun v => v.category).sum ≤ 8) (hd : decode cc pc = .ok (.invokestatic ix, 3)) :
    Rn G A p l e R s m args below meth c nL cells slots mc ms w0 av Qp pc st0 rest := by
  intro H locs ls hsz hP hD hS hF
  have hts := X.2.2.2.2.1
  exact va_runSN (Ts := gW) ⟨X.1, X.2.1, X.2.2.1, X.2.2.2.1, hts⟩ (hC.2.2.2 H.size) ⟨va_cnB n hts f.good rfl hC.2.1 hC.2.2.1 hl (hts _ f.2.1) f.2.2 hR, hts _ hs, trivial⟩ (pre_of X hC hE hP hD hS hF) rfl hn hsz hst (lv_room hW) hd hf
/-- an instance method; the receiver's cell is the callee's first -/
theorem rn_V {b ci : Nat} {fs : List Value} {As : List Value} {q : vw_C} (X : Cx G A p s m args c cc nL own) (hC : Ct l G y cy ny ret rm E (.ref b :: As) w0 Qp mc ms) (hE : E A s) (f : MF y cy ny ret n) (hl : Cond.methodLink own ix y ∈ gW) (hi : Cond.instanceMethod y ∈ gW) (hse : Cond.selects y.cls y y ∈ gW) (hn : As.length = n) (q0 : Nat) (he : w0[q0]? = some (b, .inr (ci, fs))) (hc : pCl[ci]? = some q) (hq : q.1 = y.cls)
    (hR : rm.frames + 1 ≤ R.frames ∧ 8 + (ny + 11) + rm.locals ≤ R.locals) (hf : cells + mc ≤ R.cells ∧ slots + ms ≤ R.slots) (hst : st0 = As.reverse ++ .ref b :: rest) (hW : (rest.map fun v => v.category).sum ≤ 8) (hd : decode cc pc = .ok (.invokevirtual ix, 3)) :
    Rn G A p l e R s m args below meth c nL cells slots mc ms w0 (.ref b :: As) Qp pc st0 rest := by
  intro H locs ls hsz hP hD hS hF
  have hts := X.2.2.2.2.1
  have hp := pre_of X hC hE hP hD hS hF
  have hrc := va_recv X.2.2.2.2.2.1 hP hc he
  rw [hq] at hrc
  exact va_runV (Ts := gW) (C := y.cls) ⟨X.1, X.2.1, X.2.2.1, X.2.2.2.1, hts⟩ (hC.2.2.2 H.size) ⟨callB_of n hts f.good rfl hC.2.1 hC.2.2.1 (hts _ f.2.1) (hts _ hl) f.2.2 hR, hts _ hi, hts _ hse⟩ ⟨hp.1, hrc, hp.2⟩ rfl hn hsz hst (lv_room hW) hd hf
/-- a constructor -/
theorem rn_I {b : Nat} {As : List Value} (X : Cx G A p s m args c cc nL own) (hC : Ct l G y cy ny none rm E (.ref b :: As) w0 Qp mc ms) (hE : E A s) (f : MF y cy ny none n) (hl : Cond.methodLink own ix y ∈ gW) (hi : Cond.instanceMethod y ∈ gW) (hy : y.name = "<init>") (hn : As.length = n)
    (hR : rm.frames + 1 ≤ R.frames ∧ 8 + (ny + 11) + rm.locals ≤ R.locals) (hf : cells + mc ≤ R.cells ∧ slots + ms ≤ R.slots) (hst : st0 = As.reverse ++ .ref b :: rest) (hW : (rest.map fun v => v.category).sum ≤ 8) (hd : decode cc pc = .ok (.invokespecial ix, 3)) :
    Rn G A p l e R s m args below meth c nL cells slots mc ms w0 (.ref b :: As) Qp pc st0 rest := by
  intro H locs ls hsz hP hD hS hF
  have hts := X.2.2.2.2.1
  exact va_runI (Ts := gW) ⟨X.1, X.2.1, X.2.2.1, X.2.2.2.1, hts⟩ (hC.2.2.2 H.size) ⟨callB_of n hts f.good rfl hC.2.1 hC.2.2.1 (hts _ f.2.1) (hts _ hl) f.2.2 hR, hy, hts _ hi⟩ (pre_of X hC hE hP hD hS hF) rfl hn hsz hst (lv_room hW) hd hf
/-- a private constructor of a nest mate -/
theorem rn_IN {b : Nat} {As : List Value} {host : String} (X : Cx G A p s m args c cc nL own) (hC : Ct l G y cy ny none rm E (.ref b :: As) w0 Qp mc ms) (hE : E A s) (f : MF y cy ny none n) (hl : va_Nw (.methodLinkNest own ix y host) s) (hi : Cond.instanceMethod y ∈ gW) (hy : y.name = "<init>") (hn : As.length = n)
    (hR : rm.frames + 1 ≤ R.frames ∧ 8 + (ny + 11) + rm.locals ≤ R.locals) (hf : cells + mc ≤ R.cells ∧ slots + ms ≤ R.slots) (hst : st0 = As.reverse ++ .ref b :: rest) (hW : (rest.map fun v => v.category).sum ≤ 8) (hd : decode cc pc = .ok (.invokespecial ix, 3)) :
    Rn G A p l e R s m args below meth c nL cells slots mc ms w0 (.ref b :: As) Qp pc st0 rest := by
  intro H locs ls hsz hP hD hS hF
  have hts := X.2.2.2.2.1
  exact va_runIN (Ts := gW) ⟨X.1, X.2.1, X.2.2.1, X.2.2.2.1, hts⟩ (hC.2.2.2 H.size) ⟨va_cnB n hts f.good rfl hC.2.1 hC.2.2.1 hl (hts _ f.2.1) f.2.2 hR, hy, hts _ hi⟩ (pre_of X hC hE hP hD hS hF) rfl hn hsz hst (lv_room hW) hd hf
theorem cut_use (cut : Cut ws w0 wr) {H : Heap} {locs : List Loc} (h2 : va_D A ws) (h3 : va_S A s.heap H locs) (hA : ∀ q, s.heap.size ≤ q → A q) : va_D (fun _ => True) w0 ∧ ∀ q, va_A w0 H.size q → A q := by
  obtain ⟨isC, isR, e1, e2, e3, e4, e5⟩ := cut
  exact ⟨(h2.sub isC e3 e1).weaken (fun _ _ _ _ => trivial), va_free h2 h3 hA isC e1⟩
theorem cut_join (cut : Cut ws w0 wr) {H H1 : Heap} {w1 : va_W} (hP : va_P G.1 pCl ws H) (hD : va_D A ws) (hk : ∀ q : Nat, q < H.size → ¬ va_A w0 H.size q → H1[q]? = H[q]?) (hF : ∀ q, va_A w0 H.size q → A q) (hP1 : va_P G.1 pCl w1 H1) (hD1 : va_D (va_A w0 H.size) w1) : va_P G.1 pCl (wr ++ w1) H1 ∧ va_D A (wr ++ w1) := by
  obtain ⟨isC, isR, e1, e2, e3, e4, e5⟩ := cut
  exact va_join hP hD isC isR e1 e2 e4 e5 hk hF hP1 hD1
theorem pv_calli {Xt : Type} {post : Int32 → Xt → Prop} {w1 : Xt → va_W} (X : Cx G A p s m args c cc nL own) (cut : Cut ws w0 wr)
    (hr : Rn G A p l e R s m args below meth c nL cells slots mc ms w0 av (fun sz => va_Qi post (qB G (va_A w0 sz) w1) (va_A w0 sz)) pc st0 rest)
    (k : ∀ (r : Int32) (x : Xt), post r x → Vw G A p l e R s m args below meth c Q nL (cells + mc) (slots + ms) (wr ++ w1 x) ll (pc + 3) (.int r :: rest)) : Vw G A p l e R s m args below meth c Q nL cells slots ws ll pc st0 := by
  intro H locs ls h1 h2 h3 h4
  obtain ⟨hD0, hF⟩ := cut_use cut h2 h3 X.2.2.2.2.2.2
  refine va_calli (hr H locs ls h4.1 (cut.sub h1) hD0 h3 hF) h3 (fun q _ h => hF q h) hF (fun r x t H1 locs1 ht hvm hp hB hz hk hS => ?_)
  obtain ⟨hP1, hD1⟩ := hB
  rw [ht] at hP1
  obtain ⟨g1, g2⟩ := cut_join cut h1 h2 hk hF hP1 hD1
  exact k r x hp H1 locs1 ls g1 g2 hS h4
theorem pv_calll {Xt : Type} {post : Int64 → Xt → Prop} {w1 : Xt → va_W} (X : Cx G A p s m args c cc nL own) (cut : Cut ws w0 wr)
    (hr : Rn G A p l e R s m args below meth c nL cells slots mc ms w0 av (fun sz => va_Ql post (qB G (va_A w0 sz) w1) (va_A w0 sz)) pc st0 rest)
    (k : ∀ (r : Int64) (x : Xt), post r x → Vw G A p l e R s m args below meth c Q nL (cells + mc) (slots + ms) (wr ++ w1 x) ll (pc + 3) (.long r :: rest)) : Vw G A p l e R s m args below meth c Q nL cells slots ws ll pc st0 := by
  intro H locs ls h1 h2 h3 h4
  obtain ⟨hD0, hF⟩ := cut_use cut h2 h3 X.2.2.2.2.2.2
  refine va_calll (hr H locs ls h4.1 (cut.sub h1) hD0 h3 hF) h3 (fun q _ h => hF q h) hF (fun r x t H1 locs1 ht hvm hp hB hz hk hS => ?_)
  obtain ⟨hP1, hD1⟩ := hB
  rw [ht] at hP1
  obtain ⟨g1, g2⟩ := cut_join cut h1 h2 hk hF hP1 hD1
  exact k r x hp H1 locs1 ls g1 g2 hS h4
theorem pv_callv {Xt : Type} {post : Xt → Prop} {w1 : Xt → va_W} (X : Cx G A p s m args c cc nL own) (cut : Cut ws w0 wr)
    (hr : Rn G A p l e R s m args below meth c nL cells slots mc ms w0 av (fun sz => va_Qv post (qB G (va_A w0 sz) w1) (va_A w0 sz)) pc st0 rest)
    (k : ∀ (x : Xt), post x → Vw G A p l e R s m args below meth c Q nL (cells + mc) (slots + ms) (wr ++ w1 x) ll (pc + 3) rest) : Vw G A p l e R s m args below meth c Q nL cells slots ws ll pc st0 := by
  intro H locs ls h1 h2 h3 h4
  obtain ⟨hD0, hF⟩ := cut_use cut h2 h3 X.2.2.2.2.2.2
  refine va_callv (hr H locs ls h4.1 (cut.sub h1) hD0 h3 hF) h3 (fun q _ h => hF q h) hF (fun x t H1 locs1 ht hvm hp hB hz hk hS => ?_)
  obtain ⟨hP1, hD1⟩ := hB
  rw [ht] at hP1
  obtain ⟨g1, g2⟩ := cut_join cut h1 h2 hk hF hP1 hD1
  exact k x hp H1 locs1 ls g1 g2 hS h4
/-- static tables -/
def Tb (ty : FieldType) (C n d : String) (N : Nat) (f : Nat → Int32) (A : Nat → Prop) (U : State) : Prop := ∃ t : Nat, va_Z C n d (.ref t) A U U.heap ∧ va_T ty t N (fun j => .int (f j)) A U U.heap
abbrev Tr (ty : FieldType) (t N : Nat) (f : Nat → Int32) (A : Nat → Prop) (U : State) : Prop := va_T ty t N (fun j => .int (f j)) A U U.heap
theorem Tr_stb {ty : FieldType} {t N : Nat} {f : Nat → Int32} : Stb (Tr ty t N f) :=
  ⟨fun A B u U h hW hk hAB => ((va_T.moved hW.alike h).kept hk).narrow hAB, fun A u U h e1 e2 => by
    have h1 : va_T ty t N (fun j => .int (f j)) A U u.heap := va_T.moved (by rw [e2]; exact Vm.Alike.refl _) h
    rw [← e1] at h1; exact h1⟩
theorem Tb_stb {ty : FieldType} {C n d : String} {N : Nat} {f : Nat → Int32} : Stb (Tb ty C n d N f) :=
  ⟨fun A B u U h hW hk hAB => by
    obtain ⟨t, h1, h2⟩ := h
    exact ⟨t, ((va_Z.moved hW.alike h1).kept hk).narrow hAB, ((va_T.moved hW.alike h2).kept hk).narrow hAB⟩, fun A u U h e1 e2 => by
    obtain ⟨t, h1, h2⟩ := h
    have g1 : va_Z C n d (.ref t) A U u.heap := va_Z.moved (by rw [e2]; exact Vm.Alike.refl _) h1
    have g2 : va_T ty t N (fun j => .int (f j)) A U u.heap := va_T.moved (by rw [e2]; exact Vm.Alike.refl _) h2
    rw [← e1] at g1 g2
    exact ⟨t, g1, g2⟩⟩
theorem Stb.and {E1 E2 : (Nat → Prop) → State → Prop} (h1 : Stb E1) (h2 : Stb E2) : Stb (fun A U => E1 A U ∧ E2 A U) :=
  ⟨fun A B u U h hW hk hAB => ⟨h1.1 A B u U h.1 hW hk hAB, h2.1 A B u U h.2 hW hk hAB⟩, fun A u U h e1 e2 => ⟨h1.2 A u U h.1 e1 e2, h2.2 A u U h.2 e1 e2⟩⟩
theorem Nw_stb {a : String} {i : Nat} {x : MethodName} {h : String} : Stb (fun _ U => va_Nw (.methodLinkNest a i x h) U) :=
  ⟨fun _ _ _ _ h hW _ _ => va_Nw.warmM hW h, fun _ _ _ h _ e2 => va_Nw.same rfl e2.symm h⟩
theorem pv_gets (X : Cx G A p s m args c cc nL own) {C n' d : String} {v : Value} (hZ : va_Z C n' d v A s s.heap) (hm : Cond.fieldLink own ix C n' d ∈ gW) (hd : decode cc pc = .ok (.getstatic ix, 3)) (k : Vw G A p l e R s m args below meth c Q nL cells slots ws ll (pc + 3) (v :: st)) : Vw G A p l e R s m args below meth c Q nL cells slots ws ll pc st := fun H locs ls h1 h2 h3 h4 => va_gets X.1 X.2.1 hZ h3 X.2.2.2.1 (X.2.2.2.2.1 _ hm) (fun _ h9 => h9) hd (k H locs ls h1 h2 h3 h4)
theorem pv_tb (X : Cx G A p s m args c cc nL own) {t N : Nat} {f : Nat → Int32} (hT : Tr .byte t N f A s) {i : Int32} (hin : vp_in i N) (hd : decode cc pc = .ok (.baload, 1)) (k : Vw G A p l e R s m args below meth c Q nL cells slots ws ll (pc + 1) (.int (f i.toNatClampNeg) :: st)) : Vw G A p l e R s m args below meth c Q nL cells slots ws ll pc (.int i :: .ref t :: st) := fun H locs ls h1 h2 h3 h4 => va_tb X.1 X.2.1 hT h3 hin rfl hd (k H locs ls h1 h2 h3 h4)
theorem pv_ti (X : Cx G A p s m args c cc nL own) {t N : Nat} {f : Nat → Int32} (hT : Tr .int t N f A s) {i : Int32} (hin : vp_in i N) (hd : decode cc pc = .ok (.iaload, 1)) (k : Vw G A p l e R s m args below meth c Q nL cells slots ws ll (pc + 1) (.int (f i.toNatClampNeg) :: st)) : Vw G A p l e R s m args below meth c Q nL cells slots ws ll pc (.int i :: .ref t :: st) := fun H locs ls h1 h2 h3 h4 => va_ti X.1 X.2.1 hT h3 hin rfl hd (k H locs ls h1 h2 h3 h4)
theorem pv_tc (X : Cx G A p s m args c cc nL own) {t N : Nat} {f : Nat → Int32} (hT : Tr .char t N f A s) {i : Int32} (hin : vp_in i N) (hd : decode cc pc = .ok (.caload, 1)) (k : Vw G A p l e R s m args below meth c Q nL cells slots ws ll (pc + 1) (.int (f i.toNatClampNeg) :: st)) : Vw G A p l e R s m args below meth c Q nL cells slots ws ll pc (.int i :: .ref t :: st) := fun H locs ls h1 h2 h3 h4 => va_tc X.1 X.2.1 hT h3 hin rfl hd (k H locs ls h1 h2 h3 h4)
theorem pv_tlen (X : Cx G A p s m args c cc nL own) {ty : FieldType} {t N : Nat} {f : Nat → Int32} (hT : Tr ty t N f A s) (v : Int32) (hv : Int32.ofNat N = v) (hd : decode cc pc = .ok (.arraylength, 1)) (k : Vw G A p l e R s m args below meth c Q nL cells slots ws ll (pc + 1) (.int v :: st)) : Vw G A p l e R s m args below meth c Q nL cells slots ws ll pc (.ref t :: st) := fun H locs ls h1 h2 h3 h4 => va_tlen X.1 X.2.1 hT h3 hv hd (k H locs ls h1 h2 h3 h4)
end PC
