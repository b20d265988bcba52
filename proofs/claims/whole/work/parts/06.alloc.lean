/-! making cells over Vw -/
theorem lg_cmp_0 {x y : Int64} : lg_cmp x y = 0 ↔ x = y := by
  unfold lg_cmp
  by_cases h1 : y < x
  · simp [h1]; intro h; subst h; exact absurd h1 (Int64.lt_irrefl)
  · by_cases h2 : x = y
    · subst h2; simp
    · simp [h1, h2]
section PA
variable {G : Gt} {A : Nat → Prop} {p : Program} {l : Launch} {e : Env} {R : Room} {s : State} {m : MethodId} {args : Array Value} {below : List Frame} {meth : Method} {c : Code} {Q : State → Prop} {nL cells slots : Nat} {ws : va_W} {ll : List (Nat × Value)} {pc : Nat} {st : List Value} {cc : ByteArray} {own : String}
theorem pv_objInit (X : Cx G A p s m args c cc nL own) {ix a : Nat} (hl : Cond.methodLink own ix objectInit ∈ gW) (hi : Cond.instanceMethod objectInit ∈ gW) (hc : Cond.code objectInit ⟨#[0xb1]⟩ 1 none ∈ gW) (hf : 1 ≤ R.frames) (hW : (st.map fun v => v.category).sum + 12 ≤ R.locals) (hd : decode cc pc = .ok (.invokespecial ix, 3))
    (k : Vw G A p l e R s m args below meth c Q nL cells slots ws ll (pc + 3) st) : Vw G A p l e R s m args below meth c Q nL cells slots ws ll pc (.ref a :: st) := by
  intro H locs ls h1 h2 h3 h4
  have hts := X.2.2.2.2.1
  refine W.objInit X.1 X.2.1 X.2.2.2.1 (hts _ hl) (hts _ hi) (hts _ hc) rfl (by rw [X.2.2.1]; exact h4.1) rfl hd hf (by show 2 * 0 + _ + 12 ≤ _; omega) ?_
  exact k H locs ls h1 h2 h3 h4
theorem pv_newaJ (X : Cx G A p s m args c cc nL own) {n : Int32} (N : Nat) (hm : Cond.arrayClass .long ∈ gW) (hn : ¬ n < 0) (hN : n.toNatClampNeg = N) (hb : N * componentBytes .long ≤ 536870912) (hc : cells + 1 ≤ R.cells) (hs : slots + N ≤ R.slots) (hd : decode cc pc = .ok (.newarray .long, 2))
    (k : ∀ q : Nat, Vw G A p l e R s m args below meth c Q nL (cells + 1) (slots + N) (ws ++ [aJ G q N (fun _ => 0)]) ll (pc + 2) (.ref q :: st)) : Vw G A p l e R s m args below meth c Q nL cells slots ws ll pc (.int n :: st) := by
  intro H locs ls h1 h2 h3 h4
  have hK := X.2.2.2.2.2.1
  refine va_newa (a0 := (N, .inr (.inl (fun _ => 0)))) X.1 X.2.1 (atype := .long) (X.2.2.2.2.1 _ hm) rfl hK h1 h2 h3 X.2.2.2.2.2.2 (fun _ => rfl) hn hN hb hc hs hd (fun q cA H1 g1 g2 g3 g4 => ?_)
  have e1 := (g1.2 3 (cA, .long) rfl).2
  have e2 := (hK.2 1 (G.2.2.1, .long) rfl).2
  have e3 : cA = G.2.2.1 := Option.some.inj (e1.symm.trans e2)
  subst e3
  exact k q H1 locs ls g2 g3 g4 h4
theorem pv_newaI (X : Cx G A p s m args c cc nL own) {n : Int32} (N : Nat) (hm : Cond.arrayClass .int ∈ gW) (hn : ¬ n < 0) (hN : n.toNatClampNeg = N) (hb : N * componentBytes .int ≤ 536870912) (hc : cells + 1 ≤ R.cells) (hs : slots + N ≤ R.slots) (hd : decode cc pc = .ok (.newarray .int, 2))
    (k : ∀ q : Nat, Vw G A p l e R s m args below meth c Q nL (cells + 1) (slots + N) (ws ++ [aI G q N (fun _ => 0)]) ll (pc + 2) (.ref q :: st)) : Vw G A p l e R s m args below meth c Q nL cells slots ws ll pc (.int n :: st) := by
  intro H locs ls h1 h2 h3 h4
  have hK := X.2.2.2.2.2.1
  refine va_newa (a0 := (N, .inl (fun _ => 0))) X.1 X.2.1 (atype := .int) (X.2.2.2.2.1 _ hm) rfl hK h1 h2 h3 X.2.2.2.2.2.2 (fun _ => rfl) hn hN hb hc hs hd (fun q cA H1 g1 g2 g3 g4 => ?_)
  have e1 := (g1.2 3 (cA, .int) rfl).2
  have e2 := (hK.2 0 (G.2.1, .int) rfl).2
  have e3 : cA = G.2.1 := Option.some.inj (e1.symm.trans e2)
  subst e3
  exact k q H1 locs ls g2 g3 g4 h4
theorem pv_newaZ (X : Cx G A p s m args c cc nL own) {n : Int32} (N : Nat) (hm : Cond.arrayClass .boolean ∈ gW) (hn : ¬ n < 0) (hN : n.toNatClampNeg = N) (hb : N * componentBytes .boolean ≤ 536870912) (hc : cells + 1 ≤ R.cells) (hs : slots + N ≤ R.slots) (hd : decode cc pc = .ok (.newarray .boolean, 2))
    (k : ∀ q : Nat, Vw G A p l e R s m args below meth c Q nL (cells + 1) (slots + N) (ws ++ [aZ G q N (fun _ => 0)]) ll (pc + 2) (.ref q :: st)) : Vw G A p l e R s m args below meth c Q nL cells slots ws ll pc (.int n :: st) := by
  intro H locs ls h1 h2 h3 h4
  have hK := X.2.2.2.2.2.1
  refine va_newa (a0 := (N, .inl (fun _ => 0))) X.1 X.2.1 (atype := .boolean) (X.2.2.2.2.1 _ hm) rfl hK h1 h2 h3 X.2.2.2.2.2.2 (fun _ => rfl) hn hN hb hc hs hd (fun q cA H1 g1 g2 g3 g4 => ?_)
  have e1 := (g1.2 3 (cA, .boolean) rfl).2
  have e2 := (hK.2 2 (G.2.2.2, .boolean) rfl).2
  have e3 : cA = G.2.2.2 := Option.some.inj (e1.symm.trans e2)
  subst e3
  exact k q H1 locs ls g2 g3 g4 h4
theorem pv_new (X : Cx G A p s m args c cc nL own) {C : String} {T : u_T} {N ci ix : Nat} {fs : List Value} (ty : Nat → FieldType) (hty : ∀ k, k < N → parseFieldDescriptor (T k).2.2.1 = some (ty k)) (hin : ∀ w ∈ u_ws C T N, w ∈ gW) (hl : Cond.classLink own ix C ∈ gW) (hi : Cond.instantiable C N ∈ gW) (hini : Cond.initialized C ∈ gW) (hcl : pCl[ci]? = some (C, T, N)) (hfs : ∀ j, j < N → defaultValue (ty j) = vp_V fs j) (hc : cells + 1 ≤ R.cells) (hs : slots + N ≤ R.slots) (hd : decode cc pc = .ok (.new ix, 3))
    (k : ∀ q : Nat, Vw G A p l e R s m args below meth c Q nL (cells + 1) (slots + N) (ws ++ [ob q ci fs]) ll (pc + 3) (.ref q :: st)) : Vw G A p l e R s m args below meth c Q nL cells slots ws ll pc st := by
  intro H locs ls h1 h2 h3 h4
  have hts := X.2.2.2.2.1
  exact va_new X.1 X.2.1 hts hin ty hty X.2.2.2.1 (hts _ hl) (hts _ hi) (hts _ hini) X.2.2.2.2.2.1 h1 h2 h3 X.2.2.2.2.2.2 hcl hfs hc hs hd (fun q H1 g1 g2 g3 => k q H1 locs ls g1 g2 g3 h4)
end PA
section PF
variable {G : Gt} {A : Nat → Prop} {p : Program} {l : Launch} {e : Env} {R : Room} {s : State} {m : MethodId} {args : Array Value} {below : List Frame} {meth : Method} {c : Code} {Q : State → Prop} {nL cells slots : Nat} {ws : va_W} {ll : List (Nat × Value)} {pc : Nat} {st0 rest : List Value} {cc : ByteArray} {own : String} {av : List Value}
/-- a callee without a world -/
theorem pv_calli0 {f : Int32} (X : Cx G A p s m args c cc nL own)
    (hr : Rn G A p l e R s m args below meth c nL cells slots 0 0 [] av (fun sz => va_Qi (fun r (_ : Unit) => r = f) (qB G (va_A [] sz) (fun _ => [])) (va_A [] sz)) pc st0 rest)
    (k : Vw G A p l e R s m args below meth c Q nL cells slots ws ll (pc + 3) (.int f :: rest)) : Vw G A p l e R s m args below meth c Q nL cells slots ws ll pc st0 :=
  pv_calliE X (Cut.no _) hr (fun _ => by rw [List.append_nil]; exact k)
theorem pv_calll0 {f : Int64} (X : Cx G A p s m args c cc nL own)
    (hr : Rn G A p l e R s m args below meth c nL cells slots 0 0 [] av (fun sz => va_Ql (fun r (_ : Unit) => r = f) (qB G (va_A [] sz) (fun _ => [])) (va_A [] sz)) pc st0 rest)
    (k : Vw G A p l e R s m args below meth c Q nL cells slots ws ll (pc + 3) (.long f :: rest)) : Vw G A p l e R s m args below meth c Q nL cells slots ws ll pc st0 :=
  pv_calllE X (Cut.no _) hr (fun _ => by rw [List.append_nil]; exact k)
end PF
