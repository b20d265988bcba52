/-! a walk that only reads: the heap H stays, nothing is written -/
def Vr (G : Gt) (p : Program) (l : Launch) (e : Env) (R : Room) (s : State) (m : MethodId) (args : Array Value) (below : List Frame) (meth : Method) (c : Code) (Q : State → Prop) (H : Heap) (nL cells slots : Nat) (ws : va_W) (ll : List (Nat × Value)) (pc : Nat) (st : List Value) : Prop :=
  va_P G.1 pCl ws H → ∀ ls : Array Slot, lv_has ls nL ll → W p l e R s m args below meth c H [] cells slots Q (F0 m pc ls st)
section PVR
variable {G : Gt} {A : Nat → Prop} {p : Program} {l : Launch} {e : Env} {R : Room} {s : State} {m : MethodId} {args : Array Value} {below : List Frame} {meth : Method} {c : Code} {Q : State → Prop} {H : Heap} {nL cells slots : Nat} {ws : va_W} {ll : List (Nat × Value)} {pc : Nat} {st : List Value} {cc : ByteArray} {own : String}
theorem pr_iadd (X : Cx G A p s m args c cc nL own) {x y : Int32} (hd : decode cc pc = .ok (.iadd, 1)) (k : Vr G p l e R s m args below meth c Q H nL cells slots ws ll (pc + 1) (.int (x + y) :: st)) : Vr G p l e R s m args below meth c Q H nL cells slots ws ll (pc) (.int y :: .int x :: st) := fun h1 ls h4 => lv_iadd X.1 X.2.1 hd (k h1 ls h4)
theorem pr_isub (X : Cx G A p s m args c cc nL own) {x y : Int32} (hd : decode cc pc = .ok (.isub, 1)) (k : Vr G p l e R s m args below meth c Q H nL cells slots ws ll (pc + 1) (.int (x - y) :: st)) : Vr G p l e R s m args below meth c Q H nL cells slots ws ll (pc) (.int y :: .int x :: st) := fun h1 ls h4 => lv_isub X.1 X.2.1 hd (k h1 ls h4)
theorem pr_iconst (X : Cx G A p s m args c cc nL own) {n : Int} (v : Int32) (hd : decode cc pc = .ok (.iconst n, 1)) (hv : Int32.ofInt n = v) (k : Vr G p l e R s m args below meth c Q H nL cells slots ws ll (pc + 1) (.int v :: st)) : Vr G p l e R s m args below meth c Q H nL cells slots ws ll (pc) (st) := fun h1 ls h4 => lv_iconst X.1 X.2.1 hd hv (k h1 ls h4)
theorem pr_bipush (X : Cx G A p s m args c cc nL own) {n : Int} (v : Int32) (hd : decode cc pc = .ok (.bipush n, 2)) (hv : (Int8.ofInt n).toInt32 = v) (k : Vr G p l e R s m args below meth c Q H nL cells slots ws ll (pc + 2) (.int v :: st)) : Vr G p l e R s m args below meth c Q H nL cells slots ws ll (pc) (st) := fun h1 ls h4 => lv_bipush X.1 X.2.1 hd hv (k h1 ls h4)
theorem pr_iload (X : Cx G A p s m args c cc nL own) {i : Nat} {x : Int32} (k0 : Nat) (hd : decode cc pc = .ok (.iload i, 2)) (hl : ll[k0]? = some (i, .int x)) (k : Vr G p l e R s m args below meth c Q H nL cells slots ws ll (pc + 2) (.int x :: st)) : Vr G p l e R s m args below meth c Q H nL cells slots ws ll (pc) (st) := fun h1 ls h4 => lv_iload X.1 X.2.1 hd (lv_at h4 k0 hl) (k h1 ls h4)
theorem pr_iload_n (X : Cx G A p s m args c cc nL own) {i : Fin 4} {x : Int32} (k0 : Nat) (hd : decode cc pc = .ok (.iload_n i, 1)) (hl : ll[k0]? = some ((i : Nat), .int x)) (k : Vr G p l e R s m args below meth c Q H nL cells slots ws ll (pc + 1) (.int x :: st)) : Vr G p l e R s m args below meth c Q H nL cells slots ws ll (pc) (st) := fun h1 ls h4 => lv_iload_n X.1 X.2.1 hd rfl (lv_at h4 k0 hl) (k h1 ls h4)
theorem pr_aload_n (X : Cx G A p s m args c cc nL own) {i : Fin 4} {x : Nat} (k0 : Nat) (hd : decode cc pc = .ok (.aload_n i, 1)) (hl : ll[k0]? = some ((i : Nat), .ref x)) (k : Vr G p l e R s m args below meth c Q H nL cells slots ws ll (pc + 1) (.ref x :: st)) : Vr G p l e R s m args below meth c Q H nL cells slots ws ll (pc) (st) := fun h1 ls h4 => lv_aload_n X.1 X.2.1 hd rfl (lv_at h4 k0 hl) (k h1 ls h4)
theorem pr_istore (X : Cx G A p s m args c cc nL own) {i : Nat} {x : Int32} {ll2 : List (Nat × Value)} (hd : decode cc pc = .ok (.istore i, 2)) (hn : i < nL) (hl : (i, Value.int x) :: ll.filter (fun q => !(q.1 == i) && !(q.1 + 1 == i && q.2.category == 2)) = ll2) (k : Vr G p l e R s m args below meth c Q H nL cells slots ws ll2 (pc + 2) (st)) : Vr G p l e R s m args below meth c Q H nL cells slots ws ll (pc) (.int x :: st) := fun h1 ls h4 => lv_istore X.1 X.2.1 hd h4 hn hl (fun ls2 h5 => k h1 ls2 h5)
theorem pr_istore_n (X : Cx G A p s m args c cc nL own) {i : Fin 4} {x : Int32} {ll2 : List (Nat × Value)} (hd : decode cc pc = .ok (.istore_n i, 1)) (hn : (i : Nat) < nL) (hl : ((i : Nat), Value.int x) :: ll.filter (fun q => !(q.1 == (i : Nat)) && !(q.1 + 1 == (i : Nat) && q.2.category == 2)) = ll2) (k : Vr G p l e R s m args below meth c Q H nL cells slots ws ll2 (pc + 1) (st)) : Vr G p l e R s m args below meth c Q H nL cells slots ws ll (pc) (.int x :: st) := fun h1 ls h4 => lv_istore_n X.1 X.2.1 hd rfl h4 hn hl (fun ls2 h5 => k h1 ls2 h5)
theorem pr_iinc (X : Cx G A p s m args c cc nL own) {i : Nat} {n : Int} {x : Int32} {ll2 : List (Nat × Value)} (k0 : Nat) (v : Int32) (hd : decode cc pc = .ok (.iinc i n, 3)) (hk : ll[k0]? = some (i, .int x)) (hv : x + Int32.ofInt n = v) (hn : i < nL) (hl : (i, Value.int v) :: ll.filter (fun q => !(q.1 == i) && !(q.1 + 1 == i && q.2.category == 2)) = ll2) (k : Vr G p l e R s m args below meth c Q H nL cells slots ws ll2 (pc + 3) (st)) : Vr G p l e R s m args below meth c Q H nL cells slots ws ll (pc) (st) := fun h1 ls h4 => lv_iinc X.1 X.2.1 hd h4 hk hv hn hl (fun ls2 h5 => k h1 ls2 h5)
theorem pr_goto (X : Cx G A p s m args c cc nL own) {off : Int} (tgt : Nat) (hd : decode cc pc = .ok (.goto off, 3)) (ht : (pc : Int) + off = (tgt : Int)) (k : Vr G p l e R s m args below meth c Q H nL cells slots ws ll (tgt) (st)) : Vr G p l e R s m args below meth c Q H nL cells slots ws ll (pc) (st) := fun h1 ls h4 => lv_goto X.1 X.2.1 hd ht (k h1 ls h4)
theorem pr_if_eq (X : Cx G A p s m args c cc nL own) {x : Int32} {off : Int} (tgt : Nat) (hd : decode cc pc = .ok (.ifCond .eq off, 3)) (ht : (pc : Int) + off = (tgt : Int)) (kt : x = 0 → Vr G p l e R s m args below meth c Q H nL cells slots ws ll (tgt) (st)) (kf : ¬ x = 0 → Vr G p l e R s m args below meth c Q H nL cells slots ws ll (pc + 3) (st)) : Vr G p l e R s m args below meth c Q H nL cells slots ws ll (pc) (.int x :: st) := fun h1 ls h4 => lv_if_eq X.1 X.2.1 hd ht (fun h => kt h h1 ls h4) (fun h => kf h h1 ls h4)
theorem pr_icmp_eq (X : Cx G A p s m args c cc nL own) {x y : Int32} {off : Int} (tgt : Nat) (hd : decode cc pc = .ok (.if_icmp .eq off, 3)) (ht : (pc : Int) + off = (tgt : Int)) (kt : x = y → Vr G p l e R s m args below meth c Q H nL cells slots ws ll (tgt) (st)) (kf : ¬ x = y → Vr G p l e R s m args below meth c Q H nL cells slots ws ll (pc + 3) (st)) : Vr G p l e R s m args below meth c Q H nL cells slots ws ll (pc) (.int y :: .int x :: st) := fun h1 ls h4 => lv_icmp_eq X.1 X.2.1 hd ht (fun h => kt h h1 ls h4) (fun h => kf h h1 ls h4)
theorem pr_if_ne (X : Cx G A p s m args c cc nL own) {x : Int32} {off : Int} (tgt : Nat) (hd : decode cc pc = .ok (.ifCond .ne off, 3)) (ht : (pc : Int) + off = (tgt : Int)) (kt : ¬ x = 0 → Vr G p l e R s m args below meth c Q H nL cells slots ws ll (tgt) (st)) (kf : x = 0 → Vr G p l e R s m args below meth c Q H nL cells slots ws ll (pc + 3) (st)) : Vr G p l e R s m args below meth c Q H nL cells slots ws ll (pc) (.int x :: st) := fun h1 ls h4 => lv_if_ne X.1 X.2.1 hd ht (fun h => kt h h1 ls h4) (fun h => kf h h1 ls h4)
theorem pr_icmp_ne (X : Cx G A p s m args c cc nL own) {x y : Int32} {off : Int} (tgt : Nat) (hd : decode cc pc = .ok (.if_icmp .ne off, 3)) (ht : (pc : Int) + off = (tgt : Int)) (kt : ¬ x = y → Vr G p l e R s m args below meth c Q H nL cells slots ws ll (tgt) (st)) (kf : x = y → Vr G p l e R s m args below meth c Q H nL cells slots ws ll (pc + 3) (st)) : Vr G p l e R s m args below meth c Q H nL cells slots ws ll (pc) (.int y :: .int x :: st) := fun h1 ls h4 => lv_icmp_ne X.1 X.2.1 hd ht (fun h => kt h h1 ls h4) (fun h => kf h h1 ls h4)
theorem pr_if_lt (X : Cx G A p s m args c cc nL own) {x : Int32} {off : Int} (tgt : Nat) (hd : decode cc pc = .ok (.ifCond .lt off, 3)) (ht : (pc : Int) + off = (tgt : Int)) (kt : x < 0 → Vr G p l e R s m args below meth c Q H nL cells slots ws ll (tgt) (st)) (kf : ¬ x < 0 → Vr G p l e R s m args below meth c Q H nL cells slots ws ll (pc + 3) (st)) : Vr G p l e R s m args below meth c Q H nL cells slots ws ll (pc) (.int x :: st) := fun h1 ls h4 => lv_if_lt X.1 X.2.1 hd ht (fun h => kt h h1 ls h4) (fun h => kf h h1 ls h4)
theorem pr_icmp_lt (X : Cx G A p s m args c cc nL own) {x y : Int32} {off : Int} (tgt : Nat) (hd : decode cc pc = .ok (.if_icmp .lt off, 3)) (ht : (pc : Int) + off = (tgt : Int)) (kt : x < y → Vr G p l e R s m args below meth c Q H nL cells slots ws ll (tgt) (st)) (kf : ¬ x < y → Vr G p l e R s m args below meth c Q H nL cells slots ws ll (pc + 3) (st)) : Vr G p l e R s m args below meth c Q H nL cells slots ws ll (pc) (.int y :: .int x :: st) := fun h1 ls h4 => lv_icmp_lt X.1 X.2.1 hd ht (fun h => kt h h1 ls h4) (fun h => kf h h1 ls h4)
theorem pr_if_ge (X : Cx G A p s m args c cc nL own) {x : Int32} {off : Int} (tgt : Nat) (hd : decode cc pc = .ok (.ifCond .ge off, 3)) (ht : (pc : Int) + off = (tgt : Int)) (kt : 0 ≤ x → Vr G p l e R s m args below meth c Q H nL cells slots ws ll (tgt) (st)) (kf : ¬ 0 ≤ x → Vr G p l e R s m args below meth c Q H nL cells slots ws ll (pc + 3) (st)) : Vr G p l e R s m args below meth c Q H nL cells slots ws ll (pc) (.int x :: st) := fun h1 ls h4 => lv_if_ge X.1 X.2.1 hd ht (fun h => kt h h1 ls h4) (fun h => kf h h1 ls h4)
theorem pr_icmp_ge (X : Cx G A p s m args c cc nL own) {x y : Int32} {off : Int} (tgt : Nat) (hd : decode cc pc = .ok (.if_icmp .ge off, 3)) (ht : (pc : Int) + off = (tgt : Int)) (kt : y ≤ x → Vr G p l e R s m args below meth c Q H nL cells slots ws ll (tgt) (st)) (kf : ¬ y ≤ x → Vr G p l e R s m args below meth c Q H nL cells slots ws ll (pc + 3) (st)) : Vr G p l e R s m args below meth c Q H nL cells slots ws ll (pc) (.int y :: .int x :: st) := fun h1 ls h4 => lv_icmp_ge X.1 X.2.1 hd ht (fun h => kt h h1 ls h4) (fun h => kf h h1 ls h4)
theorem pr_if_gt (X : Cx G A p s m args c cc nL own) {x : Int32} {off : Int} (tgt : Nat) (hd : decode cc pc = .ok (.ifCond .gt off, 3)) (ht : (pc : Int) + off = (tgt : Int)) (kt : 0 < x → Vr G p l e R s m args below meth c Q H nL cells slots ws ll (tgt) (st)) (kf : ¬ 0 < x → Vr G p l e R s m args below meth c Q H nL cells slots ws ll (pc + 3) (st)) : Vr G p l e R s m args below meth c Q H nL cells slots ws ll (pc) (.int x :: st) := fun h1 ls h4 => lv_if_gt X.1 X.2.1 hd ht (fun h => kt h h1 ls h4) (fun h => kf h h1 ls h4)
theorem pr_icmp_gt (X : Cx G A p s m args c cc nL own) {x y : Int32} {off : Int} (tgt : Nat) (hd : decode cc pc = .ok (.if_icmp .gt off, 3)) (ht : (pc : Int) + off = (tgt : Int)) (kt : y < x → Vr G p l e R s m args below meth c Q H nL cells slots ws ll (tgt) (st)) (kf : ¬ y < x → Vr G p l e R s m args below meth c Q H nL cells slots ws ll (pc + 3) (st)) : Vr G p l e R s m args below meth c Q H nL cells slots ws ll (pc) (.int y :: .int x :: st) := fun h1 ls h4 => lv_icmp_gt X.1 X.2.1 hd ht (fun h => kt h h1 ls h4) (fun h => kf h h1 ls h4)
theorem pr_if_le (X : Cx G A p s m args c cc nL own) {x : Int32} {off : Int} (tgt : Nat) (hd : decode cc pc = .ok (.ifCond .le off, 3)) (ht : (pc : Int) + off = (tgt : Int)) (kt : x ≤ 0 → Vr G p l e R s m args below meth c Q H nL cells slots ws ll (tgt) (st)) (kf : ¬ x ≤ 0 → Vr G p l e R s m args below meth c Q H nL cells slots ws ll (pc + 3) (st)) : Vr G p l e R s m args below meth c Q H nL cells slots ws ll (pc) (.int x :: st) := fun h1 ls h4 => lv_if_le X.1 X.2.1 hd ht (fun h => kt h h1 ls h4) (fun h => kf h h1 ls h4)
theorem pr_icmp_le (X : Cx G A p s m args c cc nL own) {x y : Int32} {off : Int} (tgt : Nat) (hd : decode cc pc = .ok (.if_icmp .le off, 3)) (ht : (pc : Int) + off = (tgt : Int)) (kt : x ≤ y → Vr G p l e R s m args below meth c Q H nL cells slots ws ll (tgt) (st)) (kf : ¬ x ≤ y → Vr G p l e R s m args below meth c Q H nL cells slots ws ll (pc + 3) (st)) : Vr G p l e R s m args below meth c Q H nL cells slots ws ll (pc) (.int y :: .int x :: st) := fun h1 ls h4 => lv_icmp_le X.1 X.2.1 hd ht (fun h => kt h h1 ls h4) (fun h => kf h h1 ls h4)
theorem pr_topi {x : Int32} (y : Int32) (h : x = y) (k : Vr G p l e R s m args below meth c Q H nL cells slots ws ll (pc) (.int y :: st)) : Vr G p l e R s m args below meth c Q H nL cells slots ws ll (pc) (.int x :: st) := h ▸ k
theorem pr_get (X : Cx G A p s m args c cc nL own) {C : String} {T : u_T} {N ci ix a : Nat} {ref nm ds : String} {fs : List Value} {v : Value} (q0 k0 : Nat) (hin : ∀ w ∈ u_ws C T N, w ∈ gW) (hm : Cond.fieldLink own ix ref nm ds ∈ gW) (he : ws[q0]? = some (a, .inr (ci, fs))) (hc : pCl[ci]? = some (C, T, N)) (hk : k0 < N) (hT : (T k0).1 = ref ∧ (T k0).2.1 = nm ∧ (T k0).2.2.1 = ds) (hv : fs[k0]? = some v) (hd : decode cc pc = .ok (.getfield ix, 3))
    (k : Vr G p l e R s m args below meth c Q H nL cells slots ws ll (pc + 3) (v :: st)) : Vr G p l e R s m args below meth c Q H nL cells slots ws ll (pc) (.ref a :: st) := by
  intro h1 ls h4
  obtain ⟨e1, e2, e3⟩ := hT
  subst e1; subst e2; subst e3
  exact va_get X.1 X.2.1 X.2.2.2.2.1 hin X.2.2.2.1 X.2.2.2.2.2.1 h1 q0 he hc k0 hk (X.2.2.2.2.1 _ hm) (fun _ h9 => h9) hv hd (k h1 ls h4)
theorem pr_zald (X : Cx G A p s m args c cc nL own) {a n : Nat} {f : Nat → Int32} {i : Int32} (q0 : Nat) (ha : ws[q0]? = some (a, .inl (G.2.2.2, n, .inl f))) (hin : vp_in i n) (hd : decode cc pc = .ok (.baload, 1)) (k : Vr G p l e R s m args below meth c Q H nL cells slots ws ll (pc + 1) (.int (f i.toNatClampNeg) :: st)) : Vr G p l e R s m args below meth c Q H nL cells slots ws ll (pc) (.int i :: .ref a :: st) := fun h1 ls h4 => va_zald X.1 X.2.1 X.2.2.2.2.2.1 h1 q0 2 ha rfl hin hd (k h1 ls h4)
theorem pr_eqw {ws2 : va_W} (h : ws = ws2) (k : Vr G p l e R s m args below meth c Q H nL cells slots ws2 ll (pc) (st)) : Vr G p l e R s m args below meth c Q H nL cells slots ws ll (pc) (st) := h ▸ k
theorem pr_eql {ll2 : List (Nat × Value)} (h : ll = ll2) (k : Vr G p l e R s m args below meth c Q H nL cells slots ws ll2 (pc) (st)) : Vr G p l e R s m args below meth c Q H nL cells slots ws ll (pc) (st) := h ▸ k
end PVR
theorem m_443 : Cond.codeWith y_L_component b_L_component 6 (some .int) [(0, 7, 10, 13), (0, 7, 14, 15)] ∈ gW := gW_t (List.mem_append_right _ (List.mem_append_left _ (List.mem_of_getElem? (i := 203) rfl))) rfl
theorem m_535 : Cond.codeWith y_L_seal b_L_seal 3 (some .int) [(0, 8, 11, 15)] ∈ gW := gW_t (List.mem_append_right _ (List.mem_append_right _ (List.mem_append_left _ (List.mem_of_getElem? (i := 55) rfl)))) rfl
theorem m_547 : Cond.codeWith y_L_poke b_L_poke 5 (some .int) [(0, 6, 9, 13)] ∈ gW := gW_t (List.mem_append_right _ (List.mem_append_right _ (List.mem_append_left _ (List.mem_of_getElem? (i := 67) rfl)))) rfl
theorem m_555 : Cond.codeWith y_L_peek b_L_peek 4 (some .int) [(0, 8, 11, 13)] ∈ gW := gW_t (List.mem_append_right _ (List.mem_append_right _ (List.mem_append_left _ (List.mem_of_getElem? (i := 75) rfl)))) rfl
theorem m_562 : Cond.codeWith y_L_message b_L_message 5 (some .int) [(0, 6, 9, 13)] ∈ gW := gW_t (List.mem_append_right _ (List.mem_append_right _ (List.mem_append_left _ (List.mem_of_getElem? (i := 82) rfl)))) rfl
/-- a static that holds a reference or null -/
def Ls (C n d : String) (A : Nat → Prop) (U : State) : Prop := ∃ (c : ClassId) (k : Class) (i : Nat) (f : Field) (a : Nat) (cell : Cell) (v : Value), U.vm.findClass C = some c ∧ U.fieldFound? C n d = some (c, k, i, f) ∧ f.isStatic = true ∧ k.statics = some a ∧ U.heap[a]? = some cell ∧ cell.vm.isStatics = true ∧ cell.cls = c ∧ f.slot < cell.slots.size ∧ k.staticTypes[f.slot]? = some f.type ∧ cell.slots[f.slot]? = some v ∧ (v = .null ∨ ∃ t, v = .ref t) ∧ ¬ A a
theorem Ls_stb {C n d : String} : Stb (Ls C n d) := by
  have mv : ∀ (A : Nat → Prop) (u U : State), Ls C n d A u → u.vm.Alike U.vm → (∀ a : Nat, a < u.heap.size → ¬ A a → U.heap[a]? = u.heap[a]?) → Ls C n d A U := by
    intro A u U h hvm hq
    obtain ⟨c, k, i, f, a, cell, v, h1, h2, h3, h4, h5, h6, h7, h8, h9, h10, h11, h12⟩ := h
    obtain ⟨k', hi', he⟩ := State.fieldFound?_setVm hvm h2
    exact ⟨c, k', i, f, a, cell, v, by rw [hvm.findClass]; exact h1, hi', h3, by rw [he]; exact h4, by rw [hq a (Array.getElem?_eq_some_iff.mp h5).1 h12]; exact h5, h6, h7, h8, by rw [he]; exact h9, h10, h11, h12⟩
  refine ⟨fun A B u U h hW hk hAB => ?_, fun A u U h e1 e2 => mv A u U h (by rw [e2]; exact Vm.Alike.refl _) (fun a _ _ => by rw [e1])⟩
  obtain ⟨c, k, i, f, a, cell, v, h1, h2, h3, h4, h5, h6, h7, h8, h9, h10, h11, h12⟩ := mv A u U h hW.alike hk
  exact ⟨c, k, i, f, a, cell, v, h1, h2, h3, h4, h5, h6, h7, h8, h9, h10, h11, fun z => h12 (hAB a z)⟩
theorem Ls.lays {C n d : String} {A : Nat → Prop} {U : State} (h : Ls C n d A U) (args : Array Value) : (Cond.laysStatic C n d).before args U = true := by
  obtain ⟨c, k, i, f, a, cell, v, h1, h2, h3, h4, h5, h6, h7, h8, h9, h10, h11, h12⟩ := h
  simp [Cond.before, Cond.holds, Cond.value, h1, h2, h3, h4, h5, h6, h7, h8, h9]
theorem Ls.isr {C n d : String} {A : Nat → Prop} {U : State} (h : Ls C n d A U) (args : Array Value) : (Cond.isRef (.static C n d)).before args U = true := by
  obtain ⟨c, k, i, f, a, cell, v, h1, h2, h3, h4, h5, h6, h7, h8, h9, h10, h11, h12⟩ := h
  have he : (Term.static C n d).eval args U none [] U = some v := by
    simp [Term.eval, State.fieldNamed?, h2, h3, h4, h5, h6, h10]
  simp only [Cond.before, Cond.holds, Cond.value, he]
  rcases h11 with e | ⟨t, e⟩ <;> simp [e]
def Vk (k : Nat) (tx : String) (_ : Nat → Prop) (U : State) : Prop := ∃ a, vk_R "PinModule" k tx a U
theorem Vk_stb {k : Nat} {tx : String} : Stb (Vk k tx) :=
  ⟨fun _ _ _ _ h hW _ _ => h.elim fun a h => ⟨a, h.warm hW⟩, fun _ _ _ h _ e2 => h.elim fun a h => ⟨a, h.same e2⟩⟩
abbrev exT : String := "java/lang/Throwable"
abbrev exI : String := "java/lang/IllegalArgumentException"
abbrev exS : String := "java/lang/IllegalStateException"
abbrev exUp : List String := ["java/lang/RuntimeException", "java/lang/Exception"]
def Ex (A : Nat → Prop) (U : State) : Prop := Ls exT "UNASSIGNED_STACK" "[Ljava/lang/StackTraceElement;" A U ∧ Ls exT "SUPPRESSED_SENTINEL" "Ljava/util/List;" A U ∧ Vk 46 "no such component or half" A U ∧ Vk 57 "the module is sealed" A U ∧ Vk 64 "the module is sealed, or halves are missing" A U ∧ Vk 85 "no such long of the buffer" A U ∧ Vk 87 "no such bytes of the message" A U
theorem Ex_stb : Stb Ex := Ls_stb.and (Ls_stb.and (Vk_stb.and (Vk_stb.and (Vk_stb.and (Vk_stb.and Vk_stb)))))
theorem decl_of {args : Array Value} {s : State} {x : MethodName} {b : ByteArray} {n : Nat} {ret : Option FieldType} (hi : (Cond.instanceMethod x).before args s = true) (hc : (Cond.code x b n ret).before args s = true) : (Cond.declares x).before args s = true := by
  obtain ⟨r0, r, h1, h2, h3, h4⟩ := va_Decl.of hi hc
  simp [Cond.before, Cond.holds, Cond.value, h1, h2, h3, h4]
theorem asg_self (vm : Vm) (c : ClassId) : vm.assignable c c = true := by
  show vm.assignableAux (255 + 1) c c = true
  rw [Vm.assignableAux]; simp
theorem cast_self {args : Array Value} {s : State} {C : String} {n : Nat} (hi : (Cond.instantiable C n).before args s = true) : (Cond.castable C C).before args s = true := by
  obtain ⟨c, k, hc, -⟩ := Cond.instantiable_spec hi
  simp [Cond.before, Cond.holds, Cond.value, hc, asg_self]
abbrev exL : List Cond := [.laysStatic exT "UNASSIGNED_STACK" "[Ljava/lang/StackTraceElement;", .laysStatic exT "SUPPRESSED_SENTINEL" "Ljava/util/List;", .isRef (.static exT "UNASSIGNED_STACK" "[Ljava/lang/StackTraceElement;"), .isRef (.static exT "SUPPRESSED_SENTINEL" "Ljava/util/List;"), .castable exI exI, .castable exS exS, .declares y_Rt_initS, .declares y_Ex_initS, .declares y_Th_initS]
set_option maxRecDepth 100000 in
theorem own_I : (Bundle.ownAtoms "PinModule" 48 exI exUp).all (fun w => decide (w ∈ gW) || decide (w ∈ exL)) = true := by decide +kernel
set_option maxRecDepth 100000 in
theorem own_S : (Bundle.ownAtoms "PinModule" 59 exS exUp).all (fun w => decide (w ∈ gW) || decide (w ∈ exL)) = true := by decide +kernel
theorem own_ok {ic : Nat} {cls : String} (h : (Bundle.ownAtoms "PinModule" ic cls exUp).all (fun w => decide (w ∈ gW) || decide (w ∈ exL)) = true) {args : Array Value} {s : State} {A : Nat → Prop} (hts : ∀ w ∈ gW, w.before args s = true) (hx : Ex A s) : ∀ a ∈ Bundle.ownAtoms "PinModule" ic cls exUp, a.before args s = true := by
  intro a ha
  have h1 := List.all_eq_true.mp h a ha
  rw [Bool.or_eq_true, decide_eq_true_eq, decide_eq_true_eq] at h1
  rcases h1 with h1 | h1
  · exact hts a h1
  · simp only [List.mem_cons, List.not_mem_nil, or_false] at h1
    rcases h1 with rfl | rfl | rfl | rfl | rfl | rfl | rfl | rfl | rfl
    · exact hx.1.lays args
    · exact hx.2.1.lays args
    · exact hx.1.isr args
    · exact hx.2.1.isr args
    · exact cast_self (hts _ m_451)
    · exact cast_self (hts _ m_518)
    · exact decl_of (hts _ m_495) (hts _ m_496)
    · exact decl_of (hts _ m_498) (hts _ m_499)
    · exact decl_of (hts _ m_501) (hts _ m_502)
/-- how a method ends that throws -/
def QT (cls : String) : Array Value → State → Outcome → State → Prop := fun _ st o t => ∃ (x : Addr) (ce : Cell), o = .threw x ∧ t.heap[x]? = some ce ∧ st.vm.findClass cls = some ce.cls ∧ ce.vm = .none ∧ st.heap.size ≤ x ∧ st.WarmedH t.vm ∧ st.sameButNew ({ t with vm := st.vm } : State) [] 1 6
def ZT (below : List Frame) (cls : String) (args : Array Value) (s : State) : State → Prop := fun t => ∃ o, t.status = .running ∧ Ended t below o ∧ QT cls args s o t
section PTH
variable {G : Gt} {A : Nat → Prop} {p : Program} {l : Launch} {e : Env} {R : Room} {s : State} {m : MethodId} {args : Array Value} {below : List Frame} {meth : Method} {c : Code} {nL : Nat} {ws : va_W} {ll : List (Nat × Value)} {pc : Nat} {cc : ByteArray}
/-- new X; dup; ldc; X.<init>(String); athrow -/
theorem pr_throw (X : Cx G A p s m args c cc nL "PinModule") (hfl : l.flags = pinnedFlags ++ [noTraceFlag]) (hlk : meth.locks = false) (hx : Ex A s) {cls tx : String} {ci ks ic : Nat} (hout : c.exceptionTable.isEmpty = true)
    (hcls : Bundle.fit cls = true) (hown : (Bundle.ownAtoms "PinModule" ic cls exUp).all (fun w => decide (w ∈ gW) || decide (w ∈ exL)) = true) (hl : Cond.classLink "PinModule" ci cls ∈ gW) (hi : Cond.instantiable cls 6 ∈ gW) (hini : Cond.initialized cls ∈ gW) (hv : Vk ks tx A s)
    (d0 : decode cc pc = .ok (.new ci, 3)) (d1 : decode cc (pc + 3) = .ok (.dup, 1)) (d2 : decode cc (pc + 4) = .ok (.ldc ks, 2)) (d3 : decode cc (pc + 6) = .ok (.invokespecial ic, 3)) (d4 : decode cc (pc + 9) = .ok (.athrow, 1)) (hR : 5 < R.frames ∧ 90 ≤ R.locals ∧ 1 ≤ R.cells ∧ 6 ≤ R.slots) :
    Vr G p l e R s m args below meth c (ZT below cls args s) s.heap nL 0 0 ws ll pc [] := by
  intro h1 ls h4
  have hts := X.2.2.2.2.1
  obtain ⟨qs, hv⟩ := hv
  refine W.newc (g := F0 m pc ls []) X.1 X.2.1 X.2.2.2.1 (hts _ hl) (hts _ hi) (hts _ hini) rfl d0 (by omega) (by omega) (fun cC kC hf hk hkd hn => ?_)
  refine W.eq (g2 := F0 m (pc + 3) ls [.ref s.heap.size]) rfl ?_
  refine lv_dup X.1 X.2.1 d1 rfl ?_
  refine va_ldcS X.1 X.2.1 X.2.2.2.1 hv d2 ?_
  intro T hT X0
  have htr : e.platform.stackTraces = false := Launch.traces_off hfl X0.admits
  obtain ⟨U, g1, g2, g3, g4, g5, ce, g6, g7⟩ := X0.ctorThrowS X.1 htr X.2.2.2.1 hcls (by decide) (own_ok hown hts hx) (fun x hx => by cases hx) hf hk (a := s.heap.size) (msg := .ref qs) (g := F0 m (pc + 6) ls [.ref qs, .ref s.heap.size, .ref s.heap.size]) (rest := [])
    (by rw [hT]; exact Array.getElem?_push_size ..) (Nat.le_refl _) rfl rfl (by rw [X.2.2.1]; exact h4.1) rfl rfl rfl (by rw [X.2.1]; exact d3) (by rw [X.2.1]; exact d4) (fun x hx => by
      have e0 : c.exceptionTable.toList = [] := by
        have := Array.isEmpty_iff.mp hout
        rw [this]
      rw [e0] at hx; cases hx) (by show 2 + 3 < R.frames; omega) (by show 2 * 0 + 1 + (13 * (2 + 1) + 42) ≤ R.locals; omega) hlk
  exact ⟨U, g1, .threw s.heap.size, g2, g3, s.heap.size, ce, rfl, g6, g7.cls, g7.vm, Nat.le_refl _, g4, g5⟩
end PTH
