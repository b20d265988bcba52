/-! THE CLAIM OUT OF ONE WALK OF THE LAW'S BODY. Your part is whole_start (and what it stands on); all else here is the same for every law, but numbers. -/
def R_law : String := "PinModuleLaw"
def lw_P (b : Addr) (xs : List Int32) (args : Array Value) (s : State) : Prop := args = #[.ref b] ∧ s.IntsAt b xs ∧ xs.length ≤ 4608 ∧ (Jvm.Cond.and given_1 narrow_1).before args s = true
def lw_Q (_ : Array Value) (s : State) (o : Outcome) (t : State) : Prop := o = .returned (some (.int 1)) ∧ Framed s o t [] 1073 9263
def lw_Z (below : List Frame) (a : Array Value) (s : State) : State → Prop := fun t => ∃ o, t.status = .running ∧ Ended t below o ∧ lw_Q a s o t
/-- the law's own end, with 1 on the stack, nothing written that was there before, its room as the claim has it -/
theorem lw_ret {p : Program} {l : Launch} {e : Env} {s : State} {m : MethodId} {below : List Frame} {meth : Method} {c : Code} {b : Nat} (hx : p.tables.exec = Jvm.exec) (hb : c.code = code) (hr : meth.sig.returnType = ret) (hlocks : meth.locks = false) {pc : Nat} {H : Heap} {ls : Array Slot} (hdg : decode code pc = .ok (.ireturn, 1)) : W p l e room_1 s m #[Value.ref b] below meth c H [] 1073 9263 (lw_Z below #[Value.ref b] s) (F0 m pc ls [.int 1]) := by
  intro T hT X
  obtain ⟨fs, hret, hrun, hended, hW, hframe⟩ := X.leave (v := some (.int 1)) (hlocks := hlocks) (fun h => by rw [hr] at h; cases h)
  have hmeth' : T.vm.method? m = some meth := X.method'
  refine ⟨T.setFrames fs, ?_, .returned (some (.int 1)), hrun, hended, rfl, ⟨_, rfl⟩, hW, hframe⟩
  jvm_step X.here [X.here.top, hx, hb, hdg, hmeth', hr, ret, narrow_b1]
  (try refine ⟨rfl, ?_⟩); (try refine ⟨rfl, ?_⟩)
  first | (intro acts; rw [hret _ acts rfl rfl rfl]) | rw [hret _ _ rfl rfl rfl]
  exact Steps.refl _
/-- what holds at the law's entry: the machine, the code, the tables' words (any of lw_tbl by 'hts w (by decide +kernel)'), the script of L ints xs at the cell b, what the Statement gives of the start (any of its parts by flat_of_before) -/
def lw_At (p : Program) (s : State) (m : MethodId) (meth : Method) (c : Code) (b L : Nat) (xs : Nat → Int32) : Prop :=
  p.tables.exec = Jvm.exec ∧ c.code = code ∧ meth.sig.returnType = ret ∧ c.maxLocals = 8 ∧ s.vm.findClass R_law = some m.cls ∧ (∀ w ∈ lw_tbl, w.before #[Value.ref b] s = true) ∧ va_X b L xs s s.heap ∧ b < s.heap.size ∧ meth.locks = false ∧ (Jvm.Cond.and given_1 narrow_1).before #[Value.ref b] s = true
section PW
variable {G : Gt} {A : Nat → Prop} {p : Program} {l : Launch} {e : Env} {R : Room} {s : State} {m : MethodId} {args : Array Value} {below : List Frame} {meth : Method} {c : Code} {Q : State → Prop} {nL cells slots : Nat} {ws : va_W} {ll : List (Nat × Value)} {pc : Nat} {st : List Value} {cc : ByteArray} {own : String}
theorem pv_sld (X : Cx G A p s m args c cc nL own) {b L : Nat} {xs : Nat → Int32} (hX : va_X b L xs s s.heap) (hbl : b < s.heap.size) (hbA : ¬ A b) {i : Int32} (hin : vp_in i L) (hd : decode cc pc = .ok (.iaload, 1)) (k : Vw G A p l e R s m args below meth c Q nL cells slots ws ll (pc + 1) (.int (xs i.toNatClampNeg) :: st)) : Vw G A p l e R s m args below meth c Q nL cells slots ws ll pc (.int i :: .ref b :: st) := fun H locs ls h1 h2 h3 h4 => va_sld X.1 X.2.1 hX hbl hbA h3 hin hd (k H locs ls h1 h2 h3 h4)
theorem pv_slen (X : Cx G A p s m args c cc nL own) {b L : Nat} {xs : Nat → Int32} (hX : va_X b L xs s s.heap) (hbl : b < s.heap.size) (hbA : ¬ A b) (hd : decode cc pc = .ok (.arraylength, 1)) (k : Vw G A p l e R s m args below meth c Q nL cells slots ws ll (pc + 1) (.int (nI L) :: st)) : Vw G A p l e R s m args below meth c Q nL cells slots ws ll pc (.ref b :: st) := fun H locs ls h1 h2 h3 h4 => va_slen X.1 X.2.1 hX hbl hbA h3 hd (k H locs ls h1 h2 h3 h4)
theorem pv_tableIn (X : Cx G A p s m args c cc nL own) {dflt lo hi : Int} {offs : Array Int} {len : Nat} {x : Int32} {off : Int} (tgt : Nat) (hd : decode cc pc = .ok (.tableswitch dflt lo hi offs, len)) (g1 : ¬ x.toInt < lo) (g2 : ¬ hi < x.toInt) (ho : offs[(x.toInt - lo).toNat]? = some off) (ht : (pc : Int) + off = (tgt : Int)) (k : Vw G A p l e R s m args below meth c Q nL cells slots ws ll tgt st) : Vw G A p l e R s m args below meth c Q nL cells slots ws ll pc (.int x :: st) := fun H locs ls h1 h2 h3 h4 => lv_tableIn X.1 X.2.1 hd g1 g2 ho ht (k H locs ls h1 h2 h3 h4)
theorem pv_tableOut (X : Cx G A p s m args c cc nL own) {dflt lo hi : Int} {offs : Array Int} {len : Nat} {x : Int32} (tgt : Nat) (hd : decode cc pc = .ok (.tableswitch dflt lo hi offs, len)) (g : x.toInt < lo ∨ hi < x.toInt) (ht : (pc : Int) + dflt = (tgt : Int)) (k : Vw G A p l e R s m args below meth c Q nL cells slots ws ll tgt st) : Vw G A p l e R s m args below meth c Q nL cells slots ws ll pc (.int x :: st) := fun H locs ls h1 h2 h3 h4 => lv_tableOut X.1 X.2.1 hd g ht (k H locs ls h1 h2 h3 h4)
end PW
abbrev LA (s : State) : Nat → Prop := fun q => s.heap.size ≤ q
def lw2 (xs : Nat → Int32) (j : Nat) : Int64 := ((xs j).toInt64 <<< ((32 : Int32).toInt64 &&& 63)) ||| ((xs (j + 1)).toInt64 &&& (4294967295 : Int64))
theorem len_9 (L : Nat) (h : L < 4609) : (nI L - 9).toInt = (L : Int) - 9 := by
  by_cases h9 : 9 ≤ L
  · rw [show (9 : Int32) = nI 9 from rfl, pk_sub (by omega), nI_toInt (by omega)]; omega
  · exact (show ∀ L, L < 9 → (nI L - 9).toInt = (L : Int) - 9 by decide +kernel) L (by omega)
theorem lp_in {L i : Nat} (hL : L ≤ 4608) (h : 9 * i + 9 ≤ L) : ¬ nI L - 9 < nI (9 * i) := by
  rw [Int32.lt_iff_toInt_lt, len_9 L (by omega), nI_toInt (by omega)]; omega
theorem lp_out {L i : Nat} (hL : L ≤ 4608) (hi : 9 * i ≤ 4608) (h : ¬ 9 * i + 9 ≤ L) : nI L - 9 < nI (9 * i) := by
  rw [Int32.lt_iff_toInt_lt, len_9 L (by omega), nI_toInt (by omega)]; omega
theorem hyo_of {yo : Nat → Int32} (h : ∀ j, ∃ c, c < 2097152 ∧ yo j = nI c) : ∀ j, ¬ yo j + 1 < 0 ∧ yo j + 1 ≤ 2097152 := by
  intro j
  obtain ⟨c, hc, e⟩ := h j
  rw [e, nI_1]
  exact ⟨nI_pos (by omega), nI_le (b := 2097152) (by omega) (by omega)⟩
