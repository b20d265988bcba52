abbrev FL : List Cond := flatC (Jvm.Cond.and given_1 narrow_1)
theorem mem_tab {l : List Cond} {B N : Nat} {f : Nat → Cond} (h : (l.drop B).take N = (List.range N).map f) {j : Nat} (hj : j < N) : f j ∈ l := by
  have h1 : f j ∈ (List.range N).map f := List.mem_map.mpr ⟨j, List.mem_range.mpr hj, rfl⟩
  rw [← h] at h1
  exact List.mem_of_mem_drop (List.mem_of_mem_take h1)
theorem LA_old {s : State} : ∀ a : Nat, a < s.heap.size → ¬ LA s a := fun a h h2 => Nat.not_le.mpr h h2
theorem tb_at {args : Array Value} {s : State} {ty : FieldType} {C n d : String} {N : Nat} {f : Nat → Int32} (hN : N < 2 ^ 31) (harr : (Cond.arrayOf (.static C n d) ty).before args s = true) (hlen : (Cond.eq (.length (.static C n d)) (.int (Int32.ofNat N))).before args s = true) (hel : ∀ j : Nat, j < N → (Cond.eq (.elem (.static C n d) (.int (Int32.ofNat j))) (.int (f j))).before args s = true) (hl : (Cond.laysStatic C n d).before args s = true) (hini : (Cond.initialized C).before args s = true) : Tb ty C n d N f (LA s) s := by
  obtain ⟨t, ht, hT⟩ := va_Tof (f := fun j => .int (f j)) (A := LA s) hN harr (va_eqt hlen) (fun j hj => va_eqt (hel j hj)) LA_old
  exact ⟨t, va_Zof hl hini ht LA_old, hT⟩
theorem ls_at {args : Array Value} {s : State} {C n d : String} (hl : (Cond.laysStatic C n d).before args s = true) (hr : (Cond.isRef (.static C n d)).before args s = true) : Ls C n d (LA s) s := by
  obtain ⟨c, k, i, f, a, cell, h1, h2, h3, h4, h5, h6, h7, h8, h9⟩ := Cond.laysStatic_spec hl
  obtain ⟨v, hv, hvr⟩ := Cond.isRef_spec hr
  obtain ⟨-, a2, cell2, g1, g2, -, g3⟩ := Term.static_spec h2 hv
  cases h4.symm.trans g1
  cases h5.symm.trans g2
  refine ⟨c, k, i, f, a, cell, v, h1, h2, h3, h4, h5, h6, h7, h8, h9, g3, ?_, LA_old a (Array.getElem?_eq_some_iff.mp h5).1⟩
  cases v with
  | null => exact Or.inl rfl
  | ref t => exact Or.inr ⟨t, rfl⟩
  | _ => simp [Value.isRef] at hvr
theorem vk_at {args : Array Value} {s : State} {k : Nat} {tx : String} (h1 : (Cond.stringRef "PinModule" k tx).before args s = true) (h2 : (Cond.exactly (.string "PinModule" k) "java/lang/String").before args s = true) : Vk k tx (LA s) s := by
  obtain ⟨a, c, cell, k, ht, -⟩ := Cond.exactly_spec h2
  exact ⟨a, vk_R.of h1 ht⟩
theorem nk_at {args : Array Value} {s : State} (h : (Cond.not (.castable exS exI)).before args s = true) : Nk (LA s) s := by
  intro c1 c2 h1 h2
  simp only [Cond.before, Cond.holds, Cond.value, h1, h2] at h
  simpa using h
theorem arr_at {args : Array Value} {s : State} {ty : FieldType} (h : (Cond.arrayClass ty).before args s = true) : ∃ cA : ClassId, ArrOfT s cA ty ∧ s.vm.findClass ("[" ++ ty.toString) = some cA := by
  obtain ⟨cA, kA, comp, hfind, hk, hkind⟩ := Cond.arrayClass_spec h
  exact ⟨cA, fun N z => ⟨(fun k h => by cases h), kA, hk, comp, hkind⟩, hfind⟩
theorem tbl_t {w : Cond} (h : w ∈ tables_1) : w ∈ lw_tbl := List.mem_append_right _ h
set_option maxRecDepth 100000 in
theorem tl_INITIAL : (FL.drop 136).take 64 = (List.range 64).map (fun j => Cond.eq (.elem (.static "PinModule$Des" "INITIAL" "[B") (.int (Int32.ofNat j))) (.int (tb_INITIAL j))) := by decide +kernel
theorem zt_INITIAL {args : Array Value} {s : State} (hf : ∀ w ∈ FL, w.before args s = true) (ht : ∀ w ∈ lw_tbl, w.before args s = true) : Z_INITIAL (LA s) s :=
  tb_at (by decide) (hf _ (List.mem_of_getElem? (i := 134) (by decide +kernel))) (hf _ (List.mem_of_getElem? (i := 135) (by decide +kernel))) (fun j hj => hf _ (mem_tab tl_INITIAL hj)) (ht _ (tbl_t (List.mem_append_left _ (List.mem_of_getElem? (i := 205) rfl)))) (ht _ (tbl_t (List.mem_append_left _ (List.mem_of_getElem? (i := 4) rfl))))
set_option maxRecDepth 100000 in
theorem tl_FINAL : (FL.drop 718).take 64 = (List.range 64).map (fun j => Cond.eq (.elem (.static "PinModule$Des" "FINAL" "[B") (.int (Int32.ofNat j))) (.int (tb_FINAL j))) := by decide +kernel
theorem zt_FINAL {args : Array Value} {s : State} (hf : ∀ w ∈ FL, w.before args s = true) (ht : ∀ w ∈ lw_tbl, w.before args s = true) : Z_FINAL (LA s) s :=
  tb_at (by decide) (hf _ (List.mem_of_getElem? (i := 716) (by decide +kernel))) (hf _ (List.mem_of_getElem? (i := 717) (by decide +kernel))) (fun j hj => hf _ (mem_tab tl_FINAL hj)) (ht _ (tbl_t (List.mem_append_left _ (List.mem_of_getElem? (i := 213) rfl)))) (ht _ (tbl_t (List.mem_append_left _ (List.mem_of_getElem? (i := 4) rfl))))
set_option maxRecDepth 100000 in
theorem tl_KEY_CHOICE : (FL.drop 7).take 56 = (List.range 56).map (fun j => Cond.eq (.elem (.static "PinModule$Des" "KEY_CHOICE" "[B") (.int (Int32.ofNat j))) (.int (tb_KEY_CHOICE j))) := by decide +kernel
theorem zt_KEY_CHOICE {args : Array Value} {s : State} (hf : ∀ w ∈ FL, w.before args s = true) (ht : ∀ w ∈ lw_tbl, w.before args s = true) : Z_KEY_CHOICE (LA s) s :=
  tb_at (by decide) (hf _ (List.mem_of_getElem? (i := 5) (by decide +kernel))) (hf _ (List.mem_of_getElem? (i := 6) (by decide +kernel))) (fun j hj => hf _ (mem_tab tl_KEY_CHOICE hj)) (ht _ (tbl_t (List.mem_append_left _ (List.mem_of_getElem? (i := 176) rfl)))) (ht _ (tbl_t (List.mem_append_left _ (List.mem_of_getElem? (i := 4) rfl))))
set_option maxRecDepth 100000 in
theorem tl_ROUND_CHOICE : (FL.drop 85).take 48 = (List.range 48).map (fun j => Cond.eq (.elem (.static "PinModule$Des" "ROUND_CHOICE" "[B") (.int (Int32.ofNat j))) (.int (tb_ROUND_CHOICE j))) := by decide +kernel
theorem zt_ROUND_CHOICE {args : Array Value} {s : State} (hf : ∀ w ∈ FL, w.before args s = true) (ht : ∀ w ∈ lw_tbl, w.before args s = true) : Z_ROUND_CHOICE (LA s) s :=
  tb_at (by decide) (hf _ (List.mem_of_getElem? (i := 83) (by decide +kernel))) (hf _ (List.mem_of_getElem? (i := 84) (by decide +kernel))) (fun j hj => hf _ (mem_tab tl_ROUND_CHOICE hj)) (ht _ (tbl_t (List.mem_append_left _ (List.mem_of_getElem? (i := 187) rfl)))) (ht _ (tbl_t (List.mem_append_left _ (List.mem_of_getElem? (i := 4) rfl))))
set_option maxRecDepth 100000 in
theorem tl_KEY_TURNS : (FL.drop 66).take 16 = (List.range 16).map (fun j => Cond.eq (.elem (.static "PinModule$Des" "KEY_TURNS" "[B") (.int (Int32.ofNat j))) (.int (tb_KEY_TURNS j))) := by decide +kernel
theorem zt_KEY_TURNS {args : Array Value} {s : State} (hf : ∀ w ∈ FL, w.before args s = true) (ht : ∀ w ∈ lw_tbl, w.before args s = true) : Z_KEY_TURNS (LA s) s :=
  tb_at (by decide) (hf _ (List.mem_of_getElem? (i := 64) (by decide +kernel))) (hf _ (List.mem_of_getElem? (i := 65) (by decide +kernel))) (fun j hj => hf _ (mem_tab tl_KEY_TURNS hj)) (ht _ (tbl_t (List.mem_append_left _ (List.mem_of_getElem? (i := 182) rfl)))) (ht _ (tbl_t (List.mem_append_left _ (List.mem_of_getElem? (i := 4) rfl))))
set_option maxRecDepth 100000 in
theorem tl_BOXES : (FL.drop 203).take 512 = (List.range 512).map (fun j => Cond.eq (.elem (.static "PinModule$Des" "BOXES" "[I") (.int (Int32.ofNat j))) (.int (tb_BOXES j))) := by decide +kernel
theorem zt_BOXES {args : Array Value} {s : State} (hf : ∀ w ∈ FL, w.before args s = true) (ht : ∀ w ∈ lw_tbl, w.before args s = true) : Z_BOXES (LA s) s :=
  tb_at (by decide) (hf _ (List.mem_of_getElem? (i := 201) (by decide +kernel))) (hf _ (List.mem_of_getElem? (i := 202) (by decide +kernel))) (fun j hj => hf _ (mem_tab tl_BOXES hj)) (ht _ (tbl_t (List.mem_append_left _ (List.mem_of_getElem? (i := 210) rfl)))) (ht _ (tbl_t (List.mem_append_left _ (List.mem_of_getElem? (i := 4) rfl))))
set_option maxRecDepth 100000 in
theorem tl_LETTERS : (FL.drop 785).take 4 = (List.range 4).map (fun j => Cond.eq (.elem (.static "PinModule$KeyBlock" "LETTERS" "[C") (.int (Int32.ofNat j))) (.int (tb_LETTERS j))) := by decide +kernel
theorem zt_LETTERS {args : Array Value} {s : State} (hf : ∀ w ∈ FL, w.before args s = true) (ht : ∀ w ∈ lw_tbl, w.before args s = true) : Z_LETTERS (LA s) s :=
  tb_at (by decide) (hf _ (List.mem_of_getElem? (i := 783) (by decide +kernel))) (hf _ (List.mem_of_getElem? (i := 784) (by decide +kernel))) (fun j hj => hf _ (mem_tab tl_LETTERS hj)) (ht _ (tbl_t (List.mem_append_right _ (List.mem_append_left _ (List.mem_of_getElem? (i := 4) rfl))))) (ht _ (tbl_t (List.mem_append_left _ (List.mem_of_getElem? (i := 13) rfl))))
theorem sx_at {args : Array Value} {s : State} (hf : ∀ w ∈ FL, w.before args s = true) (ht : ∀ w ∈ lw_tbl, w.before args s = true) : Sx (LA s) s :=
  ⟨zt_INITIAL hf ht, zt_FINAL hf ht, zt_KEY_CHOICE hf ht, zt_ROUND_CHOICE hf ht, zt_KEY_TURNS hf ht, zt_BOXES hf ht, zt_LETTERS hf ht, va_Nw.of rfl (ht _ (tbl_t (List.mem_append_right _ (List.mem_append_left _ (List.mem_of_getElem? (i := 178) rfl)))))⟩
theorem nx_at {args : Array Value} {s : State} (ht : ∀ w ∈ lw_tbl, w.before args s = true) : Nx (LA s) s :=
  ⟨va_Nw.of rfl (ht _ (tbl_t (List.mem_append_left _ (List.mem_of_getElem? (i := 26) rfl)))), va_Nw.of rfl (ht _ (tbl_t (List.mem_append_left _ (List.mem_of_getElem? (i := 56) rfl)))), va_Nw.of rfl (ht _ (tbl_t (List.mem_append_left _ (List.mem_of_getElem? (i := 62) rfl)))), va_Nw.of rfl (ht _ (tbl_t (List.mem_append_left _ (List.mem_of_getElem? (i := 100) rfl)))), va_Nw.of rfl (ht _ (tbl_t (List.mem_append_left _ (List.mem_of_getElem? (i := 105) rfl))))⟩
theorem ex_at {args : Array Value} {s : State} (hf : ∀ w ∈ FL, w.before args s = true) (ht : ∀ w ∈ lw_tbl, w.before args s = true) : Ex (LA s) s :=
  ⟨ls_at (ht _ (tbl_t (List.mem_append_right _ (List.mem_append_left _ (List.mem_of_getElem? (i := 237) rfl))))) (hf _ (List.mem_of_getElem? (i := 789) (by decide +kernel))), ls_at (ht _ (tbl_t (List.mem_append_right _ (List.mem_append_left _ (List.mem_of_getElem? (i := 239) rfl))))) (hf _ (List.mem_of_getElem? (i := 790) (by decide +kernel))), vk_at (ht _ (tbl_t (List.mem_append_right _ (List.mem_append_right _ (List.mem_append_left _ (List.mem_of_getElem? (i := 10) rfl)))))) (hf _ (List.mem_of_getElem? (i := 805) (by decide +kernel))), vk_at (ht _ (tbl_t (List.mem_append_right _ (List.mem_append_right _ (List.mem_append_left _ (List.mem_of_getElem? (i := 46) rfl)))))) (hf _ (List.mem_of_getElem? (i := 834) (by decide +kernel))), vk_at (ht _ (tbl_t (List.mem_append_right _ (List.mem_append_right _ (List.mem_append_left _ (List.mem_of_getElem? (i := 64) rfl)))))) (hf _ (List.mem_of_getElem? (i := 859) (by decide +kernel))), vk_at (ht _ (tbl_t (List.mem_append_right _ (List.mem_append_right _ (List.mem_append_left _ (List.mem_of_getElem? (i := 72) rfl)))))) (hf _ (List.mem_of_getElem? (i := 908) (by decide +kernel))), vk_at (ht _ (tbl_t (List.mem_append_right _ (List.mem_append_right _ (List.mem_append_left _ (List.mem_of_getElem? (i := 87) rfl)))))) (hf _ (List.mem_of_getElem? (i := 941) (by decide +kernel)))⟩
theorem gk_at {args : Array Value} {s : State} (ht : ∀ w ∈ lw_tbl, w.before args s = true) : ∃ G : Gt, gK G s := by
  have hg : ∀ w ∈ gW, w.before args s = true := fun w hw => ht w (List.mem_filter.mp hw).1
  obtain ⟨c0, i0, h0⟩ := u_known hg u_P_in (ht _ (tbl_t (List.mem_append_left _ (List.mem_of_getElem? (i := 17) rfl))))
  obtain ⟨c1, i1, h1⟩ := u_known hg u_S_in (ht _ (tbl_t (List.mem_append_left _ (List.mem_of_getElem? (i := 25) rfl))))
  obtain ⟨c2, i2, h2⟩ := u_known hg u_T_in (ht _ (tbl_t (List.mem_append_left _ (List.mem_of_getElem? (i := 55) rfl))))
  obtain ⟨c3, i3, h3⟩ := u_known hg u_C_in (ht _ (tbl_t (List.mem_append_left _ (List.mem_of_getElem? (i := 99) rfl))))
  obtain ⟨c4, i4, h4⟩ := u_known hg u_D_in (ht _ (tbl_t (List.mem_append_left _ (List.mem_of_getElem? (i := 61) rfl))))
  obtain ⟨c5, i5, h5⟩ := u_known hg u_M_in (ht _ (tbl_t (List.mem_append_right _ (List.mem_append_right _ (List.mem_append_left _ (List.mem_of_getElem? (i := 89) rfl))))))
  obtain ⟨aI, gI, nmI⟩ := arr_at (ht _ (tbl_t (List.mem_append_left _ (List.mem_of_getElem? (i := 53) rfl))))
  obtain ⟨aJ, gJ, nJ⟩ := arr_at (ht _ (tbl_t (List.mem_append_left _ (List.mem_of_getElem? (i := 51) rfl))))
  obtain ⟨aZ, gZ, nZ⟩ := arr_at (ht _ (tbl_t (List.mem_append_left _ (List.mem_of_getElem? (i := 52) rfl))))
  refine ⟨((fun c => if c = 0 then c0 else if c = 1 then c1 else if c = 2 then c2 else if c = 3 then c3 else if c = 4 then c4 else c5, fun c => if c = 0 then i0 else if c = 1 then i1 else if c = 2 then i2 else if c = 3 then i3 else if c = 4 then i4 else i5), aI, aJ, aZ), ?_, ?_⟩
  · intro c q hq
    have hc : c < 6 := (List.getElem?_eq_some_iff.mp hq).1
    rcases (show c = 0 ∨ c = 1 ∨ c = 2 ∨ c = 3 ∨ c = 4 ∨ c = 5 by omega) with rfl | rfl | rfl | rfl | rfl | rfl
    · cases hq; exact h0
    · cases hq; exact h1
    · cases hq; exact h2
    · cases hq; exact h3
    · cases hq; exact h4
    · cases hq; exact h5
  · intro k q hq
    have hc : k < 3 := (List.getElem?_eq_some_iff.mp hq).1
    rcases (show k = 0 ∨ k = 1 ∨ k = 2 by omega) with rfl | rfl | rfl
    · cases hq; exact ⟨gI, nmI⟩
    · cases hq; exact ⟨gJ, nJ⟩
    · cases hq; exact ⟨gZ, nZ⟩
theorem whole_start {p : Program} {e : Env} {s : State} {m : MethodId} {below : List Frame} {meth : Method} {c : Code} (l : Launch) (hfl : l.flags = flags0) {b L : Nat} {xs : Nat → Int32} (hL : L ≤ 4608) (C0 : lw_At p s m meth c b L xs) : W p l e room_1 s m #[Value.ref b] below meth c s.heap [] 0 0 (lw_Z below #[Value.ref b] s) (entryFrame m ([Value.ref b] : List Value).toArray 8) := by
  obtain ⟨hx, hb, hr, hml, hown, ht, hX, hbl, hlk, hgv⟩ := C0
  have hf := flat_of_before _ hgv
  obtain ⟨G, hK⟩ := gk_at ht
  have X : Cx G (LA s) p s m #[Value.ref b] c b_L_law 8 "PinModuleLaw" := ⟨hx, hb, hml, hown, fun w hw => ht w (List.mem_filter.mp hw).1, hK, fun q h => h⟩
  have hE : Eh (LA s) s := ⟨sx_at hf ht, ex_at hf ht, nk_at (hf _ (List.mem_of_getElem? (i := 797) (by decide +kernel)))⟩
  have key := law_start (below := below) (meth := meth) (e := e) X hX hbl hE hfl hL hr hlk (nx_at ht)
  rw [lg_entry_eq]
  exact key s.heap [] _ (fun k q h => by cases h) ⟨(fun i j p q h => by cases h), (fun k q h => by cases h)⟩ va_S.rf (lv_entry [Value.ref b] (Nat.le_of_ble_eq_true rfl))
set_option maxHeartbeats 4000000 in
theorem lw_walk (l : Launch) (hfl : l.flags = flags0) (b : Addr) (xs : List Int32) : MetFree l x (headSpec (Jvm.Cond.code x code maxLocals ret :: tables_1) room_1) (lw_P b xs) (fun _ _ _ _ _ => True) lw_Q := by
  refine MetFree.of_bodyS (code := code) (maxLocals := maxLocals) (ret := ret) (by decide) ?_ ?_
  · intro args s m h hn
    obtain ⟨meth, c, h1, h2, h3, h4, h5, h6, -, -⟩ := Cond.code_spec hn (atoms_spec (ws := Jvm.Cond.code x code maxLocals ret :: tables_1) h _ List.mem_cons_self)
    exact ⟨meth, c, h1, h2, h3, h4, h5, h6⟩
  · intro p e s m args below meth c s₁ B hml0 hP _
    obtain ⟨rfl, hx, hbd, hgv⟩ := hP
    obtain ⟨scr, harrAt, hlist, hof, hsmall⟩ := hx
    obtain ⟨hcb, hkn, -, -⟩ := State.arrayAt?_spec harrAt
    have hown : s.vm.findClass R_law = some m.cls := findClass_of_methodNamed B.named
    have hts0 : ∀ c ∈ (Jvm.Cond.code x code maxLocals ret :: tables_1), c.before #[Value.ref b] s = true := atoms_spec (ws := Jvm.Cond.code x code maxLocals ret :: tables_1) B.pre
    have hts : ∀ w ∈ lw_tbl, w.before #[Value.ref b] s = true := k2_hts_sels lw_privs (fun w hw => hts0 w (List.mem_cons_of_mem _ hw)) lw_privs_ok
    have hml : c.maxLocals = 8 := B.maxLocals_eq (hts0 _ List.mem_cons_self)
    have X₀ : Stand p l e room_1 s m #[Value.ref b] below meth c s₁ [] 0 0 := Stand.of_body B
    have hh0 : s₁.heap = s.heap := by rw [B.state]; rfl
    have hsz : scr.slots.size = xs.length := by rw [← Array.length_toList, hlist, List.length_map]
    have hval : ∀ j : Nat, j < xs.length → scr.slots[j]? = some (.int (xs.getD j 0)) := fun j hj => by
      rw [← Array.getElem?_toList, hlist]
      simp [hj]
    have hbl : b < s.heap.size := (Array.getElem?_eq_some_iff.mp hcb).1
    have hX : va_X b xs.length (fun j => xs.getD j 0) s s.heap := ⟨scr, hcb, hof, hkn, hsz, hval⟩
    have K : W p l e room_1 s m #[Value.ref b] below meth c s₁.heap [] 0 0 (lw_Z below #[Value.ref b] s) (entryFrame m ([Value.ref b] : List Value).toArray 8) := by
      rw [hh0]
      exact whole_start l hfl hbd ⟨B.exec, B.bytes, B.returns, hml, hown, hts, hX, hbl, B.notSynchronized, hgv⟩
    obtain ⟨t, a1, o, b1, b2, b3⟩ := K s₁ rfl X₀
    exact ⟨t, o, a1, b1, b2, b3⟩
theorem lw_pre_spec {args : Array Value} {s : State} (h : (Jvm.Cond.and given_1 narrow_1).before args s = true) (hr : rest_1_c.before args s = true) : ∃ (b : Addr) (xs : List Int32), lw_P b xs args s := by
  have hs := flat_of_before _ h
  have hq := flat_of_before _ hr
  have hc : (Cond.count 1).before args s = true := hs _ (by decide +kernel)
  have harr : (Cond.arrayOf (.arg 0) .int).before args s = true := hs _ (by decide +kernel)
  have hle : (Cond.le (.length (.arg 0)) (.int 4608)).before args s = true := hs _ (by decide +kernel)
  have hlen : (Cond.isInt (.length (.arg 0))).before args s = true := hq _ (by decide +kernel)
  have hall : (Cond.all (.arg 0) (.isInt (.elem (.arg 0) (.index 0)))).before args s = true := hq _ (by decide +kernel)
  obtain ⟨b, xs, hb, hx⟩ := State.ints_of_pre rfl harr hlen hall
  have hsm : xs.length < 2 ^ 31 := hx.choose_spec.2.2.2
  have hev : (Term.length (.arg 0)).eval args s none [] s = some (.int xs.length.toInt32) := hx.length_eval hb
  have hv := Cond.le_ints hev (show (Term.int 4608).eval args s none [] s = some (.int 4608) from rfl)
  have hd : xs.length.toInt32 ≤ 4608 := by
    simpa [Cond.before, Cond.holds, hv] using hle
  have hN : xs.length ≤ 4608 := (Int32.ofNat_le_ofNat hsm (by decide)).mp (show Int32.ofNat xs.length ≤ Int32.ofNat 4608 from hd)
  exact ⟨b, xs, Cond.one_arg hc (show args[0]? = some (.ref b) from hb), hx, hN, h⟩
theorem lw_comes (l : Launch) (hfl : l.flags = flags0) : Comes l x (Jvm.Cond.code x code maxLocals ret :: tables_1) room_1 (fun tb e args s => Calls_1 tb e args s ∧ rest_1 tb e args s ∧ Pre_1 tb e args s)
    (fun _ _ args s o t => lw_Q args s o t) := by
  intro p e ha hc hk s m args below hf hfit hheap happ hpre
  obtain ⟨b, xs, hP⟩ := lw_pre_spec hpre.2.2 hpre.2.1
  obtain ⟨k, o, h1, h2, h3, hQ⟩ := lw_walk l hfl b xs p e ha hc hk s m args below hf ((Spec.applies_iff_loose hf).mp happ).1 hP trivial
  exact ⟨k, o, h1, h2, h3, hQ⟩
theorem lw_frame {s t : State} {o : Outcome} {args : Array Value} (h : Framed s o t [] 1073 9263) :
    Framed s o t (fieldLocs frame_1_writes args s ++ arrayLocs frame_1_arrays args s ++ staticLocs frame_1_statics s) 1073 9263 := h
theorem lw_limb (L : Cond) (hL : ∀ (args : Array Value) (s t : State), L.after args s (.returned (some (.int 1))) t = true) :
    ArmFor flags0 classFile x code maxLocals ret World_1 tables_1 room_1 Calls_1 rest_1 Pre_1
      (fun tb e a s o t => postC L tb e a s o t ∧ Framed s o t (fieldLocs frame_1_writes a s ++ arrayLocs frame_1_arrays a s ++ staticLocs frame_1_statics s) 1073 9263) := by
  intro l hfl _ _ p e ha hc hk s m args below hf hfit hheap happ hpre
  obtain ⟨k, o, h1, h2, h3, rfl, hF⟩ := lw_comes l hfl p e ha hc hk s m args below hf hfit hheap happ hpre
  exact ⟨k, _, h1, h2, h3, hL args s _, lw_frame hF⟩
theorem i_vc : Claimed_1_1 ∧ Claimed_1_2 := ⟨lw_limb limb_1_1 (fun args s t => by simp [limb_1_1, Cond.after, Cond.holds, Cond.value]), lw_limb limb_1_2 (fun args s t => Cond.after_iff.mpr (by
  first | (rw [show limb_1_2 = Cond.eq .result (.int 1) from rfl, Cond.eq_ints (x := 1) (y := 1) rfl rfl]; simp; done) | (simp [limb_1_2, Cond.value, Term.eval]; done)))⟩
