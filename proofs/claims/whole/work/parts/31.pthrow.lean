def CtT (l : Launch) (G : Gt) (y : MethodName) (cy : ByteArray) (ny : Nat) (ret : Option FieldType) (rm : Room) (E : (Nat → Prop) → State → Prop) (av : List Value) (w0 : va_W) (cls : String) : Prop :=
  Stb E ∧ rm.cells = 1 ∧ rm.slots = 6 ∧ MetFree l y (headSpec (mw y cy ny ret) rm) (va_Pc av (fun U => va_P G.1 pCl w0 U.heap ∧ gK G U ∧ E (fun q => U.heap.size ≤ q) U)) (fun _ _ _ _ _ => True) (QT cls)
theorem CtT.of {l : Launch} {G : Gt} {y : MethodName} {cy : ByteArray} {ny : Nat} {ret : Option FieldType} {rm : Room} {E : (Nat → Prop) → State → Prop} {av : List Value} {w0 : va_W} {cls : String}
    (hE : Stb E) (hc : rm.cells = 1) (hs : rm.slots = 6) (hy : plainName y.cls = true) (hn : (lg_sl av).length ≤ ny)
    (h : ∀ (p : Program) (e : Env) (s : State) (m : MethodId) (args : Array Value) (below : List Frame) (meth : Method) (c : Code),
      Cx G (fun q => s.heap.size ≤ q) p s m args c cy ny y.cls → E (fun q => s.heap.size ≤ q) s → meth.locks = false → c.exceptionTable.isEmpty = true → Vr G p l e rm s m args below meth c (ZT below cls args s) s.heap ny 0 0 w0 (lv_args 0 av) 0 []) :
    CtT l G y cy ny ret rm E av w0 cls := by
  refine ⟨hE, hc, hs, ?_⟩
  refine MetFree.of_bodyS (code := cy) (maxLocals := ny) (ret := ret) hy ?_ ?_
  · intro args s m h hn
    obtain ⟨meth, c, h1, h2, h3, h4, h5, h6, -, -⟩ := Cond.code_spec hn (atoms_spec (ws := mw y cy ny ret) h _ List.mem_cons_self)
    exact ⟨meth, c, h1, h2, h3, h4, h5, h6⟩
  · intro p e s m args below meth c s₁ B hml hP _
    obtain ⟨rfl, hP, hK, hEs⟩ := hP
    have hh0 : s₁.heap = s.heap := by rw [B.state]; rfl
    have hts := atoms_spec (ws := mw y cy ny ret) B.pre
    have key := h p e s m av.toArray below meth c ⟨B.exec, B.bytes, hml, findClass_of_methodNamed B.named, fun w hw => hts w (List.mem_cons_of_mem _ hw), hK, fun q hq => hq⟩ hEs B.notSynchronized (B.noHandlers (hts _ List.mem_cons_self)) hP _ (lv_entry av hn)
    rw [← lg_entry_eq] at key
    obtain ⟨t, a1, o, b1, b2, b3⟩ := key s₁ hh0 (Stand.of_body B)
    exact ⟨t, o, a1, b1, b2, b3⟩
/-- a method that only reads -/
def CtR (l : Launch) (G : Gt) (y : MethodName) (cy : ByteArray) (ny : Nat) (ret : Option FieldType) (rm : Room) (av : List Value) (w0 : va_W) (r : Int32) : Prop :=
  rm.cells = 0 ∧ rm.slots = 0 ∧ Met l y (mw y cy ny ret) rm (va_Pc av (fun U => va_P G.1 pCl w0 U.heap ∧ gK G U)) (QcRead r) 0 0 (fun _ => False)
theorem CtR.of {l : Launch} {G : Gt} {y : MethodName} {cy : ByteArray} {ny : Nat} {ret : Option FieldType} {rm : Room} {av : List Value} {w0 : va_W} {r : Int32}
    (hc : rm.cells = 0) (hs : rm.slots = 0) (hy : plainName y.cls = true) (hn : (lg_sl av).length ≤ ny)
    (h : ∀ (p : Program) (e : Env) (s : State) (m : MethodId) (args : Array Value) (below : List Frame) (meth : Method) (c : Code),
      Cx G (fun q => s.heap.size ≤ q) p s m args c cy ny y.cls → meth.sig.returnType = ret → meth.locks = false → Vr G p l e rm s m args below meth c (MQ below (QcRead r) args s 0 0 (fun _ => False)) s.heap ny 0 0 w0 (lv_args 0 av) 0 []) :
    CtR l G y cy ny ret rm av w0 r := by
  refine ⟨hc, hs, ?_⟩
  refine Met.ofW (cc := cy) (maxL := ny) (ret := ret) hy rfl ?_
  intro p e s m args below meth c s₁ B hml hv
  obtain ⟨rfl, hP, hK⟩ := hv
  have hts := atoms_spec (ws := mw y cy ny ret) B.pre
  have key := h p e s m av.toArray below meth c ⟨B.exec, B.bytes, hml, findClass_of_methodNamed B.named, fun w hw => hts w (List.mem_cons_of_mem _ hw), hK, fun q hq => hq⟩ B.returns B.notSynchronized
  rw [lg_entry_eq]
  exact key hP _ (lv_entry av hn)
section PRR
variable {G : Gt} {A : Nat → Prop} {p : Program} {l : Launch} {e : Env} {R : Room} {s : State} {m : MethodId} {args : Array Value} {below : List Frame} {meth : Method} {c : Code} {Q : State → Prop} {H : Heap} {nL cells slots : Nat} {ws : va_W} {ll : List (Nat × Value)} {pc : Nat} {cc : ByteArray} {own : String}
theorem pr_zret {v : Int32} (X : Cx G A p s m args c cc nL own) (hr : meth.sig.returnType = some .boolean) (hlk : meth.locks = false) (hn : narrow .boolean (.int v) = .int v) (hd : decode cc pc = .ok (.ireturn, 1)) (hH : H = s.heap) : Vr G p l e R s m args below meth c (MQ below (QcRead v) args s 0 0 (fun _ => False)) H nL 0 0 ws ll pc [.int v] := by
  intro h1 ls h4
  subst hH
  exact W.zret X.1 X.2.1 hr hn (fun t ht hW => ⟨rfl, ht⟩) (fun q hq => by cases hq) hd hlk
theorem pr_callR {y : MethodName} {cy : ByteArray} {ny n ix : Nat} {ret : Option FieldType} {rm : Room} {b ci : Nat} {fs : List Value} {q : vw_C} {r : Int32} {rest : List Value} (X : Cx G A p s m args c cc nL own) (hC : CtR l G y cy ny ret rm [.ref b] ws r) (f : MF y cy ny ret n) (hl : Cond.methodLink own ix y ∈ gW) (hi : Cond.instanceMethod y ∈ gW) (hse : Cond.selects y.cls y y ∈ gW) (hn : 0 = n) (q0 : Nat) (he : ws[q0]? = some (b, .inr (ci, fs))) (hc : pCl[ci]? = some q) (hq : q.1 = y.cls)
    (hR : rm.frames + 1 ≤ R.frames ∧ 8 + (ny + 11) + rm.locals ≤ R.locals) (hf : cells + 0 ≤ R.cells ∧ slots + 0 ≤ R.slots) (hW : (rest.map fun v => v.category).sum ≤ 8) (hd : decode cc pc = .ok (.invokevirtual ix, 3))
    (k : Vr G p l e R s m args below meth c Q H nL cells slots ws ll (pc + 3) (.int r :: rest)) : Vr G p l e R s m args below meth c Q H nL cells slots ws ll pc (.ref b :: rest) := by
  intro h1 ls h4
  have hts := X.2.2.2.2.1
  have hrc := va_recv X.2.2.2.2.2.1 h1 hc he
  rw [hq] at hrc
  refine W.callR (a := #[.ref b]) (W.runV (Ts := gW) (C := y.cls) (As := []) (rest := rest) (g := F0 m pc ls (.ref b :: rest)) ⟨X.1, X.2.1, X.2.2.1, X.2.2.2.1, hts⟩ hC.2.2 ⟨callB_of n hts f.good rfl hC.1 hC.2.1 (hts _ f.2.1) (hts _ hl) f.2.2 hR, hts _ hi, hts _ hse⟩ ⟨fun a U g mk q => ?_, hrc, fun U hU hW => ⟨rfl, by rw [hU]; exact h1, va_K.moved hW.alike X.2.2.2.2.2.1⟩⟩ rfl hn h4.1 rfl (lv_room hW) hd hf) (k h1 ls h4)
  obtain ⟨z0, z1, z2⟩ := q
  exact ⟨z0, z1, va_K.moved (u := U) (U := U.calling g mk a) (Vm.Alike.refl U.vm) z2⟩
end PRR
set_option maxRecDepth 100000 in
set_option maxHeartbeats 4000000 in
theorem r_P_allHalvesTold (l : Launch) (G : Gt) (zp zph zpt zs zsf zsu zse zsl zsr zt ztm ztr ztl ztf ztd ztdq zc zcl zclq zcr zcrq zpb zpm : Nat) (hv : Nat → Int64) (ht : Nat → Int32) (hm : Int32) (ml mr : Int64) (fi us ex : Nat → Int32) (lf rg : Nat → Int64) (md : Nat → Int32) (re fl fr : Nat → Int64) (tk cu cv kl kr : Int64) (bf mg : Nat → Int64) : CtR l G y_P_allHalvesTold b_P_allHalvesTold 2 (some .boolean) rm_P_allHalvesTold [.ref zp] [ob zp 0 [.ref zph, .ref zpt, .int hm, .long ml, .long mr, .ref zs, .ref zt, .ref zc, .ref zpb, .ref zpm], aJ G zph 6 hv, aZ G zpt 6 ht, ob zs 1 [.ref zsf, .ref zsu, .ref zse, .ref zsl, .ref zsr], aZ G zsf 16 fi, aI G zsu 16 us, aZ G zse 16 ex, aJ G zsl 16 lf, aJ G zsr 16 rg, ob zt 2 [.ref ztm, .ref ztr, .ref ztl, .ref ztf, .ref ztd, .long cu, .long cv], aZ G ztm 8 md, aJ G ztr 8 re, aJ G ztl 8 fl, aJ G ztf 8 fr, ob ztd 4 [.ref ztdq, .long tk], aJ G ztdq 16 (rkF tk), ob zc 3 [.ref zcl, .ref zcr], ob zcl 4 [.ref zclq, .long kl], aJ G zclq 16 (rkF kl), ob zcr 4 [.ref zcrq, .long kr], aJ G zcrq 16 (rkF kr), aJ G zpb 5 bf, aJ G zpm 8 mg] (f_P_allHalvesTold ht) := by
  refine CtR.of rfl rfl (by decide) (Nat.le_of_ble_eq_true rfl) ?_
  intro p e s m args below meth c X hr hlk
  refine pr_eql (ll2 := [(0, .ref zp)]) rfl ?_
  refine pr_iconst X 0 d_P_allHalvesTold_0 (by decide) ?_
  refine pr_istore_n (ll2 := [(1, .int 0), (0, .ref zp)]) X d_P_allHalvesTold_1 (by decide) rfl ?_
  refine pr_iload_n X 0 d_P_allHalvesTold_2 rfl ?_
  refine pr_bipush X 6 d_P_allHalvesTold_3 (by decide) ?_
  refine pr_icmp_ge X 25 d_P_allHalvesTold_5 rfl (fun h => absurd h (by decide)) (fun _ => ?_)
  refine pr_aload_n X 1 d_P_allHalvesTold_8 rfl ?_
  refine pr_get X 0 1 u_P_in m_116 rfl rfl (by decide) ⟨rfl, rfl, rfl⟩ rfl d_P_allHalvesTold_9 ?_
  refine pr_iload_n X 0 d_P_allHalvesTold_12 rfl ?_
  refine pr_zald X 2 rfl (by unfold vp_in; decide) d_P_allHalvesTold_13 ?_
  refine pr_topi (ht 0) rfl ?_
  refine pr_if_ne X 19 d_P_allHalvesTold_14 rfl (fun h1 => ?_) (fun h1n => ?_)
  · skip
    refine pr_iinc (ll2 := [(1, .int 1), (0, .ref zp)]) X 0 (1) d_P_allHalvesTold_19 rfl (by decide) (by decide) rfl ?_
    refine pr_goto X 2 d_P_allHalvesTold_22 rfl ?_
    refine pr_iload_n X 0 d_P_allHalvesTold_2 rfl ?_
    refine pr_bipush X 6 d_P_allHalvesTold_3 (by decide) ?_
    refine pr_icmp_ge X 25 d_P_allHalvesTold_5 rfl (fun h => absurd h (by decide)) (fun _ => ?_)
    refine pr_aload_n X 1 d_P_allHalvesTold_8 rfl ?_
    refine pr_get X 0 1 u_P_in m_116 rfl rfl (by decide) ⟨rfl, rfl, rfl⟩ rfl d_P_allHalvesTold_9 ?_
    refine pr_iload_n X 0 d_P_allHalvesTold_12 rfl ?_
    refine pr_zald X 2 rfl (by unfold vp_in; decide) d_P_allHalvesTold_13 ?_
    refine pr_topi (ht 1) rfl ?_
    refine pr_if_ne X 19 d_P_allHalvesTold_14 rfl (fun h2 => ?_) (fun h2n => ?_)
    · skip
      refine pr_iinc (ll2 := [(1, .int 2), (0, .ref zp)]) X 0 (2) d_P_allHalvesTold_19 rfl (by decide) (by decide) rfl ?_
      refine pr_goto X 2 d_P_allHalvesTold_22 rfl ?_
      refine pr_iload_n X 0 d_P_allHalvesTold_2 rfl ?_
      refine pr_bipush X 6 d_P_allHalvesTold_3 (by decide) ?_
      refine pr_icmp_ge X 25 d_P_allHalvesTold_5 rfl (fun h => absurd h (by decide)) (fun _ => ?_)
      refine pr_aload_n X 1 d_P_allHalvesTold_8 rfl ?_
      refine pr_get X 0 1 u_P_in m_116 rfl rfl (by decide) ⟨rfl, rfl, rfl⟩ rfl d_P_allHalvesTold_9 ?_
      refine pr_iload_n X 0 d_P_allHalvesTold_12 rfl ?_
      refine pr_zald X 2 rfl (by unfold vp_in; decide) d_P_allHalvesTold_13 ?_
      refine pr_topi (ht 2) rfl ?_
      refine pr_if_ne X 19 d_P_allHalvesTold_14 rfl (fun h3 => ?_) (fun h3n => ?_)
      · skip
        refine pr_iinc (ll2 := [(1, .int 3), (0, .ref zp)]) X 0 (3) d_P_allHalvesTold_19 rfl (by decide) (by decide) rfl ?_
        refine pr_goto X 2 d_P_allHalvesTold_22 rfl ?_
        refine pr_iload_n X 0 d_P_allHalvesTold_2 rfl ?_
        refine pr_bipush X 6 d_P_allHalvesTold_3 (by decide) ?_
        refine pr_icmp_ge X 25 d_P_allHalvesTold_5 rfl (fun h => absurd h (by decide)) (fun _ => ?_)
        refine pr_aload_n X 1 d_P_allHalvesTold_8 rfl ?_
        refine pr_get X 0 1 u_P_in m_116 rfl rfl (by decide) ⟨rfl, rfl, rfl⟩ rfl d_P_allHalvesTold_9 ?_
        refine pr_iload_n X 0 d_P_allHalvesTold_12 rfl ?_
        refine pr_zald X 2 rfl (by unfold vp_in; decide) d_P_allHalvesTold_13 ?_
        refine pr_topi (ht 3) rfl ?_
        refine pr_if_ne X 19 d_P_allHalvesTold_14 rfl (fun h4 => ?_) (fun h4n => ?_)
        · skip
          refine pr_iinc (ll2 := [(1, .int 4), (0, .ref zp)]) X 0 (4) d_P_allHalvesTold_19 rfl (by decide) (by decide) rfl ?_
          refine pr_goto X 2 d_P_allHalvesTold_22 rfl ?_
          refine pr_iload_n X 0 d_P_allHalvesTold_2 rfl ?_
          refine pr_bipush X 6 d_P_allHalvesTold_3 (by decide) ?_
          refine pr_icmp_ge X 25 d_P_allHalvesTold_5 rfl (fun h => absurd h (by decide)) (fun _ => ?_)
          refine pr_aload_n X 1 d_P_allHalvesTold_8 rfl ?_
          refine pr_get X 0 1 u_P_in m_116 rfl rfl (by decide) ⟨rfl, rfl, rfl⟩ rfl d_P_allHalvesTold_9 ?_
          refine pr_iload_n X 0 d_P_allHalvesTold_12 rfl ?_
          refine pr_zald X 2 rfl (by unfold vp_in; decide) d_P_allHalvesTold_13 ?_
          refine pr_topi (ht 4) rfl ?_
          refine pr_if_ne X 19 d_P_allHalvesTold_14 rfl (fun h5 => ?_) (fun h5n => ?_)
          · skip
            refine pr_iinc (ll2 := [(1, .int 5), (0, .ref zp)]) X 0 (5) d_P_allHalvesTold_19 rfl (by decide) (by decide) rfl ?_
            refine pr_goto X 2 d_P_allHalvesTold_22 rfl ?_
            refine pr_iload_n X 0 d_P_allHalvesTold_2 rfl ?_
            refine pr_bipush X 6 d_P_allHalvesTold_3 (by decide) ?_
            refine pr_icmp_ge X 25 d_P_allHalvesTold_5 rfl (fun h => absurd h (by decide)) (fun _ => ?_)
            refine pr_aload_n X 1 d_P_allHalvesTold_8 rfl ?_
            refine pr_get X 0 1 u_P_in m_116 rfl rfl (by decide) ⟨rfl, rfl, rfl⟩ rfl d_P_allHalvesTold_9 ?_
            refine pr_iload_n X 0 d_P_allHalvesTold_12 rfl ?_
            refine pr_zald X 2 rfl (by unfold vp_in; decide) d_P_allHalvesTold_13 ?_
            refine pr_topi (ht 5) rfl ?_
            refine pr_if_ne X 19 d_P_allHalvesTold_14 rfl (fun h6 => ?_) (fun h6n => ?_)
            · skip
              refine pr_iinc (ll2 := [(1, .int 6), (0, .ref zp)]) X 0 (6) d_P_allHalvesTold_19 rfl (by decide) (by decide) rfl ?_
              refine pr_goto X 2 d_P_allHalvesTold_22 rfl ?_
              refine pr_iload_n X 0 d_P_allHalvesTold_2 rfl ?_
              refine pr_bipush X 6 d_P_allHalvesTold_3 (by decide) ?_
              refine pr_icmp_ge X 25 d_P_allHalvesTold_5 rfl (fun _ => ?_) (fun h => absurd (by decide) h)
              refine pr_iconst X 1 d_P_allHalvesTold_25 (by decide) ?_
              have er : f_P_allHalvesTold ht = 1 := by simp only [f_P_allHalvesTold, if_neg h1, if_neg h2, if_neg h3, if_neg h4, if_neg h5, if_neg h6]
              rw [er]
              exact pr_zret X hr hlk rfl d_P_allHalvesTold_26 rfl
            · skip
              refine pr_iconst X 0 d_P_allHalvesTold_17 (by decide) ?_
              have er : f_P_allHalvesTold ht = 0 := by simp only [f_P_allHalvesTold, if_neg h1, if_neg h2, if_neg h3, if_neg h4, if_neg h5, if_pos h6n]
              rw [er]
              exact pr_zret X hr hlk rfl d_P_allHalvesTold_18 rfl
          · skip
            refine pr_iconst X 0 d_P_allHalvesTold_17 (by decide) ?_
            have er : f_P_allHalvesTold ht = 0 := by simp only [f_P_allHalvesTold, if_neg h1, if_neg h2, if_neg h3, if_neg h4, if_pos h5n]
            rw [er]
            exact pr_zret X hr hlk rfl d_P_allHalvesTold_18 rfl
        · skip
          refine pr_iconst X 0 d_P_allHalvesTold_17 (by decide) ?_
          have er : f_P_allHalvesTold ht = 0 := by simp only [f_P_allHalvesTold, if_neg h1, if_neg h2, if_neg h3, if_pos h4n]
          rw [er]
          exact pr_zret X hr hlk rfl d_P_allHalvesTold_18 rfl
      · skip
        refine pr_iconst X 0 d_P_allHalvesTold_17 (by decide) ?_
        have er : f_P_allHalvesTold ht = 0 := by simp only [f_P_allHalvesTold, if_neg h1, if_neg h2, if_pos h3n]
        rw [er]
        exact pr_zret X hr hlk rfl d_P_allHalvesTold_18 rfl
    · skip
      refine pr_iconst X 0 d_P_allHalvesTold_17 (by decide) ?_
      have er : f_P_allHalvesTold ht = 0 := by simp only [f_P_allHalvesTold, if_neg h1, if_pos h2n]
      rw [er]
      exact pr_zret X hr hlk rfl d_P_allHalvesTold_18 rfl
  · skip
    refine pr_iconst X 0 d_P_allHalvesTold_17 (by decide) ?_
    have er : f_P_allHalvesTold ht = 0 := by simp only [f_P_allHalvesTold, if_pos h1n]
    rw [er]
    exact pr_zret X hr hlk rfl d_P_allHalvesTold_18 rfl
abbrev rmT_P_component_I : Room := { frames := 6, cells := 1, slots := 6, locals := 144 }
theorem d_P_component_18 : decode b_P_component 18 = .ok (.new 44, 3) := by decide +kernel
theorem d_P_component_21 : decode b_P_component 21 = .ok (.dup, 1) := by decide +kernel
theorem d_P_component_22 : decode b_P_component 22 = .ok (.ldc 46, 2) := by decide +kernel
theorem d_P_component_24 : decode b_P_component 24 = .ok (.invokespecial 48, 3) := by decide +kernel
theorem d_P_component_27 : decode b_P_component 27 = .ok (.athrow, 1) := by decide +kernel
set_option maxRecDepth 100000 in
set_option maxHeartbeats 4000000 in
theorem t_P_component_I (l : Launch) (hfl : l.flags = pinnedFlags ++ [noTraceFlag]) (G : Gt) (zp zph zpt zs zsf zsu zse zsl zsr zt ztm ztr ztl ztf ztd ztdq zc zcl zclq zcr zcrq zpb zpm : Nat) (hv : Nat → Int64) (ht : Nat → Int32) (hm : Int32) (ml mr : Int64) (fi us ex : Nat → Int32) (lf rg : Nat → Int64) (md : Nat → Int32) (re fl fr : Nat → Int64) (tk cu cv kl kr : Int64) (bf mg : Nat → Int64) (k h : Int32) (v : Int64) (hbad : ¬ k < 0 → ¬ 3 ≤ k → ¬ h < 0 → h ≤ 1 → False) : CtT l G y_P_component b_P_component 5 none rmT_P_component_I Ex [.ref zp, .int k, .int h, .long v] [ob zp 0 [.ref zph, .ref zpt, .int hm, .long ml, .long mr, .ref zs, .ref zt, .ref zc, .ref zpb, .ref zpm], aJ G zph 6 hv, aZ G zpt 6 ht, ob zs 1 [.ref zsf, .ref zsu, .ref zse, .ref zsl, .ref zsr], aZ G zsf 16 fi, aI G zsu 16 us, aZ G zse 16 ex, aJ G zsl 16 lf, aJ G zsr 16 rg, ob zt 2 [.ref ztm, .ref ztr, .ref ztl, .ref ztf, .ref ztd, .long cu, .long cv], aZ G ztm 8 md, aJ G ztr 8 re, aJ G ztl 8 fl, aJ G ztf 8 fr, ob ztd 4 [.ref ztdq, .long tk], aJ G ztdq 16 (rkF tk), ob zc 3 [.ref zcl, .ref zcr], ob zcl 4 [.ref zclq, .long kl], aJ G zclq 16 (rkF kl), ob zcr 4 [.ref zcrq, .long kr], aJ G zcrq 16 (rkF kr), aJ G zpb 5 bf, aJ G zpm 8 mg] exI := by
  refine CtT.of Ex_stb rfl rfl (by decide) (Nat.le_of_ble_eq_true rfl) ?_
  intro p e s m args below meth c X hE hlk hout
  refine pr_eql (ll2 := [(0, .ref zp), (1, .int k), (2, .int h), (3, .long v)]) rfl ?_
  refine pr_iload_n X 1 d_P_component_0 rfl ?_
  refine pr_if_lt X 18 d_P_component_1 rfl (fun h1 => ?_) (fun h1n => ?_)
  · skip
    exact pr_throw X hfl hlk hE hout (by decide) own_I m_450 m_451 m_10 hE.2.2.1 d_P_component_18 d_P_component_21 d_P_component_22 d_P_component_24 d_P_component_27 (by decide)
  · skip
    refine pr_iload_n X 1 d_P_component_4 rfl ?_
    refine pr_iconst X 3 d_P_component_5 (by decide) ?_
    refine pr_icmp_ge X 18 d_P_component_6 rfl (fun h2 => ?_) (fun h2n => ?_)
    · skip
      exact pr_throw X hfl hlk hE hout (by decide) own_I m_450 m_451 m_10 hE.2.2.1 d_P_component_18 d_P_component_21 d_P_component_22 d_P_component_24 d_P_component_27 (by decide)
    · skip
      refine pr_iload_n X 2 d_P_component_9 rfl ?_
      refine pr_if_lt X 18 d_P_component_10 rfl (fun h3 => ?_) (fun h3n => ?_)
      · skip
        exact pr_throw X hfl hlk hE hout (by decide) own_I m_450 m_451 m_10 hE.2.2.1 d_P_component_18 d_P_component_21 d_P_component_22 d_P_component_24 d_P_component_27 (by decide)
      · skip
        refine pr_iload_n X 2 d_P_component_13 rfl ?_
        refine pr_iconst X 1 d_P_component_14 (by decide) ?_
        refine pr_icmp_le X 28 d_P_component_15 rfl (fun h4 => ?_) (fun h4n => ?_)
        · skip
          exact (hbad h1n h2n h3n h4).elim
        · skip
          exact pr_throw X hfl hlk hE hout (by decide) own_I m_450 m_451 m_10 hE.2.2.1 d_P_component_18 d_P_component_21 d_P_component_22 d_P_component_24 d_P_component_27 (by decide)
abbrev rmT_P_component_S : Room := { frames := 6, cells := 1, slots := 6, locals := 144 }
theorem d_P_component_35 : decode b_P_component 35 = .ok (.new 55, 3) := by decide +kernel
theorem d_P_component_38 : decode b_P_component 38 = .ok (.dup, 1) := by decide +kernel
theorem d_P_component_39 : decode b_P_component 39 = .ok (.ldc 57, 2) := by decide +kernel
theorem d_P_component_41 : decode b_P_component 41 = .ok (.invokespecial 59, 3) := by decide +kernel
theorem d_P_component_44 : decode b_P_component 44 = .ok (.athrow, 1) := by decide +kernel
set_option maxRecDepth 100000 in
set_option maxHeartbeats 4000000 in
theorem t_P_component_S (l : Launch) (hfl : l.flags = pinnedFlags ++ [noTraceFlag]) (G : Gt) (zp zph zpt zs zsf zsu zse zsl zsr zt ztm ztr ztl ztf ztd ztdq zc zcl zclq zcr zcrq zpb zpm : Nat) (hv : Nat → Int64) (ht : Nat → Int32) (hm : Int32) (ml mr : Int64) (fi us ex : Nat → Int32) (lf rg : Nat → Int64) (md : Nat → Int32) (re fl fr : Nat → Int64) (tk cu cv kl kr : Int64) (bf mg : Nat → Int64) (k h : Int32) (v : Int64) (hk : ¬ k < 0) (hk3 : ¬ 3 ≤ k) (hh : ¬ h < 0) (hh1 : h ≤ 1) (h0 : ¬ hm = 0) : CtT l G y_P_component b_P_component 5 none rmT_P_component_S Ex [.ref zp, .int k, .int h, .long v] [ob zp 0 [.ref zph, .ref zpt, .int hm, .long ml, .long mr, .ref zs, .ref zt, .ref zc, .ref zpb, .ref zpm], aJ G zph 6 hv, aZ G zpt 6 ht, ob zs 1 [.ref zsf, .ref zsu, .ref zse, .ref zsl, .ref zsr], aZ G zsf 16 fi, aI G zsu 16 us, aZ G zse 16 ex, aJ G zsl 16 lf, aJ G zsr 16 rg, ob zt 2 [.ref ztm, .ref ztr, .ref ztl, .ref ztf, .ref ztd, .long cu, .long cv], aZ G ztm 8 md, aJ G ztr 8 re, aJ G ztl 8 fl, aJ G ztf 8 fr, ob ztd 4 [.ref ztdq, .long tk], aJ G ztdq 16 (rkF tk), ob zc 3 [.ref zcl, .ref zcr], ob zcl 4 [.ref zclq, .long kl], aJ G zclq 16 (rkF kl), ob zcr 4 [.ref zcrq, .long kr], aJ G zcrq 16 (rkF kr), aJ G zpb 5 bf, aJ G zpm 8 mg] exS := by
  refine CtT.of Ex_stb rfl rfl (by decide) (Nat.le_of_ble_eq_true rfl) ?_
  intro p e s m args below meth c X hE hlk hout
  refine pr_eql (ll2 := [(0, .ref zp), (1, .int k), (2, .int h), (3, .long v)]) rfl ?_
  refine pr_iload_n X 1 d_P_component_0 rfl ?_
  refine pr_if_lt X 18 d_P_component_1 rfl (fun h => absurd h hk) (fun _ => ?_)
  refine pr_iload_n X 1 d_P_component_4 rfl ?_
  refine pr_iconst X 3 d_P_component_5 (by decide) ?_
  refine pr_icmp_ge X 18 d_P_component_6 rfl (fun h => absurd h hk3) (fun _ => ?_)
  refine pr_iload_n X 2 d_P_component_9 rfl ?_
  refine pr_if_lt X 18 d_P_component_10 rfl (fun h => absurd h hh) (fun _ => ?_)
  refine pr_iload_n X 2 d_P_component_13 rfl ?_
  refine pr_iconst X 1 d_P_component_14 (by decide) ?_
  refine pr_icmp_le X 28 d_P_component_15 rfl (fun _ => ?_) (fun h => absurd hh1 h)
  refine pr_aload_n X 0 d_P_component_28 rfl ?_
  refine pr_get X 0 2 u_P_in m_117 rfl rfl (by decide) ⟨rfl, rfl, rfl⟩ rfl d_P_component_29 ?_
  refine pr_if_eq X 45 d_P_component_32 rfl (fun h => absurd h h0) (fun _ => ?_)
  exact pr_throw X hfl hlk hE hout (by decide) own_S m_517 m_518 m_11 hE.2.2.2.1 d_P_component_35 d_P_component_38 d_P_component_39 d_P_component_41 d_P_component_44 (by decide)
abbrev rmT_P_poke_I : Room := { frames := 6, cells := 1, slots := 6, locals := 144 }
theorem d_P_poke_9 : decode b_P_poke 9 = .ok (.new 44, 3) := by decide +kernel
theorem d_P_poke_12 : decode b_P_poke 12 = .ok (.dup, 1) := by decide +kernel
theorem d_P_poke_13 : decode b_P_poke 13 = .ok (.ldc 85, 2) := by decide +kernel
theorem d_P_poke_15 : decode b_P_poke 15 = .ok (.invokespecial 48, 3) := by decide +kernel
theorem d_P_poke_18 : decode b_P_poke 18 = .ok (.athrow, 1) := by decide +kernel
set_option maxRecDepth 100000 in
set_option maxHeartbeats 4000000 in
theorem t_P_poke_I (l : Launch) (hfl : l.flags = pinnedFlags ++ [noTraceFlag]) (G : Gt) (zp zph zpt zs zsf zsu zse zsl zsr zt ztm ztr ztl ztf ztd ztdq zc zcl zclq zcr zcrq zpb zpm : Nat) (hv : Nat → Int64) (ht : Nat → Int32) (hm : Int32) (ml mr : Int64) (fi us ex : Nat → Int32) (lf rg : Nat → Int64) (md : Nat → Int32) (re fl fr : Nat → Int64) (tk cu cv kl kr : Int64) (bf mg : Nat → Int64) (k : Int32) (v : Int64) (hbad : ¬ k < 0 → k < 5 → False) : CtT l G y_P_poke b_P_poke 4 none rmT_P_poke_I Ex [.ref zp, .int k, .long v] [ob zp 0 [.ref zph, .ref zpt, .int hm, .long ml, .long mr, .ref zs, .ref zt, .ref zc, .ref zpb, .ref zpm], aJ G zph 6 hv, aZ G zpt 6 ht, ob zs 1 [.ref zsf, .ref zsu, .ref zse, .ref zsl, .ref zsr], aZ G zsf 16 fi, aI G zsu 16 us, aZ G zse 16 ex, aJ G zsl 16 lf, aJ G zsr 16 rg, ob zt 2 [.ref ztm, .ref ztr, .ref ztl, .ref ztf, .ref ztd, .long cu, .long cv], aZ G ztm 8 md, aJ G ztr 8 re, aJ G ztl 8 fl, aJ G ztf 8 fr, ob ztd 4 [.ref ztdq, .long tk], aJ G ztdq 16 (rkF tk), ob zc 3 [.ref zcl, .ref zcr], ob zcl 4 [.ref zclq, .long kl], aJ G zclq 16 (rkF kl), ob zcr 4 [.ref zcrq, .long kr], aJ G zcrq 16 (rkF kr), aJ G zpb 5 bf, aJ G zpm 8 mg] exI := by
  refine CtT.of Ex_stb rfl rfl (by decide) (Nat.le_of_ble_eq_true rfl) ?_
  intro p e s m args below meth c X hE hlk hout
  refine pr_eql (ll2 := [(0, .ref zp), (1, .int k), (2, .long v)]) rfl ?_
  refine pr_iload_n X 1 d_P_poke_0 rfl ?_
  refine pr_if_lt X 9 d_P_poke_1 rfl (fun h1 => ?_) (fun h1n => ?_)
  · skip
    exact pr_throw X hfl hlk hE hout (by decide) own_I m_450 m_451 m_10 hE.2.2.2.2.2.1 d_P_poke_9 d_P_poke_12 d_P_poke_13 d_P_poke_15 d_P_poke_18 (by decide)
  · skip
    refine pr_iload_n X 1 d_P_poke_4 rfl ?_
    refine pr_iconst X 5 d_P_poke_5 (by decide) ?_
    refine pr_icmp_lt X 19 d_P_poke_6 rfl (fun h2 => ?_) (fun h2n => ?_)
    · skip
      exact (hbad h1n h2).elim
    · skip
      exact pr_throw X hfl hlk hE hout (by decide) own_I m_450 m_451 m_10 hE.2.2.2.2.2.1 d_P_poke_9 d_P_poke_12 d_P_poke_13 d_P_poke_15 d_P_poke_18 (by decide)
abbrev rmT_P_peek_I : Room := { frames := 6, cells := 1, slots := 6, locals := 144 }
theorem d_P_peek_9 : decode b_P_peek 9 = .ok (.new 44, 3) := by decide +kernel
theorem d_P_peek_12 : decode b_P_peek 12 = .ok (.dup, 1) := by decide +kernel
theorem d_P_peek_13 : decode b_P_peek 13 = .ok (.ldc 85, 2) := by decide +kernel
theorem d_P_peek_15 : decode b_P_peek 15 = .ok (.invokespecial 48, 3) := by decide +kernel
theorem d_P_peek_18 : decode b_P_peek 18 = .ok (.athrow, 1) := by decide +kernel
set_option maxRecDepth 100000 in
set_option maxHeartbeats 4000000 in
theorem t_P_peek_I (l : Launch) (hfl : l.flags = pinnedFlags ++ [noTraceFlag]) (G : Gt) (zp zph zpt zs zsf zsu zse zsl zsr zt ztm ztr ztl ztf ztd ztdq zc zcl zclq zcr zcrq zpb zpm : Nat) (hv : Nat → Int64) (ht : Nat → Int32) (hm : Int32) (ml mr : Int64) (fi us ex : Nat → Int32) (lf rg : Nat → Int64) (md : Nat → Int32) (re fl fr : Nat → Int64) (tk cu cv kl kr : Int64) (bf mg : Nat → Int64) (k : Int32) (hbad : ¬ k < 0 → k < 5 → False) : CtT l G y_P_peek b_P_peek 2 (some .long) rmT_P_peek_I Ex [.ref zp, .int k] [ob zp 0 [.ref zph, .ref zpt, .int hm, .long ml, .long mr, .ref zs, .ref zt, .ref zc, .ref zpb, .ref zpm], aJ G zph 6 hv, aZ G zpt 6 ht, ob zs 1 [.ref zsf, .ref zsu, .ref zse, .ref zsl, .ref zsr], aZ G zsf 16 fi, aI G zsu 16 us, aZ G zse 16 ex, aJ G zsl 16 lf, aJ G zsr 16 rg, ob zt 2 [.ref ztm, .ref ztr, .ref ztl, .ref ztf, .ref ztd, .long cu, .long cv], aZ G ztm 8 md, aJ G ztr 8 re, aJ G ztl 8 fl, aJ G ztf 8 fr, ob ztd 4 [.ref ztdq, .long tk], aJ G ztdq 16 (rkF tk), ob zc 3 [.ref zcl, .ref zcr], ob zcl 4 [.ref zclq, .long kl], aJ G zclq 16 (rkF kl), ob zcr 4 [.ref zcrq, .long kr], aJ G zcrq 16 (rkF kr), aJ G zpb 5 bf, aJ G zpm 8 mg] exI := by
  refine CtT.of Ex_stb rfl rfl (by decide) (Nat.le_of_ble_eq_true rfl) ?_
  intro p e s m args below meth c X hE hlk hout
  refine pr_eql (ll2 := [(0, .ref zp), (1, .int k)]) rfl ?_
  refine pr_iload_n X 1 d_P_peek_0 rfl ?_
  refine pr_if_lt X 9 d_P_peek_1 rfl (fun h1 => ?_) (fun h1n => ?_)
  · skip
    exact pr_throw X hfl hlk hE hout (by decide) own_I m_450 m_451 m_10 hE.2.2.2.2.2.1 d_P_peek_9 d_P_peek_12 d_P_peek_13 d_P_peek_15 d_P_peek_18 (by decide)
  · skip
    refine pr_iload_n X 1 d_P_peek_4 rfl ?_
    refine pr_iconst X 5 d_P_peek_5 (by decide) ?_
    refine pr_icmp_lt X 19 d_P_peek_6 rfl (fun h2 => ?_) (fun h2n => ?_)
    · skip
      exact (hbad h1n h2).elim
    · skip
      exact pr_throw X hfl hlk hE hout (by decide) own_I m_450 m_451 m_10 hE.2.2.2.2.2.1 d_P_peek_9 d_P_peek_12 d_P_peek_13 d_P_peek_15 d_P_peek_18 (by decide)
abbrev rmT_P_message_I : Room := { frames := 6, cells := 1, slots := 6, locals := 144 }
theorem d_P_message_10 : decode b_P_message 10 = .ok (.new 44, 3) := by decide +kernel
theorem d_P_message_13 : decode b_P_message 13 = .ok (.dup, 1) := by decide +kernel
theorem d_P_message_14 : decode b_P_message 14 = .ok (.ldc 87, 2) := by decide +kernel
theorem d_P_message_16 : decode b_P_message 16 = .ok (.invokespecial 48, 3) := by decide +kernel
theorem d_P_message_19 : decode b_P_message 19 = .ok (.athrow, 1) := by decide +kernel
set_option maxRecDepth 100000 in
set_option maxHeartbeats 4000000 in
theorem t_P_message_I (l : Launch) (hfl : l.flags = pinnedFlags ++ [noTraceFlag]) (G : Gt) (zp zph zpt zs zsf zsu zse zsl zsr zt ztm ztr ztl ztf ztd ztdq zc zcl zclq zcr zcrq zpb zpm : Nat) (hv : Nat → Int64) (ht : Nat → Int32) (hm : Int32) (ml mr : Int64) (fi us ex : Nat → Int32) (lf rg : Nat → Int64) (md : Nat → Int32) (re fl fr : Nat → Int64) (tk cu cv kl kr : Int64) (bf mg : Nat → Int64) (k : Int32) (v : Int64) (hbad : ¬ k < 0 → k < 8 → False) : CtT l G y_P_message b_P_message 4 none rmT_P_message_I Ex [.ref zp, .int k, .long v] [ob zp 0 [.ref zph, .ref zpt, .int hm, .long ml, .long mr, .ref zs, .ref zt, .ref zc, .ref zpb, .ref zpm], aJ G zph 6 hv, aZ G zpt 6 ht, ob zs 1 [.ref zsf, .ref zsu, .ref zse, .ref zsl, .ref zsr], aZ G zsf 16 fi, aI G zsu 16 us, aZ G zse 16 ex, aJ G zsl 16 lf, aJ G zsr 16 rg, ob zt 2 [.ref ztm, .ref ztr, .ref ztl, .ref ztf, .ref ztd, .long cu, .long cv], aZ G ztm 8 md, aJ G ztr 8 re, aJ G ztl 8 fl, aJ G ztf 8 fr, ob ztd 4 [.ref ztdq, .long tk], aJ G ztdq 16 (rkF tk), ob zc 3 [.ref zcl, .ref zcr], ob zcl 4 [.ref zclq, .long kl], aJ G zclq 16 (rkF kl), ob zcr 4 [.ref zcrq, .long kr], aJ G zcrq 16 (rkF kr), aJ G zpb 5 bf, aJ G zpm 8 mg] exI := by
  refine CtT.of Ex_stb rfl rfl (by decide) (Nat.le_of_ble_eq_true rfl) ?_
  intro p e s m args below meth c X hE hlk hout
  refine pr_eql (ll2 := [(0, .ref zp), (1, .int k), (2, .long v)]) rfl ?_
  refine pr_iload_n X 1 d_P_message_0 rfl ?_
  refine pr_if_lt X 10 d_P_message_1 rfl (fun h1 => ?_) (fun h1n => ?_)
  · skip
    exact pr_throw X hfl hlk hE hout (by decide) own_I m_450 m_451 m_10 hE.2.2.2.2.2.2 d_P_message_10 d_P_message_13 d_P_message_14 d_P_message_16 d_P_message_19 (by decide)
  · skip
    refine pr_iload_n X 1 d_P_message_4 rfl ?_
    refine pr_bipush X 8 d_P_message_5 (by decide) ?_
    refine pr_icmp_lt X 20 d_P_message_7 rfl (fun h2 => ?_) (fun h2n => ?_)
    · skip
      exact (hbad h1n h2).elim
    · skip
      exact pr_throw X hfl hlk hE hout (by decide) own_I m_450 m_451 m_10 hE.2.2.2.2.2.2 d_P_message_10 d_P_message_13 d_P_message_14 d_P_message_16 d_P_message_19 (by decide)
abbrev rmT_P_seal_S : Room := { frames := 6, cells := 1, slots := 6, locals := 144 }
theorem d_P_seal_14 : decode b_P_seal 14 = .ok (.new 55, 3) := by decide +kernel
theorem d_P_seal_17 : decode b_P_seal 17 = .ok (.dup, 1) := by decide +kernel
theorem d_P_seal_18 : decode b_P_seal 18 = .ok (.ldc 64, 2) := by decide +kernel
theorem d_P_seal_20 : decode b_P_seal 20 = .ok (.invokespecial 59, 3) := by decide +kernel
theorem d_P_seal_23 : decode b_P_seal 23 = .ok (.athrow, 1) := by decide +kernel
set_option maxRecDepth 100000 in
set_option maxHeartbeats 4000000 in
theorem t_P_seal_S (l : Launch) (hfl : l.flags = pinnedFlags ++ [noTraceFlag]) (G : Gt) (zp zph zpt zs zsf zsu zse zsl zsr zt ztm ztr ztl ztf ztd ztdq zc zcl zclq zcr zcrq zpb zpm : Nat) (hv : Nat → Int64) (ht : Nat → Int32) (hm : Int32) (ml mr : Int64) (fi us ex : Nat → Int32) (lf rg : Nat → Int64) (md : Nat → Int32) (re fl fr : Nat → Int64) (tk cu cv kl kr : Int64) (bf mg : Nat → Int64)  (hbad : hm = 0 → ¬ f_P_allHalvesTold ht = 0 → False) : CtT l G y_P_seal b_P_seal 1 (some .int) rmT_P_seal_S Ex [.ref zp] [ob zp 0 [.ref zph, .ref zpt, .int hm, .long ml, .long mr, .ref zs, .ref zt, .ref zc, .ref zpb, .ref zpm], aJ G zph 6 hv, aZ G zpt 6 ht, ob zs 1 [.ref zsf, .ref zsu, .ref zse, .ref zsl, .ref zsr], aZ G zsf 16 fi, aI G zsu 16 us, aZ G zse 16 ex, aJ G zsl 16 lf, aJ G zsr 16 rg, ob zt 2 [.ref ztm, .ref ztr, .ref ztl, .ref ztf, .ref ztd, .long cu, .long cv], aZ G ztm 8 md, aJ G ztr 8 re, aJ G ztl 8 fl, aJ G ztf 8 fr, ob ztd 4 [.ref ztdq, .long tk], aJ G ztdq 16 (rkF tk), ob zc 3 [.ref zcl, .ref zcr], ob zcl 4 [.ref zclq, .long kl], aJ G zclq 16 (rkF kl), ob zcr 4 [.ref zcrq, .long kr], aJ G zcrq 16 (rkF kr), aJ G zpb 5 bf, aJ G zpm 8 mg] exS := by
  refine CtT.of Ex_stb rfl rfl (by decide) (Nat.le_of_ble_eq_true rfl) ?_
  intro p e s m args below meth c X hE hlk hout
  refine pr_eql (ll2 := [(0, .ref zp)]) rfl ?_
  refine pr_aload_n X 0 d_P_seal_0 rfl ?_
  refine pr_get X 0 2 u_P_in m_117 rfl rfl (by decide) ⟨rfl, rfl, rfl⟩ rfl d_P_seal_1 ?_
  refine pr_if_ne X 14 d_P_seal_4 rfl (fun h1 => ?_) (fun h1n => ?_)
  · skip
    exact pr_throw X hfl hlk hE hout (by decide) own_S m_517 m_518 m_11 hE.2.2.2.2.1 d_P_seal_14 d_P_seal_17 d_P_seal_18 d_P_seal_20 d_P_seal_23 (by decide)
  · skip
    refine pr_aload_n X 0 d_P_seal_7 rfl ?_
    refine pr_callR X (r_P_allHalvesTold l G zp zph zpt zs zsf zsu zse zsl zsr zt ztm ztr ztl ztf ztd ztdq zc zcl zclq zcr zcrq zpb zpm hv ht hm ml mr fi us ex lf rg md re fl fr tk cu cv kl kr bf mg) mf_P_allHalvesTold m_540 m_542 ms_11 rfl 0 rfl rfl rfl (by decide) (by decide) (Nat.le_of_ble_eq_true rfl) d_P_seal_8 ?_
    refine pr_if_ne X 24 d_P_seal_11 rfl (fun h2 => ?_) (fun h2n => ?_)
    · skip
      exact (hbad h1n h2).elim
    · skip
      exact pr_throw X hfl hlk hE hout (by decide) own_S m_517 m_518 m_11 hE.2.2.2.2.1 d_P_seal_14 d_P_seal_17 d_P_seal_18 d_P_seal_20 d_P_seal_23 (by decide)
