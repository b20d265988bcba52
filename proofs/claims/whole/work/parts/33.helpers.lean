def Nk (_ : Nat → Prop) (U : State) : Prop := ∀ c1 c2, U.vm.findClass exI = some c1 → U.vm.findClass exS = some c2 → U.vm.assignable c2 c1 = false
theorem Nk_stb : Stb Nk :=
  ⟨fun _ _ _ _ h hW _ _ c1 c2 h1 h2 => by rw [hW.alike.findClass] at h1 h2; rw [hW.alike.assignable]; exact h c1 c2 h1 h2, fun _ _ _ h _ e2 c1 c2 h1 h2 => by rw [e2] at h1 h2 ⊢; exact h c1 c2 h1 h2⟩
abbrev Eh : (Nat → Prop) → State → Prop := fun A U => Sx A U ∧ Ex A U ∧ Nk A U
theorem Eh_stb : Stb Eh := Sx_stb.and (Ex_stb.and Nk_stb)
theorem tab1 {l : List ExceptionTableEntry} {a b c d : Nat} (h : l.map (fun h => (h.startPc, h.endPc, h.handlerPc, h.catchType)) = [(a, b, c, d)]) : l = [⟨a, b, c, d⟩] := by
  match l, h with
  | [x], h =>
    obtain ⟨x1, x2, x3, x4⟩ := x
    simp only [List.map_cons, List.map_nil, List.cons.injEq, Prod.mk.injEq, and_true] at h
    obtain ⟨rfl, rfl, rfl, rfl⟩ := h
    rfl
theorem tab2 {l : List ExceptionTableEntry} {a b c d a' b' c' d' : Nat} (h : l.map (fun h => (h.startPc, h.endPc, h.handlerPc, h.catchType)) = [(a, b, c, d), (a', b', c', d')]) : l = [⟨a, b, c, d⟩, ⟨a', b', c', d'⟩] := by
  match l, h with
  | [x, y], h =>
    obtain ⟨x1, x2, x3, x4⟩ := x
    obtain ⟨y1, y2, y3, y4⟩ := y
    simp only [List.map_cons, List.map_nil, List.cons.injEq, Prod.mk.injEq, and_true] at h
    obtain ⟨⟨rfl, rfl, rfl, rfl⟩, rfl, rfl, rfl, rfl⟩ := h
    rfl
def lc_r (hm k h : Int32) : Int32 := if k < 0 then 1 else if 3 ≤ k then 1 else if h < 0 then 1 else if h ≤ 1 then (if hm = 0 then 0 else 2) else 1
def lc_v (hv : Nat → Int64) (hm k h : Int32) (v : Int64) : Nat → Int64 := if lc_r hm k h = 0 then vp_updL hv (2 * k + h).toNatClampNeg v else hv
def lc_t (ht : Nat → Int32) (hm k h : Int32) : Nat → Int32 := if lc_r hm k h = 0 then upd ht (2 * k + h).toNatClampNeg 1 else ht
abbrev rm_L_component : Room := { frames := 7, cells := 1, slots := 6, locals := 168 }
theorem d_L_component_0 : decode b_L_component 0 = .ok (.aload_n 0, 1) := by decide +kernel
theorem d_L_component_1 : decode b_L_component 1 = .ok (.iload_n 1, 1) := by decide +kernel
theorem d_L_component_2 : decode b_L_component 2 = .ok (.iload_n 2, 1) := by decide +kernel
theorem d_L_component_3 : decode b_L_component 3 = .ok (.lload_n 3, 1) := by decide +kernel
theorem d_L_component_4 : decode b_L_component 4 = .ok (.invokevirtual 7, 3) := by decide +kernel
theorem d_L_component_7 : decode b_L_component 7 = .ok (.goto 11, 3) := by decide +kernel
theorem d_L_component_10 : decode b_L_component 10 = .ok (.astore 5, 2) := by decide +kernel
theorem d_L_component_12 : decode b_L_component 12 = .ok (.iconst 1, 1) := by decide +kernel
theorem d_L_component_13 : decode b_L_component 13 = .ok (.ireturn, 1) := by decide +kernel
theorem d_L_component_14 : decode b_L_component 14 = .ok (.astore 5, 2) := by decide +kernel
theorem d_L_component_16 : decode b_L_component 16 = .ok (.iconst 2, 1) := by decide +kernel
theorem d_L_component_17 : decode b_L_component 17 = .ok (.ireturn, 1) := by decide +kernel
theorem d_L_component_18 : decode b_L_component 18 = .ok (.iconst 0, 1) := by decide +kernel
theorem d_L_component_19 : decode b_L_component 19 = .ok (.ireturn, 1) := by decide +kernel
set_option maxRecDepth 100000 in
set_option maxHeartbeats 4000000 in
theorem c_L_component (l : Launch) (hfl : l.flags = pinnedFlags ++ [noTraceFlag]) (G : Gt) (zp zph zpt zs zsf zsu zse zsl zsr zt ztm ztr ztl ztf ztd ztdq zc zcl zclq zcr zcrq zpb zpm : Nat) (hv : Nat → Int64) (ht : Nat → Int32) (hm : Int32) (ml mr : Int64) (fi us ex : Nat → Int32) (lf rg : Nat → Int64) (md : Nat → Int32) (re fl fr : Nat → Int64) (tk cu cv kl kr : Int64) (bf mg : Nat → Int64) (k h : Int32) (v : Int64) : CtH l G y_L_component b_L_component 6 [(0, 7, 10, 13), (0, 7, 14, 15)] rm_L_component Eh [.ref zp, .int k, .int h, .long v] [ob zp 0 [.ref zph, .ref zpt, .int hm, .long ml, .long mr, .ref zs, .ref zt, .ref zc, .ref zpb, .ref zpm], aJ G zph 6 hv, aZ G zpt 6 ht, ob zs 1 [.ref zsf, .ref zsu, .ref zse, .ref zsl, .ref zsr], aZ G zsf 16 fi, aI G zsu 16 us, aZ G zse 16 ex, aJ G zsl 16 lf, aJ G zsr 16 rg, ob zt 2 [.ref ztm, .ref ztr, .ref ztl, .ref ztf, .ref ztd, .long cu, .long cv], aZ G ztm 8 md, aJ G ztr 8 re, aJ G ztl 8 fl, aJ G ztf 8 fr, ob ztd 4 [.ref ztdq, .long tk], aJ G ztdq 16 (rkF tk), ob zc 3 [.ref zcl, .ref zcr], ob zcl 4 [.ref zclq, .long kl], aJ G zclq 16 (rkF kl), ob zcr 4 [.ref zcrq, .long kr], aJ G zcrq 16 (rkF kr), aJ G zpb 5 bf, aJ G zpm 8 mg] (fun r (_ : Unit) => r = lc_r hm k h) (fun _ => [ob zp 0 [.ref zph, .ref zpt, .int hm, .long ml, .long mr, .ref zs, .ref zt, .ref zc, .ref zpb, .ref zpm], aJ G zph 6 (lc_v hv hm k h v), aZ G zpt 6 (lc_t ht hm k h), ob zs 1 [.ref zsf, .ref zsu, .ref zse, .ref zsl, .ref zsr], aZ G zsf 16 fi, aI G zsu 16 us, aZ G zse 16 ex, aJ G zsl 16 lf, aJ G zsr 16 rg, ob zt 2 [.ref ztm, .ref ztr, .ref ztl, .ref ztf, .ref ztd, .long cu, .long cv], aZ G ztm 8 md, aJ G ztr 8 re, aJ G ztl 8 fl, aJ G ztf 8 fr, ob ztd 4 [.ref ztdq, .long tk], aJ G ztdq 16 (rkF tk), ob zc 3 [.ref zcl, .ref zcr], ob zcl 4 [.ref zclq, .long kl], aJ G zclq 16 (rkF kl), ob zcr 4 [.ref zcrq, .long kr], aJ G zcrq 16 (rkF kr), aJ G zpb 5 bf, aJ G zpm 8 mg]) := by
  refine CtH.of Eh_stb (by decide) (Nat.le_of_ble_eq_true rfl) ?_
  intro p e s m args below meth c A X hE hr hlk htab
  have htab := tab2 htab
  refine pv_eql (ll2 := [(0, .ref zp), (1, .int k), (2, .int h), (3, .long v)]) rfl ?_
  by_cases h1 : k < 0
  · skip
    refine pv_aload_n X 0 d_L_component_0 rfl ?_
    refine pv_iload_n X 1 d_L_component_1 rfl ?_
    refine pv_iload_n X 2 d_L_component_2 rfl ?_
    refine pv_lload_n X 3 d_L_component_3 rfl ?_
    refine pv_callT 10 X (t_P_component_I l hfl G zp zph zpt zs zsf zsu zse zsl zsr zt ztm ztr ztl ztf ztd ztdq zc zcl zclq zcr zcrq zpb zpm hv ht hm ml mr fi us ex lf rg md re fl fr tk cu cv kl kr bf mg k h v (fun a _ _ _ => a h1)) hE.2.1 (Cut.all _) mf_P_component m_446 m_447 m_448 rfl 0 rfl rfl rfl (by decide) (by decide) rfl (Nat.le_of_ble_eq_true rfl) d_L_component_4 (fun T1 locs1 cells1 slots1 a1 cell1 g1 X1 hg1 hp1 hc1 hv1 hk1 => catch1 (x := ⟨0, 7, 10, 13⟩) X1 X.2.2.2.1 htab (by decide) (X.2.2.2.2.1 _ m_444) hc1 (by rw [hv1]; rfl) hk1 hg1 (by rw [hp1]; decide)) (fun a1 => ?_)
    refine pv_astore (ll2 := [(5, .ref a1), (0, .ref zp), (1, .int k), (2, .int h), (3, .long v)]) X d_L_component_10 (by decide) rfl ?_
    refine pv_iconst X 1 d_L_component_12 (by decide) ?_
    exact pv_iret X hr hlk () (by show _ = lc_r hm k h; simp only [lc_r, if_pos h1]) (by have e9 : lc_r hm k h = 1 := (by simp only [lc_r, if_pos h1]); rw [lc_v, lc_t, if_neg (by rw [e9]; decide), if_neg (by rw [e9]; decide)]) d_L_component_13
  by_cases h2 : 3 ≤ k
  · skip
    refine pv_aload_n X 0 d_L_component_0 rfl ?_
    refine pv_iload_n X 1 d_L_component_1 rfl ?_
    refine pv_iload_n X 2 d_L_component_2 rfl ?_
    refine pv_lload_n X 3 d_L_component_3 rfl ?_
    refine pv_callT 10 X (t_P_component_I l hfl G zp zph zpt zs zsf zsu zse zsl zsr zt ztm ztr ztl ztf ztd ztdq zc zcl zclq zcr zcrq zpb zpm hv ht hm ml mr fi us ex lf rg md re fl fr tk cu cv kl kr bf mg k h v (fun _ a _ _ => a h2)) hE.2.1 (Cut.all _) mf_P_component m_446 m_447 m_448 rfl 0 rfl rfl rfl (by decide) (by decide) rfl (Nat.le_of_ble_eq_true rfl) d_L_component_4 (fun T1 locs1 cells1 slots1 a1 cell1 g1 X1 hg1 hp1 hc1 hv1 hk1 => catch1 (x := ⟨0, 7, 10, 13⟩) X1 X.2.2.2.1 htab (by decide) (X.2.2.2.2.1 _ m_444) hc1 (by rw [hv1]; rfl) hk1 hg1 (by rw [hp1]; decide)) (fun a1 => ?_)
    refine pv_astore (ll2 := [(5, .ref a1), (0, .ref zp), (1, .int k), (2, .int h), (3, .long v)]) X d_L_component_10 (by decide) rfl ?_
    refine pv_iconst X 1 d_L_component_12 (by decide) ?_
    exact pv_iret X hr hlk () (by show _ = lc_r hm k h; simp only [lc_r, if_neg h1, if_pos h2]) (by have e9 : lc_r hm k h = 1 := (by simp only [lc_r, if_neg h1, if_pos h2]); rw [lc_v, lc_t, if_neg (by rw [e9]; decide), if_neg (by rw [e9]; decide)]) d_L_component_13
  by_cases h3 : h < 0
  · skip
    refine pv_aload_n X 0 d_L_component_0 rfl ?_
    refine pv_iload_n X 1 d_L_component_1 rfl ?_
    refine pv_iload_n X 2 d_L_component_2 rfl ?_
    refine pv_lload_n X 3 d_L_component_3 rfl ?_
    refine pv_callT 10 X (t_P_component_I l hfl G zp zph zpt zs zsf zsu zse zsl zsr zt ztm ztr ztl ztf ztd ztdq zc zcl zclq zcr zcrq zpb zpm hv ht hm ml mr fi us ex lf rg md re fl fr tk cu cv kl kr bf mg k h v (fun _ _ a _ => a h3)) hE.2.1 (Cut.all _) mf_P_component m_446 m_447 m_448 rfl 0 rfl rfl rfl (by decide) (by decide) rfl (Nat.le_of_ble_eq_true rfl) d_L_component_4 (fun T1 locs1 cells1 slots1 a1 cell1 g1 X1 hg1 hp1 hc1 hv1 hk1 => catch1 (x := ⟨0, 7, 10, 13⟩) X1 X.2.2.2.1 htab (by decide) (X.2.2.2.2.1 _ m_444) hc1 (by rw [hv1]; rfl) hk1 hg1 (by rw [hp1]; decide)) (fun a1 => ?_)
    refine pv_astore (ll2 := [(5, .ref a1), (0, .ref zp), (1, .int k), (2, .int h), (3, .long v)]) X d_L_component_10 (by decide) rfl ?_
    refine pv_iconst X 1 d_L_component_12 (by decide) ?_
    exact pv_iret X hr hlk () (by show _ = lc_r hm k h; simp only [lc_r, if_neg h1, if_neg h2, if_pos h3]) (by have e9 : lc_r hm k h = 1 := (by simp only [lc_r, if_neg h1, if_neg h2, if_pos h3]); rw [lc_v, lc_t, if_neg (by rw [e9]; decide), if_neg (by rw [e9]; decide)]) d_L_component_13
  rcases (show h ≤ 1 ∨ ¬ h ≤ 1 from Decidable.em _).symm with h4 | h4
  · skip
    refine pv_aload_n X 0 d_L_component_0 rfl ?_
    refine pv_iload_n X 1 d_L_component_1 rfl ?_
    refine pv_iload_n X 2 d_L_component_2 rfl ?_
    refine pv_lload_n X 3 d_L_component_3 rfl ?_
    refine pv_callT 10 X (t_P_component_I l hfl G zp zph zpt zs zsf zsu zse zsl zsr zt ztm ztr ztl ztf ztd ztdq zc zcl zclq zcr zcrq zpb zpm hv ht hm ml mr fi us ex lf rg md re fl fr tk cu cv kl kr bf mg k h v (fun _ _ _ a => h4 a)) hE.2.1 (Cut.all _) mf_P_component m_446 m_447 m_448 rfl 0 rfl rfl rfl (by decide) (by decide) rfl (Nat.le_of_ble_eq_true rfl) d_L_component_4 (fun T1 locs1 cells1 slots1 a1 cell1 g1 X1 hg1 hp1 hc1 hv1 hk1 => catch1 (x := ⟨0, 7, 10, 13⟩) X1 X.2.2.2.1 htab (by decide) (X.2.2.2.2.1 _ m_444) hc1 (by rw [hv1]; rfl) hk1 hg1 (by rw [hp1]; decide)) (fun a1 => ?_)
    refine pv_astore (ll2 := [(5, .ref a1), (0, .ref zp), (1, .int k), (2, .int h), (3, .long v)]) X d_L_component_10 (by decide) rfl ?_
    refine pv_iconst X 1 d_L_component_12 (by decide) ?_
    exact pv_iret X hr hlk () (by show _ = lc_r hm k h; simp only [lc_r, if_neg h1, if_neg h2, if_neg h3, if_neg h4]) (by have e9 : lc_r hm k h = 1 := (by simp only [lc_r, if_neg h1, if_neg h2, if_neg h3, if_neg h4]); rw [lc_v, lc_t, if_neg (by rw [e9]; decide), if_neg (by rw [e9]; decide)]) d_L_component_13
  by_cases h0 : hm = 0
  · skip
    refine pv_aload_n X 0 d_L_component_0 rfl ?_
    refine pv_iload_n X 1 d_L_component_1 rfl ?_
    refine pv_iload_n X 2 d_L_component_2 rfl ?_
    refine pv_lload_n X 3 d_L_component_3 rfl ?_
    refine pv_callv X (Cut.all _) (rn_V X (c_P_component l G zp zph zpt zs zsf zsu zse zsl zsr zt ztm ztr ztl ztf ztd ztdq zc zcl zclq zcr zcrq zpb zpm hv ht hm ml mr fi us ex lf rg md re fl fr tk cu cv kl kr bf mg k h v h1 h2 h3 h4 h0) hE.1 mf_P_component m_446 m_447 m_448 rfl 0 rfl rfl rfl (by decide) (by decide) rfl (Nat.le_of_ble_eq_true rfl) d_L_component_4) (fun x1 e1 => ?_)
    refine pv_eqw (ws2 := [ob zp 0 [.ref zph, .ref zpt, .int hm, .long ml, .long mr, .ref zs, .ref zt, .ref zc, .ref zpb, .ref zpm], aJ G zph 6 (g_P_component_zph hv k h v), aZ G zpt 6 (g_P_component_zpt ht k h), ob zs 1 [.ref zsf, .ref zsu, .ref zse, .ref zsl, .ref zsr], aZ G zsf 16 fi, aI G zsu 16 us, aZ G zse 16 ex, aJ G zsl 16 lf, aJ G zsr 16 rg, ob zt 2 [.ref ztm, .ref ztr, .ref ztl, .ref ztf, .ref ztd, .long cu, .long cv], aZ G ztm 8 md, aJ G ztr 8 re, aJ G ztl 8 fl, aJ G ztf 8 fr, ob ztd 4 [.ref ztdq, .long tk], aJ G ztdq 16 (rkF tk), ob zc 3 [.ref zcl, .ref zcr], ob zcl 4 [.ref zclq, .long kl], aJ G zclq 16 (rkF kl), ob zcr 4 [.ref zcrq, .long kr], aJ G zcrq 16 (rkF kr), aJ G zpb 5 bf, aJ G zpm 8 mg]) rfl ?_
    refine pv_goto X 18 d_L_component_7 rfl ?_
    refine pv_iconst X 0 d_L_component_18 (by decide) ?_
    refine pv_widen (k2 := 1) (n2 := 6) (by decide) (by decide) ?_
    exact pv_iret X hr hlk () (by show _ = lc_r hm k h; simp only [lc_r, if_neg h1, if_neg h2, if_neg h3, if_pos h4, if_pos h0]) (by have e9 : lc_r hm k h = 0 := (by simp only [lc_r, if_neg h1, if_neg h2, if_neg h3, if_pos h4, if_pos h0]); rw [lc_v, lc_t, if_pos e9, if_pos e9]; rfl) d_L_component_19
  · skip
    refine pv_aload_n X 0 d_L_component_0 rfl ?_
    refine pv_iload_n X 1 d_L_component_1 rfl ?_
    refine pv_iload_n X 2 d_L_component_2 rfl ?_
    refine pv_lload_n X 3 d_L_component_3 rfl ?_
    refine pv_callT 14 X (t_P_component_S l hfl G zp zph zpt zs zsf zsu zse zsl zsr zt ztm ztr ztl ztf ztd ztdq zc zcl zclq zcr zcrq zpb zpm hv ht hm ml mr fi us ex lf rg md re fl fr tk cu cv kl kr bf mg k h v h1 h2 h3 h4 h0) hE.2.1 (Cut.all _) mf_P_component m_446 m_447 m_448 rfl 0 rfl rfl rfl (by decide) (by decide) rfl (Nat.le_of_ble_eq_true rfl) d_L_component_4 (fun T1 locs1 cells1 slots1 a1 cell1 g1 X1 hg1 hp1 hc1 hv1 hk1 => catch2 (x1 := ⟨0, 7, 10, 13⟩) (x := ⟨0, 7, 14, 15⟩) X1 X.2.2.2.1 htab (by decide) (by decide) (X.2.2.2.2.1 _ m_444) (X.2.2.2.2.1 _ m_445) hc1 (by rw [hv1]; rfl) hk1 (fun c1 h9 => hE.2.2 c1 cell1.cls h9 hk1) hg1 (by rw [hp1]; decide) (by rw [hp1]; decide)) (fun a1 => ?_)
    refine pv_astore (ll2 := [(5, .ref a1), (0, .ref zp), (1, .int k), (2, .int h), (3, .long v)]) X d_L_component_14 (by decide) rfl ?_
    refine pv_iconst X 2 d_L_component_16 (by decide) ?_
    exact pv_iret X hr hlk () (by show _ = lc_r hm k h; simp only [lc_r, if_neg h1, if_neg h2, if_neg h3, if_pos h4, if_neg h0]) (by have e9 : lc_r hm k h = 2 := (by simp only [lc_r, if_neg h1, if_neg h2, if_neg h3, if_pos h4, if_neg h0]); rw [lc_v, lc_t, if_neg (by rw [e9]; decide), if_neg (by rw [e9]; decide)]) d_L_component_17
def lk_poke (k : Int32) : Int32 := if k < 0 then 1 else if k < 5 then 0 else 1
def lk_poke_f (f : Nat → Int64) (k : Int32) (v : Int64) : Nat → Int64 := if lk_poke k = 0 then vp_updL f k.toNatClampNeg v else f
abbrev rm_L_poke : Room := { frames := 7, cells := 1, slots := 6, locals := 167 }
theorem d_L_poke_0 : decode b_L_poke 0 = .ok (.aload_n 0, 1) := by decide +kernel
theorem d_L_poke_1 : decode b_L_poke 1 = .ok (.iload_n 1, 1) := by decide +kernel
theorem d_L_poke_2 : decode b_L_poke 2 = .ok (.lload_n 2, 1) := by decide +kernel
theorem d_L_poke_3 : decode b_L_poke 3 = .ok (.invokevirtual 21, 3) := by decide +kernel
theorem d_L_poke_6 : decode b_L_poke 6 = .ok (.goto 7, 3) := by decide +kernel
theorem d_L_poke_9 : decode b_L_poke 9 = .ok (.astore 4, 2) := by decide +kernel
theorem d_L_poke_11 : decode b_L_poke 11 = .ok (.iconst 1, 1) := by decide +kernel
theorem d_L_poke_12 : decode b_L_poke 12 = .ok (.ireturn, 1) := by decide +kernel
theorem d_L_poke_13 : decode b_L_poke 13 = .ok (.iconst 0, 1) := by decide +kernel
theorem d_L_poke_14 : decode b_L_poke 14 = .ok (.ireturn, 1) := by decide +kernel
set_option maxRecDepth 100000 in
set_option maxHeartbeats 4000000 in
theorem c_L_poke (l : Launch) (hfl : l.flags = pinnedFlags ++ [noTraceFlag]) (G : Gt) (zp zph zpt zs zsf zsu zse zsl zsr zt ztm ztr ztl ztf ztd ztdq zc zcl zclq zcr zcrq zpb zpm : Nat) (hv : Nat → Int64) (ht : Nat → Int32) (hm : Int32) (ml mr : Int64) (fi us ex : Nat → Int32) (lf rg : Nat → Int64) (md : Nat → Int32) (re fl fr : Nat → Int64) (tk cu cv kl kr : Int64) (bf mg : Nat → Int64) (k : Int32) (v : Int64) : CtH l G y_L_poke b_L_poke 5 [(0, 6, 9, 13)] rm_L_poke Eh [.ref zp, .int k, .long v] [ob zp 0 [.ref zph, .ref zpt, .int hm, .long ml, .long mr, .ref zs, .ref zt, .ref zc, .ref zpb, .ref zpm], aJ G zph 6 hv, aZ G zpt 6 ht, ob zs 1 [.ref zsf, .ref zsu, .ref zse, .ref zsl, .ref zsr], aZ G zsf 16 fi, aI G zsu 16 us, aZ G zse 16 ex, aJ G zsl 16 lf, aJ G zsr 16 rg, ob zt 2 [.ref ztm, .ref ztr, .ref ztl, .ref ztf, .ref ztd, .long cu, .long cv], aZ G ztm 8 md, aJ G ztr 8 re, aJ G ztl 8 fl, aJ G ztf 8 fr, ob ztd 4 [.ref ztdq, .long tk], aJ G ztdq 16 (rkF tk), ob zc 3 [.ref zcl, .ref zcr], ob zcl 4 [.ref zclq, .long kl], aJ G zclq 16 (rkF kl), ob zcr 4 [.ref zcrq, .long kr], aJ G zcrq 16 (rkF kr), aJ G zpb 5 bf, aJ G zpm 8 mg] (fun r (_ : Unit) => r = lk_poke k) (fun _ => [ob zp 0 [.ref zph, .ref zpt, .int hm, .long ml, .long mr, .ref zs, .ref zt, .ref zc, .ref zpb, .ref zpm], aJ G zph 6 hv, aZ G zpt 6 ht, ob zs 1 [.ref zsf, .ref zsu, .ref zse, .ref zsl, .ref zsr], aZ G zsf 16 fi, aI G zsu 16 us, aZ G zse 16 ex, aJ G zsl 16 lf, aJ G zsr 16 rg, ob zt 2 [.ref ztm, .ref ztr, .ref ztl, .ref ztf, .ref ztd, .long cu, .long cv], aZ G ztm 8 md, aJ G ztr 8 re, aJ G ztl 8 fl, aJ G ztf 8 fr, ob ztd 4 [.ref ztdq, .long tk], aJ G ztdq 16 (rkF tk), ob zc 3 [.ref zcl, .ref zcr], ob zcl 4 [.ref zclq, .long kl], aJ G zclq 16 (rkF kl), ob zcr 4 [.ref zcrq, .long kr], aJ G zcrq 16 (rkF kr), aJ G zpb 5 (lk_poke_f bf k v), aJ G zpm 8 mg]) := by
  refine CtH.of Eh_stb (by decide) (Nat.le_of_ble_eq_true rfl) ?_
  intro p e s m args below meth c A X hE hr hlk htab
  have htab := tab1 htab
  refine pv_eql (ll2 := [(0, .ref zp), (1, .int k), (2, .long v)]) rfl ?_
  by_cases h1 : k < 0
  · skip
    refine pv_aload_n X 0 d_L_poke_0 rfl ?_
    refine pv_iload_n X 1 d_L_poke_1 rfl ?_
    refine pv_lload_n X 2 d_L_poke_2 rfl ?_
    refine pv_callT 9 X (t_P_poke_I l hfl G zp zph zpt zs zsf zsu zse zsl zsr zt ztm ztr ztl ztf ztd ztdq zc zcl zclq zcr zcrq zpb zpm hv ht hm ml mr fi us ex lf rg md re fl fr tk cu cv kl kr bf mg k v (fun a _ => a h1)) hE.2.1 (Cut.all _) mf_P_poke m_548 m_549 m_550 rfl 0 rfl rfl rfl (by decide) (by decide) rfl (Nat.le_of_ble_eq_true rfl) d_L_poke_3 (fun T1 locs1 cells1 slots1 a1 cell1 g1 X1 hg1 hp1 hc1 hv1 hk1 => catch1 (x := ⟨0, 6, 9, 13⟩) X1 X.2.2.2.1 htab (by decide) (X.2.2.2.2.1 _ m_444) hc1 (by rw [hv1]; rfl) hk1 hg1 (by rw [hp1]; decide)) (fun a1 => ?_)
    refine pv_astore (ll2 := [(4, .ref a1), (0, .ref zp), (1, .int k), (2, .long v)]) X d_L_poke_9 (by decide) rfl ?_
    refine pv_iconst X 1 d_L_poke_11 (by decide) ?_
    exact pv_iret X hr hlk () (by show _ = lk_poke k; simp only [lk_poke, if_pos h1]) (by have e9 : lk_poke k = 1 := (by simp only [lk_poke, if_pos h1]); rw [lk_poke_f, if_neg (by rw [e9]; decide)]) d_L_poke_12
  by_cases h2 : k < 5
  · skip
    refine pv_aload_n X 0 d_L_poke_0 rfl ?_
    refine pv_iload_n X 1 d_L_poke_1 rfl ?_
    refine pv_lload_n X 2 d_L_poke_2 rfl ?_
    refine pv_callv X (Cut.all _) (rn_V X (c_P_poke l G zp zph zpt zs zsf zsu zse zsl zsr zt ztm ztr ztl ztf ztd ztdq zc zcl zclq zcr zcrq zpb zpm hv ht hm ml mr fi us ex lf rg md re fl fr tk cu cv kl kr bf mg k v h1 h2) hE.1 mf_P_poke m_548 m_549 m_550 rfl 0 rfl rfl rfl (by decide) (by decide) rfl (Nat.le_of_ble_eq_true rfl) d_L_poke_3) (fun x1 e1 => ?_)
    refine pv_eqw (ws2 := [ob zp 0 [.ref zph, .ref zpt, .int hm, .long ml, .long mr, .ref zs, .ref zt, .ref zc, .ref zpb, .ref zpm], aJ G zph 6 hv, aZ G zpt 6 ht, ob zs 1 [.ref zsf, .ref zsu, .ref zse, .ref zsl, .ref zsr], aZ G zsf 16 fi, aI G zsu 16 us, aZ G zse 16 ex, aJ G zsl 16 lf, aJ G zsr 16 rg, ob zt 2 [.ref ztm, .ref ztr, .ref ztl, .ref ztf, .ref ztd, .long cu, .long cv], aZ G ztm 8 md, aJ G ztr 8 re, aJ G ztl 8 fl, aJ G ztf 8 fr, ob ztd 4 [.ref ztdq, .long tk], aJ G ztdq 16 (rkF tk), ob zc 3 [.ref zcl, .ref zcr], ob zcl 4 [.ref zclq, .long kl], aJ G zclq 16 (rkF kl), ob zcr 4 [.ref zcrq, .long kr], aJ G zcrq 16 (rkF kr), aJ G zpb 5 (g_P_poke_zpb bf k v), aJ G zpm 8 mg]) rfl ?_
    refine pv_goto X 13 d_L_poke_6 rfl ?_
    refine pv_iconst X 0 d_L_poke_13 (by decide) ?_
    refine pv_widen (k2 := 1) (n2 := 6) (by decide) (by decide) ?_
    exact pv_iret X hr hlk () (by show _ = lk_poke k; simp only [lk_poke, if_neg h1, if_pos h2]) (by have e9 : lk_poke k = 0 := (by simp only [lk_poke, if_neg h1, if_pos h2]); rw [lk_poke_f, if_pos e9]; rfl) d_L_poke_14
  · skip
    refine pv_aload_n X 0 d_L_poke_0 rfl ?_
    refine pv_iload_n X 1 d_L_poke_1 rfl ?_
    refine pv_lload_n X 2 d_L_poke_2 rfl ?_
    refine pv_callT 9 X (t_P_poke_I l hfl G zp zph zpt zs zsf zsu zse zsl zsr zt ztm ztr ztl ztf ztd ztdq zc zcl zclq zcr zcrq zpb zpm hv ht hm ml mr fi us ex lf rg md re fl fr tk cu cv kl kr bf mg k v (fun _ a => h2 a)) hE.2.1 (Cut.all _) mf_P_poke m_548 m_549 m_550 rfl 0 rfl rfl rfl (by decide) (by decide) rfl (Nat.le_of_ble_eq_true rfl) d_L_poke_3 (fun T1 locs1 cells1 slots1 a1 cell1 g1 X1 hg1 hp1 hc1 hv1 hk1 => catch1 (x := ⟨0, 6, 9, 13⟩) X1 X.2.2.2.1 htab (by decide) (X.2.2.2.2.1 _ m_444) hc1 (by rw [hv1]; rfl) hk1 hg1 (by rw [hp1]; decide)) (fun a1 => ?_)
    refine pv_astore (ll2 := [(4, .ref a1), (0, .ref zp), (1, .int k), (2, .long v)]) X d_L_poke_9 (by decide) rfl ?_
    refine pv_iconst X 1 d_L_poke_11 (by decide) ?_
    exact pv_iret X hr hlk () (by show _ = lk_poke k; simp only [lk_poke, if_neg h1, if_neg h2]) (by have e9 : lk_poke k = 1 := (by simp only [lk_poke, if_neg h1, if_neg h2]); rw [lk_poke_f, if_neg (by rw [e9]; decide)]) d_L_poke_12
def lk_message (k : Int32) : Int32 := if k < 0 then 1 else if k < 8 then 0 else 1
def lk_message_f (f : Nat → Int64) (k : Int32) (v : Int64) : Nat → Int64 := if lk_message k = 0 then vp_updL f k.toNatClampNeg v else f
abbrev rm_L_message : Room := { frames := 7, cells := 1, slots := 6, locals := 167 }
theorem d_L_message_0 : decode b_L_message 0 = .ok (.aload_n 0, 1) := by decide +kernel
theorem d_L_message_1 : decode b_L_message 1 = .ok (.iload_n 1, 1) := by decide +kernel
theorem d_L_message_2 : decode b_L_message 2 = .ok (.lload_n 2, 1) := by decide +kernel
theorem d_L_message_3 : decode b_L_message 3 = .ok (.invokevirtual 29, 3) := by decide +kernel
theorem d_L_message_6 : decode b_L_message 6 = .ok (.goto 7, 3) := by decide +kernel
theorem d_L_message_9 : decode b_L_message 9 = .ok (.astore 4, 2) := by decide +kernel
theorem d_L_message_11 : decode b_L_message 11 = .ok (.iconst 1, 1) := by decide +kernel
theorem d_L_message_12 : decode b_L_message 12 = .ok (.ireturn, 1) := by decide +kernel
theorem d_L_message_13 : decode b_L_message 13 = .ok (.iconst 0, 1) := by decide +kernel
theorem d_L_message_14 : decode b_L_message 14 = .ok (.ireturn, 1) := by decide +kernel
set_option maxRecDepth 100000 in
set_option maxHeartbeats 4000000 in
theorem c_L_message (l : Launch) (hfl : l.flags = pinnedFlags ++ [noTraceFlag]) (G : Gt) (zp zph zpt zs zsf zsu zse zsl zsr zt ztm ztr ztl ztf ztd ztdq zc zcl zclq zcr zcrq zpb zpm : Nat) (hv : Nat → Int64) (ht : Nat → Int32) (hm : Int32) (ml mr : Int64) (fi us ex : Nat → Int32) (lf rg : Nat → Int64) (md : Nat → Int32) (re fl fr : Nat → Int64) (tk cu cv kl kr : Int64) (bf mg : Nat → Int64) (k : Int32) (v : Int64) : CtH l G y_L_message b_L_message 5 [(0, 6, 9, 13)] rm_L_message Eh [.ref zp, .int k, .long v] [ob zp 0 [.ref zph, .ref zpt, .int hm, .long ml, .long mr, .ref zs, .ref zt, .ref zc, .ref zpb, .ref zpm], aJ G zph 6 hv, aZ G zpt 6 ht, ob zs 1 [.ref zsf, .ref zsu, .ref zse, .ref zsl, .ref zsr], aZ G zsf 16 fi, aI G zsu 16 us, aZ G zse 16 ex, aJ G zsl 16 lf, aJ G zsr 16 rg, ob zt 2 [.ref ztm, .ref ztr, .ref ztl, .ref ztf, .ref ztd, .long cu, .long cv], aZ G ztm 8 md, aJ G ztr 8 re, aJ G ztl 8 fl, aJ G ztf 8 fr, ob ztd 4 [.ref ztdq, .long tk], aJ G ztdq 16 (rkF tk), ob zc 3 [.ref zcl, .ref zcr], ob zcl 4 [.ref zclq, .long kl], aJ G zclq 16 (rkF kl), ob zcr 4 [.ref zcrq, .long kr], aJ G zcrq 16 (rkF kr), aJ G zpb 5 bf, aJ G zpm 8 mg] (fun r (_ : Unit) => r = lk_message k) (fun _ => [ob zp 0 [.ref zph, .ref zpt, .int hm, .long ml, .long mr, .ref zs, .ref zt, .ref zc, .ref zpb, .ref zpm], aJ G zph 6 hv, aZ G zpt 6 ht, ob zs 1 [.ref zsf, .ref zsu, .ref zse, .ref zsl, .ref zsr], aZ G zsf 16 fi, aI G zsu 16 us, aZ G zse 16 ex, aJ G zsl 16 lf, aJ G zsr 16 rg, ob zt 2 [.ref ztm, .ref ztr, .ref ztl, .ref ztf, .ref ztd, .long cu, .long cv], aZ G ztm 8 md, aJ G ztr 8 re, aJ G ztl 8 fl, aJ G ztf 8 fr, ob ztd 4 [.ref ztdq, .long tk], aJ G ztdq 16 (rkF tk), ob zc 3 [.ref zcl, .ref zcr], ob zcl 4 [.ref zclq, .long kl], aJ G zclq 16 (rkF kl), ob zcr 4 [.ref zcrq, .long kr], aJ G zcrq 16 (rkF kr), aJ G zpb 5 bf, aJ G zpm 8 (lk_message_f mg k v)]) := by
  refine CtH.of Eh_stb (by decide) (Nat.le_of_ble_eq_true rfl) ?_
  intro p e s m args below meth c A X hE hr hlk htab
  have htab := tab1 htab
  refine pv_eql (ll2 := [(0, .ref zp), (1, .int k), (2, .long v)]) rfl ?_
  by_cases h1 : k < 0
  · skip
    refine pv_aload_n X 0 d_L_message_0 rfl ?_
    refine pv_iload_n X 1 d_L_message_1 rfl ?_
    refine pv_lload_n X 2 d_L_message_2 rfl ?_
    refine pv_callT 9 X (t_P_message_I l hfl G zp zph zpt zs zsf zsu zse zsl zsr zt ztm ztr ztl ztf ztd ztdq zc zcl zclq zcr zcrq zpb zpm hv ht hm ml mr fi us ex lf rg md re fl fr tk cu cv kl kr bf mg k v (fun a _ => a h1)) hE.2.1 (Cut.all _) mf_P_message m_563 m_564 m_565 rfl 0 rfl rfl rfl (by decide) (by decide) rfl (Nat.le_of_ble_eq_true rfl) d_L_message_3 (fun T1 locs1 cells1 slots1 a1 cell1 g1 X1 hg1 hp1 hc1 hv1 hk1 => catch1 (x := ⟨0, 6, 9, 13⟩) X1 X.2.2.2.1 htab (by decide) (X.2.2.2.2.1 _ m_444) hc1 (by rw [hv1]; rfl) hk1 hg1 (by rw [hp1]; decide)) (fun a1 => ?_)
    refine pv_astore (ll2 := [(4, .ref a1), (0, .ref zp), (1, .int k), (2, .long v)]) X d_L_message_9 (by decide) rfl ?_
    refine pv_iconst X 1 d_L_message_11 (by decide) ?_
    exact pv_iret X hr hlk () (by show _ = lk_message k; simp only [lk_message, if_pos h1]) (by have e9 : lk_message k = 1 := (by simp only [lk_message, if_pos h1]); rw [lk_message_f, if_neg (by rw [e9]; decide)]) d_L_message_12
  by_cases h2 : k < 8
  · skip
    refine pv_aload_n X 0 d_L_message_0 rfl ?_
    refine pv_iload_n X 1 d_L_message_1 rfl ?_
    refine pv_lload_n X 2 d_L_message_2 rfl ?_
    refine pv_callv X (Cut.all _) (rn_V X (c_P_message l G zp zph zpt zs zsf zsu zse zsl zsr zt ztm ztr ztl ztf ztd ztdq zc zcl zclq zcr zcrq zpb zpm hv ht hm ml mr fi us ex lf rg md re fl fr tk cu cv kl kr bf mg k v h1 h2) hE.1 mf_P_message m_563 m_564 m_565 rfl 0 rfl rfl rfl (by decide) (by decide) rfl (Nat.le_of_ble_eq_true rfl) d_L_message_3) (fun x1 e1 => ?_)
    refine pv_eqw (ws2 := [ob zp 0 [.ref zph, .ref zpt, .int hm, .long ml, .long mr, .ref zs, .ref zt, .ref zc, .ref zpb, .ref zpm], aJ G zph 6 hv, aZ G zpt 6 ht, ob zs 1 [.ref zsf, .ref zsu, .ref zse, .ref zsl, .ref zsr], aZ G zsf 16 fi, aI G zsu 16 us, aZ G zse 16 ex, aJ G zsl 16 lf, aJ G zsr 16 rg, ob zt 2 [.ref ztm, .ref ztr, .ref ztl, .ref ztf, .ref ztd, .long cu, .long cv], aZ G ztm 8 md, aJ G ztr 8 re, aJ G ztl 8 fl, aJ G ztf 8 fr, ob ztd 4 [.ref ztdq, .long tk], aJ G ztdq 16 (rkF tk), ob zc 3 [.ref zcl, .ref zcr], ob zcl 4 [.ref zclq, .long kl], aJ G zclq 16 (rkF kl), ob zcr 4 [.ref zcrq, .long kr], aJ G zcrq 16 (rkF kr), aJ G zpb 5 bf, aJ G zpm 8 (g_P_message_zpm mg k v)]) rfl ?_
    refine pv_goto X 13 d_L_message_6 rfl ?_
    refine pv_iconst X 0 d_L_message_13 (by decide) ?_
    refine pv_widen (k2 := 1) (n2 := 6) (by decide) (by decide) ?_
    exact pv_iret X hr hlk () (by show _ = lk_message k; simp only [lk_message, if_neg h1, if_pos h2]) (by have e9 : lk_message k = 0 := (by simp only [lk_message, if_neg h1, if_pos h2]); rw [lk_message_f, if_pos e9]; rfl) d_L_message_14
  · skip
    refine pv_aload_n X 0 d_L_message_0 rfl ?_
    refine pv_iload_n X 1 d_L_message_1 rfl ?_
    refine pv_lload_n X 2 d_L_message_2 rfl ?_
    refine pv_callT 9 X (t_P_message_I l hfl G zp zph zpt zs zsf zsu zse zsl zsr zt ztm ztr ztl ztf ztd ztdq zc zcl zclq zcr zcrq zpb zpm hv ht hm ml mr fi us ex lf rg md re fl fr tk cu cv kl kr bf mg k v (fun _ a => h2 a)) hE.2.1 (Cut.all _) mf_P_message m_563 m_564 m_565 rfl 0 rfl rfl rfl (by decide) (by decide) rfl (Nat.le_of_ble_eq_true rfl) d_L_message_3 (fun T1 locs1 cells1 slots1 a1 cell1 g1 X1 hg1 hp1 hc1 hv1 hk1 => catch1 (x := ⟨0, 6, 9, 13⟩) X1 X.2.2.2.1 htab (by decide) (X.2.2.2.2.1 _ m_444) hc1 (by rw [hv1]; rfl) hk1 hg1 (by rw [hp1]; decide)) (fun a1 => ?_)
    refine pv_astore (ll2 := [(4, .ref a1), (0, .ref zp), (1, .int k), (2, .long v)]) X d_L_message_9 (by decide) rfl ?_
    refine pv_iconst X 1 d_L_message_11 (by decide) ?_
    exact pv_iret X hr hlk () (by show _ = lk_message k; simp only [lk_message, if_neg h1, if_neg h2]) (by have e9 : lk_message k = 1 := (by simp only [lk_message, if_neg h1, if_neg h2]); rw [lk_message_f, if_neg (by rw [e9]; decide)]) d_L_message_12
def lk_peek (k : Int32) : Int32 := if k < 0 then 1 else if k < 5 then 0 else 1
def lk_peek_o (bf lo : Nat → Int64) (k : Int32) : Nat → Int64 := if lk_peek k = 0 then vp_updL lo 0 (bf k.toNatClampNeg) else lo
abbrev rm_L_peek : Room := { frames := 7, cells := 1, slots := 6, locals := 165 }
theorem d_L_peek_0 : decode b_L_peek 0 = .ok (.aload_n 2, 1) := by decide +kernel
theorem d_L_peek_1 : decode b_L_peek 1 = .ok (.iconst 0, 1) := by decide +kernel
theorem d_L_peek_2 : decode b_L_peek 2 = .ok (.aload_n 0, 1) := by decide +kernel
theorem d_L_peek_3 : decode b_L_peek 3 = .ok (.iload_n 1, 1) := by decide +kernel
theorem d_L_peek_4 : decode b_L_peek 4 = .ok (.invokevirtual 25, 3) := by decide +kernel
theorem d_L_peek_7 : decode b_L_peek 7 = .ok (.lastore, 1) := by decide +kernel
theorem d_L_peek_8 : decode b_L_peek 8 = .ok (.goto 6, 3) := by decide +kernel
theorem d_L_peek_11 : decode b_L_peek 11 = .ok (.astore_n 3, 1) := by decide +kernel
theorem d_L_peek_12 : decode b_L_peek 12 = .ok (.iconst 1, 1) := by decide +kernel
theorem d_L_peek_13 : decode b_L_peek 13 = .ok (.ireturn, 1) := by decide +kernel
theorem d_L_peek_14 : decode b_L_peek 14 = .ok (.iconst 0, 1) := by decide +kernel
theorem d_L_peek_15 : decode b_L_peek 15 = .ok (.ireturn, 1) := by decide +kernel
set_option maxRecDepth 100000 in
set_option maxHeartbeats 4000000 in
theorem c_L_peek (l : Launch) (hfl : l.flags = pinnedFlags ++ [noTraceFlag]) (G : Gt) (zp zph zpt zs zsf zsu zse zsl zsr zt ztm ztr ztl ztf ztd ztdq zc zcl zclq zcr zcrq zpb zpm : Nat) (hv : Nat → Int64) (ht : Nat → Int32) (hm : Int32) (ml mr : Int64) (fi us ex : Nat → Int32) (lf rg : Nat → Int64) (md : Nat → Int32) (re fl fr : Nat → Int64) (tk cu cv kl kr : Int64) (bf mg : Nat → Int64) (zo : Nat) (lo : Nat → Int64) (k : Int32) : CtH l G y_L_peek b_L_peek 4 [(0, 8, 11, 13)] rm_L_peek Eh [.ref zp, .int k, .ref zo] [ob zp 0 [.ref zph, .ref zpt, .int hm, .long ml, .long mr, .ref zs, .ref zt, .ref zc, .ref zpb, .ref zpm], aJ G zph 6 hv, aZ G zpt 6 ht, ob zs 1 [.ref zsf, .ref zsu, .ref zse, .ref zsl, .ref zsr], aZ G zsf 16 fi, aI G zsu 16 us, aZ G zse 16 ex, aJ G zsl 16 lf, aJ G zsr 16 rg, ob zt 2 [.ref ztm, .ref ztr, .ref ztl, .ref ztf, .ref ztd, .long cu, .long cv], aZ G ztm 8 md, aJ G ztr 8 re, aJ G ztl 8 fl, aJ G ztf 8 fr, ob ztd 4 [.ref ztdq, .long tk], aJ G ztdq 16 (rkF tk), ob zc 3 [.ref zcl, .ref zcr], ob zcl 4 [.ref zclq, .long kl], aJ G zclq 16 (rkF kl), ob zcr 4 [.ref zcrq, .long kr], aJ G zcrq 16 (rkF kr), aJ G zpb 5 bf, aJ G zpm 8 mg, aJ G zo 1 lo] (fun r (_ : Unit) => r = lk_peek k) (fun _ => [ob zp 0 [.ref zph, .ref zpt, .int hm, .long ml, .long mr, .ref zs, .ref zt, .ref zc, .ref zpb, .ref zpm], aJ G zph 6 hv, aZ G zpt 6 ht, ob zs 1 [.ref zsf, .ref zsu, .ref zse, .ref zsl, .ref zsr], aZ G zsf 16 fi, aI G zsu 16 us, aZ G zse 16 ex, aJ G zsl 16 lf, aJ G zsr 16 rg, ob zt 2 [.ref ztm, .ref ztr, .ref ztl, .ref ztf, .ref ztd, .long cu, .long cv], aZ G ztm 8 md, aJ G ztr 8 re, aJ G ztl 8 fl, aJ G ztf 8 fr, ob ztd 4 [.ref ztdq, .long tk], aJ G ztdq 16 (rkF tk), ob zc 3 [.ref zcl, .ref zcr], ob zcl 4 [.ref zclq, .long kl], aJ G zclq 16 (rkF kl), ob zcr 4 [.ref zcrq, .long kr], aJ G zcrq 16 (rkF kr), aJ G zpb 5 bf, aJ G zpm 8 mg, aJ G zo 1 (lk_peek_o bf lo k)]) := by
  refine CtH.of Eh_stb (by decide) (Nat.le_of_ble_eq_true rfl) ?_
  intro p e s m args below meth c A X hE hr hlk htab
  have htab := tab1 htab
  refine pv_eql (ll2 := [(0, .ref zp), (1, .int k), (2, .ref zo)]) rfl ?_
  by_cases h1 : k < 0
  · skip
    refine pv_aload_n X 2 d_L_peek_0 rfl ?_
    refine pv_iconst X 0 d_L_peek_1 (by decide) ?_
    refine pv_aload_n X 0 d_L_peek_2 rfl ?_
    refine pv_iload_n X 1 d_L_peek_3 rfl ?_
    refine pv_callT 11 X (t_P_peek_I l hfl G zp zph zpt zs zsf zsu zse zsl zsr zt ztm ztr ztl ztf ztd ztdq zc zcl zclq zcr zcrq zpb zpm hv ht hm ml mr fi us ex lf rg md re fl fr tk cu cv kl kr bf mg k (fun a _ => a h1)) hE.2.1 (Cut.mk (w0 := [ob zp 0 [.ref zph, .ref zpt, .int hm, .long ml, .long mr, .ref zs, .ref zt, .ref zc, .ref zpb, .ref zpm], aJ G zph 6 hv, aZ G zpt 6 ht, ob zs 1 [.ref zsf, .ref zsu, .ref zse, .ref zsl, .ref zsr], aZ G zsf 16 fi, aI G zsu 16 us, aZ G zse 16 ex, aJ G zsl 16 lf, aJ G zsr 16 rg, ob zt 2 [.ref ztm, .ref ztr, .ref ztl, .ref ztf, .ref ztd, .long cu, .long cv], aZ G ztm 8 md, aJ G ztr 8 re, aJ G ztl 8 fl, aJ G ztf 8 fr, ob ztd 4 [.ref ztdq, .long tk], aJ G ztdq 16 (rkF tk), ob zc 3 [.ref zcl, .ref zcr], ob zcl 4 [.ref zclq, .long kl], aJ G zclq 16 (rkF kl), ob zcr 4 [.ref zcrq, .long kr], aJ G zcrq 16 (rkF kr), aJ G zpb 5 bf, aJ G zpm 8 mg]) (wr := [aJ G zo 1 lo]) [0, 1, 2, 3, 4, 5, 6, 7, 8, 9, 10, 11, 12, 13, 14, 15, 16, 17, 18, 19, 20, 21, 22] [23] rfl rfl rfl rfl rfl) mf_P_peek m_556 m_557 m_558 rfl 0 rfl rfl rfl (by decide) (by decide) rfl (Nat.le_of_ble_eq_true rfl) d_L_peek_4 (fun T1 locs1 cells1 slots1 a1 cell1 g1 X1 hg1 hp1 hc1 hv1 hk1 => catch1 (x := ⟨0, 8, 11, 13⟩) X1 X.2.2.2.1 htab (by decide) (X.2.2.2.2.1 _ m_444) hc1 (by rw [hv1]; rfl) hk1 hg1 (by rw [hp1]; decide)) (fun a1 => ?_)
    refine pv_astore_n (ll2 := [(3, .ref a1), (0, .ref zp), (1, .int k), (2, .ref zo)]) X d_L_peek_11 (by decide) rfl ?_
    refine pv_iconst X 1 d_L_peek_12 (by decide) ?_
    exact pv_iret X hr hlk () (by show _ = lk_peek k; simp only [lk_peek, if_pos h1]) (by have e9 : lk_peek k = 1 := (by simp only [lk_peek, if_pos h1]); rw [lk_peek_o, if_neg (by rw [e9]; decide)]) d_L_peek_13
  by_cases h2 : k < 5
  · skip
    refine pv_aload_n X 2 d_L_peek_0 rfl ?_
    refine pv_iconst X 0 d_L_peek_1 (by decide) ?_
    refine pv_aload_n X 0 d_L_peek_2 rfl ?_
    refine pv_iload_n X 1 d_L_peek_3 rfl ?_
    refine pv_calllE X (Cut.mk (w0 := [ob zp 0 [.ref zph, .ref zpt, .int hm, .long ml, .long mr, .ref zs, .ref zt, .ref zc, .ref zpb, .ref zpm], aJ G zph 6 hv, aZ G zpt 6 ht, ob zs 1 [.ref zsf, .ref zsu, .ref zse, .ref zsl, .ref zsr], aZ G zsf 16 fi, aI G zsu 16 us, aZ G zse 16 ex, aJ G zsl 16 lf, aJ G zsr 16 rg, ob zt 2 [.ref ztm, .ref ztr, .ref ztl, .ref ztf, .ref ztd, .long cu, .long cv], aZ G ztm 8 md, aJ G ztr 8 re, aJ G ztl 8 fl, aJ G ztf 8 fr, ob ztd 4 [.ref ztdq, .long tk], aJ G ztdq 16 (rkF tk), ob zc 3 [.ref zcl, .ref zcr], ob zcl 4 [.ref zclq, .long kl], aJ G zclq 16 (rkF kl), ob zcr 4 [.ref zcrq, .long kr], aJ G zcrq 16 (rkF kr), aJ G zpb 5 bf, aJ G zpm 8 mg]) (wr := [aJ G zo 1 lo]) [0, 1, 2, 3, 4, 5, 6, 7, 8, 9, 10, 11, 12, 13, 14, 15, 16, 17, 18, 19, 20, 21, 22] [23] rfl rfl rfl rfl rfl) (rn_V X (c_P_peek l G zp zph zpt zs zsf zsu zse zsl zsr zt ztm ztr ztl ztf ztd ztdq zc zcl zclq zcr zcrq zpb zpm hv ht hm ml mr fi us ex lf rg md re fl fr tk cu cv kl kr bf mg k h1 h2) hE.1 mf_P_peek m_556 m_557 m_558 rfl 0 rfl rfl rfl (by decide) (by decide) rfl (Nat.le_of_ble_eq_true rfl) d_L_peek_4) (fun x1 => ?_)
    refine pv_ord (ws2 := [ob zp 0 [.ref zph, .ref zpt, .int hm, .long ml, .long mr, .ref zs, .ref zt, .ref zc, .ref zpb, .ref zpm], aJ G zph 6 hv, aZ G zpt 6 ht, ob zs 1 [.ref zsf, .ref zsu, .ref zse, .ref zsl, .ref zsr], aZ G zsf 16 fi, aI G zsu 16 us, aZ G zse 16 ex, aJ G zsl 16 lf, aJ G zsr 16 rg, ob zt 2 [.ref ztm, .ref ztr, .ref ztl, .ref ztf, .ref ztd, .long cu, .long cv], aZ G ztm 8 md, aJ G ztr 8 re, aJ G ztl 8 fl, aJ G ztf 8 fr, ob ztd 4 [.ref ztdq, .long tk], aJ G ztdq 16 (rkF tk), ob zc 3 [.ref zcl, .ref zcr], ob zcl 4 [.ref zclq, .long kl], aJ G zclq 16 (rkF kl), ob zcr 4 [.ref zcrq, .long kr], aJ G zcrq 16 (rkF kr), aJ G zpb 5 bf, aJ G zpm 8 mg, aJ G zo 1 lo]) [1, 2, 3, 4, 5, 6, 7, 8, 9, 10, 11, 12, 13, 14, 15, 16, 17, 18, 19, 20, 21, 22, 23, 0] rfl rfl ?_
    refine pv_last (ws2 := [ob zp 0 [.ref zph, .ref zpt, .int hm, .long ml, .long mr, .ref zs, .ref zt, .ref zc, .ref zpb, .ref zpm], aJ G zph 6 hv, aZ G zpt 6 ht, ob zs 1 [.ref zsf, .ref zsu, .ref zse, .ref zsl, .ref zsr], aZ G zsf 16 fi, aI G zsu 16 us, aZ G zse 16 ex, aJ G zsl 16 lf, aJ G zsr 16 rg, ob zt 2 [.ref ztm, .ref ztr, .ref ztl, .ref ztf, .ref ztd, .long cu, .long cv], aZ G ztm 8 md, aJ G ztr 8 re, aJ G ztl 8 fl, aJ G ztf 8 fr, ob ztd 4 [.ref ztdq, .long tk], aJ G ztdq 16 (rkF tk), ob zc 3 [.ref zcl, .ref zcr], ob zcl 4 [.ref zclq, .long kl], aJ G zclq 16 (rkF kl), ob zcr 4 [.ref zcrq, .long kr], aJ G zcrq 16 (rkF kr), aJ G zpb 5 bf, aJ G zpm 8 mg, aJ G zo 1 (vp_updL lo 0 (f_P_peek bf k))]) X 23 rfl (by unfold vp_in; decide) rfl d_L_peek_7 ?_
    refine pv_goto X 14 d_L_peek_8 rfl ?_
    refine pv_iconst X 0 d_L_peek_14 (by decide) ?_
    refine pv_widen (k2 := 1) (n2 := 6) (by decide) (by decide) ?_
    exact pv_iret X hr hlk () (by show _ = lk_peek k; simp only [lk_peek, if_neg h1, if_pos h2]) (by have e9 : lk_peek k = 0 := (by simp only [lk_peek, if_neg h1, if_pos h2]); rw [lk_peek_o, if_pos e9]; rfl) d_L_peek_15
  · skip
    refine pv_aload_n X 2 d_L_peek_0 rfl ?_
    refine pv_iconst X 0 d_L_peek_1 (by decide) ?_
    refine pv_aload_n X 0 d_L_peek_2 rfl ?_
    refine pv_iload_n X 1 d_L_peek_3 rfl ?_
    refine pv_callT 11 X (t_P_peek_I l hfl G zp zph zpt zs zsf zsu zse zsl zsr zt ztm ztr ztl ztf ztd ztdq zc zcl zclq zcr zcrq zpb zpm hv ht hm ml mr fi us ex lf rg md re fl fr tk cu cv kl kr bf mg k (fun _ a => h2 a)) hE.2.1 (Cut.mk (w0 := [ob zp 0 [.ref zph, .ref zpt, .int hm, .long ml, .long mr, .ref zs, .ref zt, .ref zc, .ref zpb, .ref zpm], aJ G zph 6 hv, aZ G zpt 6 ht, ob zs 1 [.ref zsf, .ref zsu, .ref zse, .ref zsl, .ref zsr], aZ G zsf 16 fi, aI G zsu 16 us, aZ G zse 16 ex, aJ G zsl 16 lf, aJ G zsr 16 rg, ob zt 2 [.ref ztm, .ref ztr, .ref ztl, .ref ztf, .ref ztd, .long cu, .long cv], aZ G ztm 8 md, aJ G ztr 8 re, aJ G ztl 8 fl, aJ G ztf 8 fr, ob ztd 4 [.ref ztdq, .long tk], aJ G ztdq 16 (rkF tk), ob zc 3 [.ref zcl, .ref zcr], ob zcl 4 [.ref zclq, .long kl], aJ G zclq 16 (rkF kl), ob zcr 4 [.ref zcrq, .long kr], aJ G zcrq 16 (rkF kr), aJ G zpb 5 bf, aJ G zpm 8 mg]) (wr := [aJ G zo 1 lo]) [0, 1, 2, 3, 4, 5, 6, 7, 8, 9, 10, 11, 12, 13, 14, 15, 16, 17, 18, 19, 20, 21, 22] [23] rfl rfl rfl rfl rfl) mf_P_peek m_556 m_557 m_558 rfl 0 rfl rfl rfl (by decide) (by decide) rfl (Nat.le_of_ble_eq_true rfl) d_L_peek_4 (fun T1 locs1 cells1 slots1 a1 cell1 g1 X1 hg1 hp1 hc1 hv1 hk1 => catch1 (x := ⟨0, 8, 11, 13⟩) X1 X.2.2.2.1 htab (by decide) (X.2.2.2.2.1 _ m_444) hc1 (by rw [hv1]; rfl) hk1 hg1 (by rw [hp1]; decide)) (fun a1 => ?_)
    refine pv_astore_n (ll2 := [(3, .ref a1), (0, .ref zp), (1, .int k), (2, .ref zo)]) X d_L_peek_11 (by decide) rfl ?_
    refine pv_iconst X 1 d_L_peek_12 (by decide) ?_
    exact pv_iret X hr hlk () (by show _ = lk_peek k; simp only [lk_peek, if_neg h1, if_neg h2]) (by have e9 : lk_peek k = 1 := (by simp only [lk_peek, if_neg h1, if_neg h2]); rw [lk_peek_o, if_neg (by rw [e9]; decide)]) d_L_peek_13
def ls_r (hm : Int32) (ht : Nat → Int32) : Int32 := if hm = 0 then (if f_P_allHalvesTold ht = 0 then 1 else 0) else 1
def ls_m (hm : Int32) (ht : Nat → Int32) : Int32 := if ls_r hm ht = 0 then 1 else hm
def ls_l (hm : Int32) (ht : Nat → Int32) (hv : Nat → Int64) (ml : Int64) : Int64 := if ls_r hm ht = 0 then g_P_seal_zp_3 hv else ml
def ls_q (hm : Int32) (ht : Nat → Int32) (hv : Nat → Int64) (mr : Int64) : Int64 := if ls_r hm ht = 0 then g_P_seal_zp_4 hv else mr
def ls_o (hm : Int32) (ht : Nat → Int32) (hv lo : Nat → Int64) : Nat → Int64 := if ls_r hm ht = 0 then vp_updL lo 0 (f_P_seal hv).toInt64 else lo
abbrev rm_L_seal : Room := { frames := 7, cells := 1, slots := 6, locals := 164 }
theorem d_L_seal_0 : decode b_L_seal 0 = .ok (.aload_n 1, 1) := by decide +kernel
theorem d_L_seal_1 : decode b_L_seal 1 = .ok (.iconst 0, 1) := by decide +kernel
theorem d_L_seal_2 : decode b_L_seal 2 = .ok (.aload_n 0, 1) := by decide +kernel
theorem d_L_seal_3 : decode b_L_seal 3 = .ok (.invokevirtual 17, 3) := by decide +kernel
theorem d_L_seal_6 : decode b_L_seal 6 = .ok (.i2l, 1) := by decide +kernel
theorem d_L_seal_7 : decode b_L_seal 7 = .ok (.lastore, 1) := by decide +kernel
theorem d_L_seal_8 : decode b_L_seal 8 = .ok (.goto 6, 3) := by decide +kernel
theorem d_L_seal_11 : decode b_L_seal 11 = .ok (.astore_n 2, 1) := by decide +kernel
theorem d_L_seal_12 : decode b_L_seal 12 = .ok (.iconst 1, 1) := by decide +kernel
theorem d_L_seal_13 : decode b_L_seal 13 = .ok (.ireturn, 1) := by decide +kernel
theorem d_L_seal_14 : decode b_L_seal 14 = .ok (.iconst 0, 1) := by decide +kernel
theorem d_L_seal_15 : decode b_L_seal 15 = .ok (.ireturn, 1) := by decide +kernel
set_option maxRecDepth 100000 in
set_option maxHeartbeats 4000000 in
theorem c_L_seal (l : Launch) (hfl : l.flags = pinnedFlags ++ [noTraceFlag]) (G : Gt) (zp zph zpt zs zsf zsu zse zsl zsr zt ztm ztr ztl ztf ztd ztdq zc zcl zclq zcr zcrq zpb zpm : Nat) (hv : Nat → Int64) (ht : Nat → Int32) (hm : Int32) (ml mr : Int64) (fi us ex : Nat → Int32) (lf rg : Nat → Int64) (md : Nat → Int32) (re fl fr : Nat → Int64) (tk cu cv kl kr : Int64) (bf mg : Nat → Int64) (zo : Nat) (lo : Nat → Int64) : CtH l G y_L_seal b_L_seal 3 [(0, 8, 11, 15)] rm_L_seal Eh [.ref zp, .ref zo] [ob zp 0 [.ref zph, .ref zpt, .int hm, .long ml, .long mr, .ref zs, .ref zt, .ref zc, .ref zpb, .ref zpm], aJ G zph 6 hv, aZ G zpt 6 ht, ob zs 1 [.ref zsf, .ref zsu, .ref zse, .ref zsl, .ref zsr], aZ G zsf 16 fi, aI G zsu 16 us, aZ G zse 16 ex, aJ G zsl 16 lf, aJ G zsr 16 rg, ob zt 2 [.ref ztm, .ref ztr, .ref ztl, .ref ztf, .ref ztd, .long cu, .long cv], aZ G ztm 8 md, aJ G ztr 8 re, aJ G ztl 8 fl, aJ G ztf 8 fr, ob ztd 4 [.ref ztdq, .long tk], aJ G ztdq 16 (rkF tk), ob zc 3 [.ref zcl, .ref zcr], ob zcl 4 [.ref zclq, .long kl], aJ G zclq 16 (rkF kl), ob zcr 4 [.ref zcrq, .long kr], aJ G zcrq 16 (rkF kr), aJ G zpb 5 bf, aJ G zpm 8 mg, aJ G zo 1 lo] (fun r (_ : Int64 × Int64) => r = ls_r hm ht) (fun x => [ob zp 0 [.ref zph, .ref zpt, .int (ls_m hm ht), .long (ls_l hm ht hv ml), .long (ls_q hm ht hv mr), .ref zs, .ref zt, .ref zc, .ref zpb, .ref zpm], aJ G zph 6 hv, aZ G zpt 6 ht, ob zs 1 [.ref zsf, .ref zsu, .ref zse, .ref zsl, .ref zsr], aZ G zsf 16 fi, aI G zsu 16 us, aZ G zse 16 ex, aJ G zsl 16 lf, aJ G zsr 16 rg, ob zt 2 [.ref ztm, .ref ztr, .ref ztl, .ref ztf, .ref ztd, .long cu, .long cv], aZ G ztm 8 md, aJ G ztr 8 re, aJ G ztl 8 fl, aJ G ztf 8 fr, ob ztd 4 [.ref ztdq, .long tk], aJ G ztdq 16 (rkF tk), ob zc 3 [.ref zcl, .ref zcr], ob zcl 4 [.ref zclq, .long x.1], aJ G zclq 16 (rkF x.1), ob zcr 4 [.ref zcrq, .long x.2], aJ G zcrq 16 (rkF x.2), aJ G zpb 5 bf, aJ G zpm 8 mg, aJ G zo 1 (ls_o hm ht hv lo)]) := by
  refine CtH.of Eh_stb (by decide) (Nat.le_of_ble_eq_true rfl) ?_
  intro p e s m args below meth c A X hE hr hlk htab
  have htab := tab1 htab
  refine pv_eql (ll2 := [(0, .ref zp), (1, .ref zo)]) rfl ?_
  rcases (show hm = 0 ∨ ¬ hm = 0 from Decidable.em _).symm with h0 | h0
  · skip
    refine pv_aload_n X 1 d_L_seal_0 rfl ?_
    refine pv_iconst X 0 d_L_seal_1 (by decide) ?_
    refine pv_aload_n X 0 d_L_seal_2 rfl ?_
    refine pv_callT 11 X (t_P_seal_S l hfl G zp zph zpt zs zsf zsu zse zsl zsr zt ztm ztr ztl ztf ztd ztdq zc zcl zclq zcr zcrq zpb zpm hv ht hm ml mr fi us ex lf rg md re fl fr tk cu cv kl kr bf mg  (fun a _ => h0 a)) hE.2.1 (Cut.mk (w0 := [ob zp 0 [.ref zph, .ref zpt, .int hm, .long ml, .long mr, .ref zs, .ref zt, .ref zc, .ref zpb, .ref zpm], aJ G zph 6 hv, aZ G zpt 6 ht, ob zs 1 [.ref zsf, .ref zsu, .ref zse, .ref zsl, .ref zsr], aZ G zsf 16 fi, aI G zsu 16 us, aZ G zse 16 ex, aJ G zsl 16 lf, aJ G zsr 16 rg, ob zt 2 [.ref ztm, .ref ztr, .ref ztl, .ref ztf, .ref ztd, .long cu, .long cv], aZ G ztm 8 md, aJ G ztr 8 re, aJ G ztl 8 fl, aJ G ztf 8 fr, ob ztd 4 [.ref ztdq, .long tk], aJ G ztdq 16 (rkF tk), ob zc 3 [.ref zcl, .ref zcr], ob zcl 4 [.ref zclq, .long kl], aJ G zclq 16 (rkF kl), ob zcr 4 [.ref zcrq, .long kr], aJ G zcrq 16 (rkF kr), aJ G zpb 5 bf, aJ G zpm 8 mg]) (wr := [aJ G zo 1 lo]) [0, 1, 2, 3, 4, 5, 6, 7, 8, 9, 10, 11, 12, 13, 14, 15, 16, 17, 18, 19, 20, 21, 22] [23] rfl rfl rfl rfl rfl) mf_P_seal m_536 m_537 m_538 rfl 0 rfl rfl rfl (by decide) (by decide) rfl (Nat.le_of_ble_eq_true rfl) d_L_seal_3 (fun T1 locs1 cells1 slots1 a1 cell1 g1 X1 hg1 hp1 hc1 hv1 hk1 => catch1 (x := ⟨0, 8, 11, 15⟩) X1 X.2.2.2.1 htab (by decide) (X.2.2.2.2.1 _ m_445) hc1 (by rw [hv1]; rfl) hk1 hg1 (by rw [hp1]; decide)) (fun a1 => ?_)
    refine pv_astore_n (ll2 := [(2, .ref a1), (0, .ref zp), (1, .ref zo)]) X d_L_seal_11 (by decide) rfl ?_
    refine pv_iconst X 1 d_L_seal_12 (by decide) ?_
    exact pv_iret X hr hlk (kl, kr) (by show _ = ls_r hm ht; simp only [ls_r, if_neg h0]) (by have e9 : ls_r hm ht = 1 := (by simp only [ls_r, if_neg h0]); rw [ls_m, ls_l, ls_q, ls_o, if_neg (by rw [e9]; decide), if_neg (by rw [e9]; decide), if_neg (by rw [e9]; decide), if_neg (by rw [e9]; decide)]) d_L_seal_13
  by_cases h1 : f_P_allHalvesTold ht = 0
  · skip
    refine pv_aload_n X 1 d_L_seal_0 rfl ?_
    refine pv_iconst X 0 d_L_seal_1 (by decide) ?_
    refine pv_aload_n X 0 d_L_seal_2 rfl ?_
    refine pv_callT 11 X (t_P_seal_S l hfl G zp zph zpt zs zsf zsu zse zsl zsr zt ztm ztr ztl ztf ztd ztdq zc zcl zclq zcr zcrq zpb zpm hv ht hm ml mr fi us ex lf rg md re fl fr tk cu cv kl kr bf mg  (fun _ a => a h1)) hE.2.1 (Cut.mk (w0 := [ob zp 0 [.ref zph, .ref zpt, .int hm, .long ml, .long mr, .ref zs, .ref zt, .ref zc, .ref zpb, .ref zpm], aJ G zph 6 hv, aZ G zpt 6 ht, ob zs 1 [.ref zsf, .ref zsu, .ref zse, .ref zsl, .ref zsr], aZ G zsf 16 fi, aI G zsu 16 us, aZ G zse 16 ex, aJ G zsl 16 lf, aJ G zsr 16 rg, ob zt 2 [.ref ztm, .ref ztr, .ref ztl, .ref ztf, .ref ztd, .long cu, .long cv], aZ G ztm 8 md, aJ G ztr 8 re, aJ G ztl 8 fl, aJ G ztf 8 fr, ob ztd 4 [.ref ztdq, .long tk], aJ G ztdq 16 (rkF tk), ob zc 3 [.ref zcl, .ref zcr], ob zcl 4 [.ref zclq, .long kl], aJ G zclq 16 (rkF kl), ob zcr 4 [.ref zcrq, .long kr], aJ G zcrq 16 (rkF kr), aJ G zpb 5 bf, aJ G zpm 8 mg]) (wr := [aJ G zo 1 lo]) [0, 1, 2, 3, 4, 5, 6, 7, 8, 9, 10, 11, 12, 13, 14, 15, 16, 17, 18, 19, 20, 21, 22] [23] rfl rfl rfl rfl rfl) mf_P_seal m_536 m_537 m_538 rfl 0 rfl rfl rfl (by decide) (by decide) rfl (Nat.le_of_ble_eq_true rfl) d_L_seal_3 (fun T1 locs1 cells1 slots1 a1 cell1 g1 X1 hg1 hp1 hc1 hv1 hk1 => catch1 (x := ⟨0, 8, 11, 15⟩) X1 X.2.2.2.1 htab (by decide) (X.2.2.2.2.1 _ m_445) hc1 (by rw [hv1]; rfl) hk1 hg1 (by rw [hp1]; decide)) (fun a1 => ?_)
    refine pv_astore_n (ll2 := [(2, .ref a1), (0, .ref zp), (1, .ref zo)]) X d_L_seal_11 (by decide) rfl ?_
    refine pv_iconst X 1 d_L_seal_12 (by decide) ?_
    exact pv_iret X hr hlk (kl, kr) (by show _ = ls_r hm ht; simp only [ls_r, if_pos h0, if_pos h1]) (by have e9 : ls_r hm ht = 1 := (by simp only [ls_r, if_pos h0, if_pos h1]); rw [ls_m, ls_l, ls_q, ls_o, if_neg (by rw [e9]; decide), if_neg (by rw [e9]; decide), if_neg (by rw [e9]; decide), if_neg (by rw [e9]; decide)]) d_L_seal_13
  · skip
    refine pv_aload_n X 1 d_L_seal_0 rfl ?_
    refine pv_iconst X 0 d_L_seal_1 (by decide) ?_
    refine pv_aload_n X 0 d_L_seal_2 rfl ?_
    refine pv_calliE X (Cut.mk (w0 := [ob zp 0 [.ref zph, .ref zpt, .int hm, .long ml, .long mr, .ref zs, .ref zt, .ref zc, .ref zpb, .ref zpm], aJ G zph 6 hv, aZ G zpt 6 ht, ob zs 1 [.ref zsf, .ref zsu, .ref zse, .ref zsl, .ref zsr], aZ G zsf 16 fi, aI G zsu 16 us, aZ G zse 16 ex, aJ G zsl 16 lf, aJ G zsr 16 rg, ob zt 2 [.ref ztm, .ref ztr, .ref ztl, .ref ztf, .ref ztd, .long cu, .long cv], aZ G ztm 8 md, aJ G ztr 8 re, aJ G ztl 8 fl, aJ G ztf 8 fr, ob ztd 4 [.ref ztdq, .long tk], aJ G ztdq 16 (rkF tk), ob zc 3 [.ref zcl, .ref zcr], ob zcl 4 [.ref zclq, .long kl], aJ G zclq 16 (rkF kl), ob zcr 4 [.ref zcrq, .long kr], aJ G zcrq 16 (rkF kr), aJ G zpb 5 bf, aJ G zpm 8 mg]) (wr := [aJ G zo 1 lo]) [0, 1, 2, 3, 4, 5, 6, 7, 8, 9, 10, 11, 12, 13, 14, 15, 16, 17, 18, 19, 20, 21, 22] [23] rfl rfl rfl rfl rfl) (rn_V X (c_P_seal l G zp zph zpt zs zsf zsu zse zsl zsr zt ztm ztr ztl ztf ztd ztdq zc zcl zclq zcr zcrq zpb zpm hv ht hm ml mr fi us ex lf rg md re fl fr tk cu cv kl kr bf mg h0 h1) hE.1 mf_P_seal m_536 m_537 m_538 rfl 0 rfl rfl rfl (by decide) (by decide) rfl (Nat.le_of_ble_eq_true rfl) d_L_seal_3) (fun x1 => ?_)
    refine pv_ord (ws2 := [ob zp 0 [.ref zph, .ref zpt, .int g_P_seal_zp_2, .long (g_P_seal_zp_3 hv), .long (g_P_seal_zp_4 hv), .ref zs, .ref zt, .ref zc, .ref zpb, .ref zpm], aJ G zph 6 hv, aZ G zpt 6 ht, ob zs 1 [.ref zsf, .ref zsu, .ref zse, .ref zsl, .ref zsr], aZ G zsf 16 fi, aI G zsu 16 us, aZ G zse 16 ex, aJ G zsl 16 lf, aJ G zsr 16 rg, ob zt 2 [.ref ztm, .ref ztr, .ref ztl, .ref ztf, .ref ztd, .long cu, .long cv], aZ G ztm 8 md, aJ G ztr 8 re, aJ G ztl 8 fl, aJ G ztf 8 fr, ob ztd 4 [.ref ztdq, .long tk], aJ G ztdq 16 (rkF tk), ob zc 3 [.ref zcl, .ref zcr], ob zcl 4 [.ref zclq, .long x1.1], aJ G zclq 16 (rkF x1.1), ob zcr 4 [.ref zcrq, .long x1.2], aJ G zcrq 16 (rkF x1.2), aJ G zpb 5 bf, aJ G zpm 8 mg, aJ G zo 1 lo]) [1, 2, 3, 4, 5, 6, 7, 8, 9, 10, 11, 12, 13, 14, 15, 16, 17, 18, 19, 20, 21, 22, 23, 0] rfl rfl ?_
    refine pv_i2l X d_L_seal_6 ?_
    refine pv_last (ws2 := [ob zp 0 [.ref zph, .ref zpt, .int g_P_seal_zp_2, .long (g_P_seal_zp_3 hv), .long (g_P_seal_zp_4 hv), .ref zs, .ref zt, .ref zc, .ref zpb, .ref zpm], aJ G zph 6 hv, aZ G zpt 6 ht, ob zs 1 [.ref zsf, .ref zsu, .ref zse, .ref zsl, .ref zsr], aZ G zsf 16 fi, aI G zsu 16 us, aZ G zse 16 ex, aJ G zsl 16 lf, aJ G zsr 16 rg, ob zt 2 [.ref ztm, .ref ztr, .ref ztl, .ref ztf, .ref ztd, .long cu, .long cv], aZ G ztm 8 md, aJ G ztr 8 re, aJ G ztl 8 fl, aJ G ztf 8 fr, ob ztd 4 [.ref ztdq, .long tk], aJ G ztdq 16 (rkF tk), ob zc 3 [.ref zcl, .ref zcr], ob zcl 4 [.ref zclq, .long x1.1], aJ G zclq 16 (rkF x1.1), ob zcr 4 [.ref zcrq, .long x1.2], aJ G zcrq 16 (rkF x1.2), aJ G zpb 5 bf, aJ G zpm 8 mg, aJ G zo 1 (vp_updL lo 0 ((f_P_seal hv).toInt64))]) X 23 rfl (by unfold vp_in; decide) rfl d_L_seal_7 ?_
    refine pv_goto X 14 d_L_seal_8 rfl ?_
    refine pv_iconst X 0 d_L_seal_14 (by decide) ?_
    refine pv_widen (k2 := 1) (n2 := 6) (by decide) (by decide) ?_
    exact pv_iret X hr hlk (x1.1, x1.2) (by show _ = ls_r hm ht; simp only [ls_r, if_pos h0, if_neg h1]) (by have e9 : ls_r hm ht = 0 := (by simp only [ls_r, if_pos h0, if_neg h1]); rw [ls_m, ls_l, ls_q, ls_o, if_pos e9, if_pos e9, if_pos e9, if_pos e9]; rfl) d_L_seal_15
