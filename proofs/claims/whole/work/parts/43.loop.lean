theorem d_L_law_23 : decode b_L_law 23 = .ok (.iload 4, 2) := by decide +kernel
theorem d_L_law_25 : decode b_L_law 25 = .ok (.aload_n 0, 1) := by decide +kernel
theorem d_L_law_26 : decode b_L_law 26 = .ok (.arraylength, 1) := by decide +kernel
theorem d_L_law_27 : decode b_L_law 27 = .ok (.bipush 9, 2) := by decide +kernel
theorem d_L_law_29 : decode b_L_law 29 = .ok (.isub, 1) := by decide +kernel
theorem d_L_law_30 : decode b_L_law 30 = .ok (.if_icmp .gt 1234, 3) := by decide +kernel
theorem d_L_law_33 : decode b_L_law 33 = .ok (.aload_n 0, 1) := by decide +kernel
theorem d_L_law_34 : decode b_L_law 34 = .ok (.iload 4, 2) := by decide +kernel
theorem d_L_law_36 : decode b_L_law 36 = .ok (.iaload, 1) := by decide +kernel
theorem d_L_law_37 : decode b_L_law 37 = .ok (.bipush 31, 2) := by decide +kernel
theorem d_L_law_39 : decode b_L_law 39 = .ok (.iand, 1) := by decide +kernel
theorem d_L_law_40 : decode b_L_law 40 = .ok (.tableswitch 1218 0 17 #[88, 180, 224, 304, 359, 439, 504, 529, 554, 579, 604, 685, 710, 747, 772, 947, 1088, 1181], 88) := by decide +kernel
theorem d_L_law_1264 : decode b_L_law 1264 = .ok (.iconst 1, 1) := by decide +kernel
theorem d_L_law_1265 : decode b_L_law 1265 = .ok (.ireturn, 1) := by decide +kernel
set_option maxRecDepth 100000 in
set_option maxHeartbeats 4000000 in
theorem law_in {p : Program} {l : Launch} {e : Env} {s : State} {m : MethodId} {below : List Frame} {meth : Method} {c : Code} {G : Gt} {b L : Nat} {xs : Nat → Int32} {zp zph zpt zs zsf zsu zse zsl zsr zt ztm ztr ztl ztf ztd ztdq zc zcl zclq zcr zcrq zpb zpm zm zmp zm1 zm2 zmx zmh zmt zmu zme zma zmb zmk zmc zmd zmi zmo zmf zmg zmn zo : Nat} {hv : Nat → Int64} {ht : Nat → Int32} {hm : Int32} {ml mr : Int64} {fi us ex : Nat → Int32} {lf rg : Nat → Int64} {md : Nat → Int32} {re fl fr : Nat → Int64} {tk cu cv kl kr : Int64} {bf mg : Nat → Int64} {th : Int32} {yu ye : Nat → Int32} {ya yb : Nat → Int64} {yc yd yi : Nat → Int64} {yo : Nat → Int32} {yn : Nat → Int64} {yp yq : Int64} {yw : Int32} {yx : Int64} {lo : Nat → Int64} (X : Cx G (LA s) p s m #[Value.ref b] c b_L_law 8 "PinModuleLaw") (hX : va_X b L xs s s.heap) (hbl : b < s.heap.size) (hE : Eh (LA s) s) (hfl : l.flags = pinnedFlags ++ [noTraceFlag]) (hL : L ≤ 4608) {i : Nat} (hi : 9 * i + 9 ≤ L) (ih : LawAt p l e s m below meth c G b zp zph zpt zs zsf zsu zse zsl zsr zt ztm ztr ztl ztf ztd ztdq zc zcl zclq zcr zcrq zpb zpm zm zmp zm1 zm2 zmx zmh zmt zmu zme zma zmb zmk zmc zmd zmi zmo zmf zmg zmn zo (i + 1)) (hR : R2 hm fi us ex lf rg md re fl fr yu ye ya yb yc yd yi yo) : Vw G (LA s) p l e room_1 s m #[Value.ref b] below meth c (lw_Z below #[Value.ref b] s) 8 (43 + i) (1035 + 6 * i) [ob zp 0 [.ref zph, .ref zpt, .int hm, .long ml, .long mr, .ref zs, .ref zt, .ref zc, .ref zpb, .ref zpm], aJ G zph 6 hv, aZ G zpt 6 ht, ob zs 1 [.ref zsf, .ref zsu, .ref zse, .ref zsl, .ref zsr], aZ G zsf 16 fi, aI G zsu 16 us, aZ G zse 16 ex, aJ G zsl 16 lf, aJ G zsr 16 rg, ob zt 2 [.ref ztm, .ref ztr, .ref ztl, .ref ztf, .ref ztd, .long cu, .long cv], aZ G ztm 8 md, aJ G ztr 8 re, aJ G ztl 8 fl, aJ G ztf 8 fr, ob ztd 4 [.ref ztdq, .long tk], aJ G ztdq 16 (rkF tk), ob zc 3 [.ref zcl, .ref zcr], ob zcl 4 [.ref zclq, .long kl], aJ G zclq 16 (rkF kl), ob zcr 4 [.ref zcrq, .long kr], aJ G zcrq 16 (rkF kr), aJ G zpb 5 bf, aJ G zpm 8 mg, ob zm 5 [.ref zmp, .ref zm1, .ref zm2, .ref zmx, .int th, .ref zmh, .ref zmt, .int hm, .long ml, .long mr, .ref zmu, .ref zme, .ref zma, .ref zmb, .ref zmk, .ref zmc, .ref zmd, .ref zmi, .ref zmo, .ref zmf, .ref zmg, .ref zmn, .long yp, .long yq, .int yw, .long yx], aI G zmp 32 tb_perm, aI G zm1 56 tb_c1, aI G zm2 48 tb_c2, aI G zmx 512 tb_box, aJ G zmh 6 hv, aZ G zmt 6 ht, aI G zmu 16 yu, aZ G zme 16 ye, aJ G zma 16 ya, aJ G zmb 16 yb, aZ G zmk 8 md, aJ G zmc 8 yc, aJ G zmd 8 yd, aJ G zmi 8 yi, aI G zmo 8 yo, aJ G zmf 5 bf, aJ G zmg 8 mg, aJ G zmn 16 yn, aJ G zo 1 lo] [(4, .int (nI (9 * i))), (0, .ref b), (1, .ref zp), (2, .ref zm), (3, .ref zo)] 23 [] := by
  refine pv_iload X 0 d_L_law_23 rfl ?_
  refine pv_aload_n X 1 d_L_law_25 rfl ?_
  refine pv_slen X hX hbl (Nat.not_le.mpr hbl) d_L_law_26 ?_
  refine pv_bipush X 9 d_L_law_27 (by decide) ?_
  refine pv_isub X d_L_law_29 ?_
  refine pv_icmp_gt X 1264 d_L_law_30 rfl (fun h => absurd h (lp_in hL hi)) (fun _ => ?_)
  refine pv_aload_n X 1 d_L_law_33 rfl ?_
  refine pv_iload X 0 d_L_law_34 rfl ?_
  refine pv_sld X hX hbl (Nat.not_le.mpr hbl) (vp_in_nI (by omega) (by omega)) d_L_law_36 ?_
  refine pv_topi (xs (9 * i)) (congrArg xs (nI_clamp (by omega))) ?_
  refine pv_bipush X 31 d_L_law_37 (by decide) ?_
  refine pv_iand X d_L_law_39 ?_
  obtain ⟨rr, hrr, er⟩ := pk_andE (xs (9 * i)) (m := 31) 5 (by decide)
  refine pv_topi (nI rr) er ?_
  have hcs : rr = 0 ∨ rr = 1 ∨ rr = 2 ∨ rr = 3 ∨ rr = 4 ∨ rr = 5 ∨ rr = 6 ∨ rr = 7 ∨ rr = 8 ∨ rr = 9 ∨ rr = 10 ∨ rr = 11 ∨ rr = 12 ∨ rr = 13 ∨ rr = 14 ∨ rr = 15 ∨ rr = 16 ∨ rr = 17 ∨ 18 ≤ rr := by omega
  rcases hcs with rfl | rfl | rfl | rfl | rfl | rfl | rfl | rfl | rfl | rfl | rfl | rfl | rfl | rfl | rfl | rfl | rfl | rfl | hge
  · refine pv_tableIn X 128 d_L_law_40 (by decide) (by decide) rfl rfl ?_
    exact law_component X hX hbl hE hfl hL hi ih hR
  · refine pv_tableIn X 220 d_L_law_40 (by decide) (by decide) rfl rfl ?_
    exact law_seal X hX hbl hE hfl hL hi ih hR
  · refine pv_tableIn X 264 d_L_law_40 (by decide) (by decide) rfl rfl ?_
    exact law_poke X hX hbl hE hfl hL hi ih hR
  · refine pv_tableIn X 344 d_L_law_40 (by decide) (by decide) rfl rfl ?_
    exact law_peek X hX hbl hE hfl hL hi ih hR
  · refine pv_tableIn X 399 d_L_law_40 (by decide) (by decide) rfl rfl ?_
    exact law_message X hX hbl hE hfl hL hi ih hR
  · refine pv_tableIn X 479 d_L_law_40 (by decide) (by decide) rfl rfl ?_
    exact law_load X hX hbl hE hfl hL hi ih hR
  · refine pv_tableIn X 544 d_L_law_40 (by decide) (by decide) rfl rfl ?_
    exact law_clear X hX hbl hE hfl hL hi ih hR
  · refine pv_tableIn X 569 d_L_law_40 (by decide) (by decide) rfl rfl ?_
    exact law_usage X hX hbl hE hfl hL hi ih hR
  · refine pv_tableIn X 594 d_L_law_40 (by decide) (by decide) rfl rfl ?_
    exact law_wrap X hX hbl hE hfl hL hi ih hR
  · refine pv_tableIn X 619 d_L_law_40 (by decide) (by decide) rfl rfl ?_
    exact law_unwrap X hX hbl hE hfl hL hi ih hR
  · refine pv_tableIn X 644 d_L_law_40 (by decide) (by decide) rfl rfl ?_
    exact law_terminal X hX hbl hE hfl hL hi ih hR
  · refine pv_tableIn X 725 d_L_law_40 (by decide) (by decide) rfl rfl ?_
    exact law_next X hX hbl hE hfl hL hi ih hR
  · refine pv_tableIn X 750 d_L_law_40 (by decide) (by decide) rfl rfl ?_
    exact law_skip X hX hbl hE hfl hL hi ih hR
  · refine pv_tableIn X 787 d_L_law_40 (by decide) (by decide) rfl rfl ?_
    exact law_check X hX hbl hE hfl hL hi ih hR
  · refine pv_tableIn X 812 d_L_law_40 (by decide) (by decide) rfl rfl ?_
    exact law_pin X hX hbl hE hfl hL hi ih hR
  · refine pv_tableIn X 987 d_L_law_40 (by decide) (by decide) rfl rfl ?_
    exact law_translate X hX hbl hE hfl hL hi ih hR
  · refine pv_tableIn X 1128 d_L_law_40 (by decide) (by decide) rfl rfl ?_
    exact law_verify X hX hbl hE hfl hL hi ih hR
  · refine pv_tableIn X 1221 d_L_law_40 (by decide) (by decide) rfl rfl ?_
    exact law_code X hX hbl hE hfl hL hi ih hR
  · refine pv_tableOut X 1258 d_L_law_40 (Or.inr (by rw [nI_toInt (by omega)]; omega)) rfl ?_
    exact law_back X hX hbl hE hfl hL hi ih hR (by omega) (by omega)
set_option maxRecDepth 100000 in
set_option maxHeartbeats 4000000 in
theorem law_out {p : Program} {l : Launch} {e : Env} {s : State} {m : MethodId} {below : List Frame} {meth : Method} {c : Code} {G : Gt} {b L : Nat} {xs : Nat → Int32} {zp zph zpt zs zsf zsu zse zsl zsr zt ztm ztr ztl ztf ztd ztdq zc zcl zclq zcr zcrq zpb zpm zm zmp zm1 zm2 zmx zmh zmt zmu zme zma zmb zmk zmc zmd zmi zmo zmf zmg zmn zo : Nat} {hv : Nat → Int64} {ht : Nat → Int32} {hm : Int32} {ml mr : Int64} {fi us ex : Nat → Int32} {lf rg : Nat → Int64} {md : Nat → Int32} {re fl fr : Nat → Int64} {tk cu cv kl kr : Int64} {bf mg : Nat → Int64} {th : Int32} {yu ye : Nat → Int32} {ya yb : Nat → Int64} {yc yd yi : Nat → Int64} {yo : Nat → Int32} {yn : Nat → Int64} {yp yq : Int64} {yw : Int32} {yx : Int64} {lo : Nat → Int64} (X : Cx G (LA s) p s m #[Value.ref b] c b_L_law 8 "PinModuleLaw") (hX : va_X b L xs s s.heap) (hbl : b < s.heap.size) (hE : Eh (LA s) s) (hfl : l.flags = pinnedFlags ++ [noTraceFlag]) (hL : L ≤ 4608) (hr : meth.sig.returnType = ret) (hlk : meth.locks = false) {i : Nat} (hi : 9 * i ≤ 4608) (hn : ¬ 9 * i + 9 ≤ L) : Vw G (LA s) p l e room_1 s m #[Value.ref b] below meth c (lw_Z below #[Value.ref b] s) 8 (43 + i) (1035 + 6 * i) [ob zp 0 [.ref zph, .ref zpt, .int hm, .long ml, .long mr, .ref zs, .ref zt, .ref zc, .ref zpb, .ref zpm], aJ G zph 6 hv, aZ G zpt 6 ht, ob zs 1 [.ref zsf, .ref zsu, .ref zse, .ref zsl, .ref zsr], aZ G zsf 16 fi, aI G zsu 16 us, aZ G zse 16 ex, aJ G zsl 16 lf, aJ G zsr 16 rg, ob zt 2 [.ref ztm, .ref ztr, .ref ztl, .ref ztf, .ref ztd, .long cu, .long cv], aZ G ztm 8 md, aJ G ztr 8 re, aJ G ztl 8 fl, aJ G ztf 8 fr, ob ztd 4 [.ref ztdq, .long tk], aJ G ztdq 16 (rkF tk), ob zc 3 [.ref zcl, .ref zcr], ob zcl 4 [.ref zclq, .long kl], aJ G zclq 16 (rkF kl), ob zcr 4 [.ref zcrq, .long kr], aJ G zcrq 16 (rkF kr), aJ G zpb 5 bf, aJ G zpm 8 mg, ob zm 5 [.ref zmp, .ref zm1, .ref zm2, .ref zmx, .int th, .ref zmh, .ref zmt, .int hm, .long ml, .long mr, .ref zmu, .ref zme, .ref zma, .ref zmb, .ref zmk, .ref zmc, .ref zmd, .ref zmi, .ref zmo, .ref zmf, .ref zmg, .ref zmn, .long yp, .long yq, .int yw, .long yx], aI G zmp 32 tb_perm, aI G zm1 56 tb_c1, aI G zm2 48 tb_c2, aI G zmx 512 tb_box, aJ G zmh 6 hv, aZ G zmt 6 ht, aI G zmu 16 yu, aZ G zme 16 ye, aJ G zma 16 ya, aJ G zmb 16 yb, aZ G zmk 8 md, aJ G zmc 8 yc, aJ G zmd 8 yd, aJ G zmi 8 yi, aI G zmo 8 yo, aJ G zmf 5 bf, aJ G zmg 8 mg, aJ G zmn 16 yn, aJ G zo 1 lo] [(4, .int (nI (9 * i))), (0, .ref b), (1, .ref zp), (2, .ref zm), (3, .ref zo)] 23 [] := by
  refine pv_iload X 0 d_L_law_23 rfl ?_
  refine pv_aload_n X 1 d_L_law_25 rfl ?_
  refine pv_slen X hX hbl (Nat.not_le.mpr hbl) d_L_law_26 ?_
  refine pv_bipush X 9 d_L_law_27 (by decide) ?_
  refine pv_isub X d_L_law_29 ?_
  refine pv_icmp_gt X 1264 d_L_law_30 rfl (fun _ => ?_) (fun h => absurd (lp_out hL hi hn) h)
  refine pv_iconst X 1 d_L_law_1264 (by decide) ?_
  intro H locs ls h1 h2 h3 h4
  refine va_forget (fun q hq => h3.2.2 q hq) ?_
  refine W.widen (k := 1073) (n := 9263) (by omega) (by omega) ?_
  exact lw_ret X.1 X.2.1 hr hlk d_L_law_1265
theorem law_all {p : Program} {l : Launch} {e : Env} {s : State} {m : MethodId} {below : List Frame} {meth : Method} {c : Code} {G : Gt} {b L : Nat} {xs : Nat → Int32} {zp zph zpt zs zsf zsu zse zsl zsr zt ztm ztr ztl ztf ztd ztdq zc zcl zclq zcr zcrq zpb zpm zm zmp zm1 zm2 zmx zmh zmt zmu zme zma zmb zmk zmc zmd zmi zmo zmf zmg zmn zo : Nat} (X : Cx G (LA s) p s m #[Value.ref b] c b_L_law 8 "PinModuleLaw") (hX : va_X b L xs s s.heap) (hbl : b < s.heap.size) (hE : Eh (LA s) s) (hfl : l.flags = pinnedFlags ++ [noTraceFlag]) (hL : L ≤ 4608) (hr : meth.sig.returnType = ret) (hlk : meth.locks = false) : ∀ k i, k + i = 512 → LawAt p l e s m below meth c G b zp zph zpt zs zsf zsu zse zsl zsr zt ztm ztr ztl ztf ztd ztdq zc zcl zclq zcr zcrq zpb zpm zm zmp zm1 zm2 zmx zmh zmt zmu zme zma zmb zmk zmc zmd zmi zmo zmf zmg zmn zo i
  | 0, i, hk => by
    intro hR
    exact law_out X hX hbl hE hfl hL hr hlk (by omega) (by omega)
  | k + 1, i, hk => by
    intro hR
    by_cases hi : 9 * i + 9 ≤ L
    · exact law_in X hX hbl hE hfl hL hi (law_all X hX hbl hE hfl hL hr hlk k (i + 1) (by omega)) hR
    · exact law_out X hX hbl hE hfl hL hr hlk (by omega) hi
