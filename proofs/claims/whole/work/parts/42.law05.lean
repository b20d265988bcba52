theorem d_L_law_479 : decode b_L_law 479 = .ok (.aload_n 1, 1) := by decide +kernel
theorem d_L_law_480 : decode b_L_law 480 = .ok (.aload_n 0, 1) := by decide +kernel
theorem d_L_law_481 : decode b_L_law 481 = .ok (.iload 4, 2) := by decide +kernel
theorem d_L_law_483 : decode b_L_law 483 = .ok (.iconst 1, 1) := by decide +kernel
theorem d_L_law_484 : decode b_L_law 484 = .ok (.iadd, 1) := by decide +kernel
theorem d_L_law_485 : decode b_L_law 485 = .ok (.iaload, 1) := by decide +kernel
theorem d_L_law_486 : decode b_L_law 486 = .ok (.aload_n 0, 1) := by decide +kernel
theorem d_L_law_487 : decode b_L_law 487 = .ok (.iload 4, 2) := by decide +kernel
theorem d_L_law_489 : decode b_L_law 489 = .ok (.iconst 2, 1) := by decide +kernel
theorem d_L_law_490 : decode b_L_law 490 = .ok (.iadd, 1) := by decide +kernel
theorem d_L_law_491 : decode b_L_law 491 = .ok (.iaload, 1) := by decide +kernel
theorem d_L_law_492 : decode b_L_law 492 = .ok (.aload_n 0, 1) := by decide +kernel
theorem d_L_law_493 : decode b_L_law 493 = .ok (.iload 4, 2) := by decide +kernel
theorem d_L_law_495 : decode b_L_law 495 = .ok (.iconst 3, 1) := by decide +kernel
theorem d_L_law_496 : decode b_L_law 496 = .ok (.iadd, 1) := by decide +kernel
theorem d_L_law_497 : decode b_L_law 497 = .ok (.iaload, 1) := by decide +kernel
theorem d_L_law_498 : decode b_L_law 498 = .ok (.ifCond .eq 7, 3) := by decide +kernel
theorem d_L_law_501 : decode b_L_law 501 = .ok (.iconst 1, 1) := by decide +kernel
theorem d_L_law_502 : decode b_L_law 502 = .ok (.goto 4, 3) := by decide +kernel
theorem d_L_law_505 : decode b_L_law 505 = .ok (.iconst 0, 1) := by decide +kernel
theorem d_L_law_506 : decode b_L_law 506 = .ok (.invokevirtual 62, 3) := by decide +kernel
theorem d_L_law_509 : decode b_L_law 509 = .ok (.aload_n 2, 1) := by decide +kernel
theorem d_L_law_510 : decode b_L_law 510 = .ok (.aload_n 0, 1) := by decide +kernel
theorem d_L_law_511 : decode b_L_law 511 = .ok (.iload 4, 2) := by decide +kernel
theorem d_L_law_513 : decode b_L_law 513 = .ok (.iconst 1, 1) := by decide +kernel
theorem d_L_law_514 : decode b_L_law 514 = .ok (.iadd, 1) := by decide +kernel
theorem d_L_law_515 : decode b_L_law 515 = .ok (.iaload, 1) := by decide +kernel
theorem d_L_law_516 : decode b_L_law 516 = .ok (.aload_n 0, 1) := by decide +kernel
theorem d_L_law_517 : decode b_L_law 517 = .ok (.iload 4, 2) := by decide +kernel
theorem d_L_law_519 : decode b_L_law 519 = .ok (.iconst 2, 1) := by decide +kernel
theorem d_L_law_520 : decode b_L_law 520 = .ok (.iadd, 1) := by decide +kernel
theorem d_L_law_521 : decode b_L_law 521 = .ok (.iaload, 1) := by decide +kernel
theorem d_L_law_522 : decode b_L_law 522 = .ok (.aload_n 0, 1) := by decide +kernel
theorem d_L_law_523 : decode b_L_law 523 = .ok (.iload 4, 2) := by decide +kernel
theorem d_L_law_525 : decode b_L_law 525 = .ok (.iconst 3, 1) := by decide +kernel
theorem d_L_law_526 : decode b_L_law 526 = .ok (.iadd, 1) := by decide +kernel
theorem d_L_law_527 : decode b_L_law 527 = .ok (.iaload, 1) := by decide +kernel
theorem d_L_law_528 : decode b_L_law 528 = .ok (.ifCond .eq 7, 3) := by decide +kernel
theorem d_L_law_531 : decode b_L_law 531 = .ok (.iconst 1, 1) := by decide +kernel
theorem d_L_law_532 : decode b_L_law 532 = .ok (.goto 4, 3) := by decide +kernel
theorem d_L_law_535 : decode b_L_law 535 = .ok (.iconst 0, 1) := by decide +kernel
theorem d_L_law_536 : decode b_L_law 536 = .ok (.invokevirtual 66, 3) := by decide +kernel
theorem d_L_law_539 : decode b_L_law 539 = .ok (.if_icmp .eq 719, 3) := by decide +kernel
set_option maxRecDepth 100000 in
set_option maxHeartbeats 4000000 in
theorem law_load {p : Program} {l : Launch} {e : Env} {s : State} {m : MethodId} {below : List Frame} {meth : Method} {c : Code} {G : Gt} {b L : Nat} {xs : Nat → Int32} {zp zph zpt zs zsf zsu zse zsl zsr zt ztm ztr ztl ztf ztd ztdq zc zcl zclq zcr zcrq zpb zpm zm zmp zm1 zm2 zmx zmh zmt zmu zme zma zmb zmk zmc zmd zmi zmo zmf zmg zmn zo : Nat} {hv : Nat → Int64} {ht : Nat → Int32} {hm : Int32} {ml mr : Int64} {fi us ex : Nat → Int32} {lf rg : Nat → Int64} {md : Nat → Int32} {re fl fr : Nat → Int64} {tk cu cv kl kr : Int64} {bf mg : Nat → Int64} {th : Int32} {yu ye : Nat → Int32} {ya yb : Nat → Int64} {yc yd yi : Nat → Int64} {yo : Nat → Int32} {yn : Nat → Int64} {yp yq : Int64} {yw : Int32} {yx : Int64} {lo : Nat → Int64} (X : Cx G (LA s) p s m #[Value.ref b] c b_L_law 8 "PinModuleLaw") (hX : va_X b L xs s s.heap) (hbl : b < s.heap.size) (hE : Eh (LA s) s) (hfl : l.flags = pinnedFlags ++ [noTraceFlag]) (hL : L ≤ 4608) {i : Nat} (hi : 9 * i + 9 ≤ L) (ih : LawAt p l e s m below meth c G b zp zph zpt zs zsf zsu zse zsl zsr zt ztm ztr ztl ztf ztd ztdq zc zcl zclq zcr zcrq zpb zpm zm zmp zm1 zm2 zmx zmh zmt zmu zme zma zmb zmk zmc zmd zmi zmo zmf zmg zmn zo (i + 1)) (hR : R2 hm fi us ex lf rg md re fl fr yu ye ya yb yc yd yi yo) : Vw G (LA s) p l e room_1 s m #[Value.ref b] below meth c (lw_Z below #[Value.ref b] s) 8 (43 + i) (1035 + 6 * i) [ob zp 0 [.ref zph, .ref zpt, .int hm, .long ml, .long mr, .ref zs, .ref zt, .ref zc, .ref zpb, .ref zpm], aJ G zph 6 hv, aZ G zpt 6 ht, ob zs 1 [.ref zsf, .ref zsu, .ref zse, .ref zsl, .ref zsr], aZ G zsf 16 fi, aI G zsu 16 us, aZ G zse 16 ex, aJ G zsl 16 lf, aJ G zsr 16 rg, ob zt 2 [.ref ztm, .ref ztr, .ref ztl, .ref ztf, .ref ztd, .long cu, .long cv], aZ G ztm 8 md, aJ G ztr 8 re, aJ G ztl 8 fl, aJ G ztf 8 fr, ob ztd 4 [.ref ztdq, .long tk], aJ G ztdq 16 (rkF tk), ob zc 3 [.ref zcl, .ref zcr], ob zcl 4 [.ref zclq, .long kl], aJ G zclq 16 (rkF kl), ob zcr 4 [.ref zcrq, .long kr], aJ G zcrq 16 (rkF kr), aJ G zpb 5 bf, aJ G zpm 8 mg, ob zm 5 [.ref zmp, .ref zm1, .ref zm2, .ref zmx, .int th, .ref zmh, .ref zmt, .int hm, .long ml, .long mr, .ref zmu, .ref zme, .ref zma, .ref zmb, .ref zmk, .ref zmc, .ref zmd, .ref zmi, .ref zmo, .ref zmf, .ref zmg, .ref zmn, .long yp, .long yq, .int yw, .long yx], aI G zmp 32 tb_perm, aI G zm1 56 tb_c1, aI G zm2 48 tb_c2, aI G zmx 512 tb_box, aJ G zmh 6 hv, aZ G zmt 6 ht, aI G zmu 16 yu, aZ G zme 16 ye, aJ G zma 16 ya, aJ G zmb 16 yb, aZ G zmk 8 md, aJ G zmc 8 yc, aJ G zmd 8 yd, aJ G zmi 8 yi, aI G zmo 8 yo, aJ G zmf 5 bf, aJ G zmg 8 mg, aJ G zmn 16 yn, aJ G zo 1 lo] [(4, .int (nI (9 * i))), (0, .ref b), (1, .ref zp), (2, .ref zm), (3, .ref zo)] 479 [] := by
  refine pv_aload_n X 2 d_L_law_479 rfl ?_
  refine pv_aload_n X 1 d_L_law_480 rfl ?_
  refine pv_iload X 0 d_L_law_481 rfl ?_
  refine pv_iconst X 1 d_L_law_483 (by decide) ?_
  refine pv_iadd X d_L_law_484 ?_
  refine pv_topi (nI (9 * i + 1)) (nI_add (9 * i) 1) ?_
  refine pv_sld X hX hbl (Nat.not_le.mpr hbl) (vp_in_nI (by omega) (by omega)) d_L_law_485 ?_
  refine pv_topi (xs (9 * i + 1)) (congrArg xs (nI_clamp (by omega))) ?_
  refine pv_aload_n X 1 d_L_law_486 rfl ?_
  refine pv_iload X 0 d_L_law_487 rfl ?_
  refine pv_iconst X 2 d_L_law_489 (by decide) ?_
  refine pv_iadd X d_L_law_490 ?_
  refine pv_topi (nI (9 * i + 2)) (nI_add (9 * i) 2) ?_
  refine pv_sld X hX hbl (Nat.not_le.mpr hbl) (vp_in_nI (by omega) (by omega)) d_L_law_491 ?_
  refine pv_topi (xs (9 * i + 2)) (congrArg xs (nI_clamp (by omega))) ?_
  refine pv_aload_n X 1 d_L_law_492 rfl ?_
  refine pv_iload X 0 d_L_law_493 rfl ?_
  refine pv_iconst X 3 d_L_law_495 (by decide) ?_
  refine pv_iadd X d_L_law_496 ?_
  refine pv_topi (nI (9 * i + 3)) (nI_add (9 * i) 3) ?_
  refine pv_sld X hX hbl (Nat.not_le.mpr hbl) (vp_in_nI (by omega) (by omega)) d_L_law_497 ?_
  refine pv_topi (xs (9 * i + 3)) (congrArg xs (nI_clamp (by omega))) ?_
  refine pv_if_eq X 505 d_L_law_498 rfl (fun h1 => ?_) (fun h1n => ?_)
  · skip
    refine pv_iconst X 0 d_L_law_505 (by decide) ?_
    have hs := sim_load (ml := ml) (mr := mr) (tk := tk) (cu := cu) (cv := cv) (kl := kl) (kr := kr) (hv := hv) (ht := ht) (bf := bf) (mg := mg) (lo := lo) (th := th) (yn := yn) (yp := yp) (yq := yq) (yw := yw) (yx := yx) (xs (9 * i + 1)) (xs (9 * i + 2)) 0 hR (Or.inl rfl)
    refine pv_calliE X (Cut.mk (w0 := [ob zp 0 [.ref zph, .ref zpt, .int hm, .long ml, .long mr, .ref zs, .ref zt, .ref zc, .ref zpb, .ref zpm], aJ G zph 6 hv, aZ G zpt 6 ht, ob zs 1 [.ref zsf, .ref zsu, .ref zse, .ref zsl, .ref zsr], aZ G zsf 16 fi, aI G zsu 16 us, aZ G zse 16 ex, aJ G zsl 16 lf, aJ G zsr 16 rg, ob zt 2 [.ref ztm, .ref ztr, .ref ztl, .ref ztf, .ref ztd, .long cu, .long cv], aZ G ztm 8 md, aJ G ztr 8 re, aJ G ztl 8 fl, aJ G ztf 8 fr, ob ztd 4 [.ref ztdq, .long tk], aJ G ztdq 16 (rkF tk), ob zc 3 [.ref zcl, .ref zcr], ob zcl 4 [.ref zclq, .long kl], aJ G zclq 16 (rkF kl), ob zcr 4 [.ref zcrq, .long kr], aJ G zcrq 16 (rkF kr), aJ G zpb 5 bf, aJ G zpm 8 mg]) (wr := [ob zm 5 [.ref zmp, .ref zm1, .ref zm2, .ref zmx, .int th, .ref zmh, .ref zmt, .int hm, .long ml, .long mr, .ref zmu, .ref zme, .ref zma, .ref zmb, .ref zmk, .ref zmc, .ref zmd, .ref zmi, .ref zmo, .ref zmf, .ref zmg, .ref zmn, .long yp, .long yq, .int yw, .long yx], aI G zmp 32 tb_perm, aI G zm1 56 tb_c1, aI G zm2 48 tb_c2, aI G zmx 512 tb_box, aJ G zmh 6 hv, aZ G zmt 6 ht, aI G zmu 16 yu, aZ G zme 16 ye, aJ G zma 16 ya, aJ G zmb 16 yb, aZ G zmk 8 md, aJ G zmc 8 yc, aJ G zmd 8 yd, aJ G zmi 8 yi, aI G zmo 8 yo, aJ G zmf 5 bf, aJ G zmg 8 mg, aJ G zmn 16 yn, aJ G zo 1 lo]) [0, 1, 2, 3, 4, 5, 6, 7, 8, 9, 10, 11, 12, 13, 14, 15, 16, 17, 18, 19, 20, 21, 22] [23, 24, 25, 26, 27, 28, 29, 30, 31, 32, 33, 34, 35, 36, 37, 38, 39, 40, 41, 42] rfl rfl rfl rfl rfl) (rn_V X (c_P_load l G zp zph zpt zs zsf zsu zse zsl zsr zt ztm ztr ztl ztf ztd ztdq zc zcl zclq zcr zcrq zpb zpm hv ht hm ml mr fi us ex lf rg md re fl fr tk cu cv kl kr bf mg (xs (9 * i + 1)) (xs (9 * i + 2)) 0 (Or.inl rfl)) hE.1 mf_P_load m_146 m_147 m_148 rfl 0 rfl rfl rfl (by decide) ⟨show 43 + i + 0 ≤ 1073 by omega, show 1035 + 6 * i + 0 ≤ 9263 by omega⟩ rfl (Nat.le_of_ble_eq_true rfl) d_L_law_506) (fun x2 => ?_)
    refine pv_ord (ws2 := [ob zp 0 [.ref zph, .ref zpt, .int hm, .long ml, .long mr, .ref zs, .ref zt, .ref zc, .ref zpb, .ref zpm], aJ G zph 6 hv, aZ G zpt 6 ht, ob zs 1 [.ref zsf, .ref zsu, .ref zse, .ref zsl, .ref zsr], aZ G zsf 16 (g_P_load_zsf hm fi (xs (9 * i + 1)) (xs (9 * i + 2))), aI G zsu 16 (g_P_load_zsu hm fi us (xs (9 * i + 1)) (xs (9 * i + 2))), aZ G zse 16 (g_P_load_zse hm fi ex (xs (9 * i + 1)) (xs (9 * i + 2)) 0), aJ G zsl 16 (g_P_load_zsl hm fi lf bf (xs (9 * i + 1)) (xs (9 * i + 2))), aJ G zsr 16 (g_P_load_zsr hm fi rg bf (xs (9 * i + 1)) (xs (9 * i + 2))), ob zt 2 [.ref ztm, .ref ztr, .ref ztl, .ref ztf, .ref ztd, .long cu, .long cv], aZ G ztm 8 md, aJ G ztr 8 re, aJ G ztl 8 fl, aJ G ztf 8 fr, ob ztd 4 [.ref ztdq, .long tk], aJ G ztdq 16 (rkF tk), ob zc 3 [.ref zcl, .ref zcr], ob zcl 4 [.ref zclq, .long x2.1], aJ G zclq 16 (rkF x2.1), ob zcr 4 [.ref zcrq, .long x2.2], aJ G zcrq 16 (rkF x2.2), aJ G zpb 5 bf, aJ G zpm 8 mg, ob zm 5 [.ref zmp, .ref zm1, .ref zm2, .ref zmx, .int th, .ref zmh, .ref zmt, .int hm, .long ml, .long mr, .ref zmu, .ref zme, .ref zma, .ref zmb, .ref zmk, .ref zmc, .ref zmd, .ref zmi, .ref zmo, .ref zmf, .ref zmg, .ref zmn, .long yp, .long yq, .int yw, .long yx], aI G zmp 32 tb_perm, aI G zm1 56 tb_c1, aI G zm2 48 tb_c2, aI G zmx 512 tb_box, aJ G zmh 6 hv, aZ G zmt 6 ht, aI G zmu 16 yu, aZ G zme 16 ye, aJ G zma 16 ya, aJ G zmb 16 yb, aZ G zmk 8 md, aJ G zmc 8 yc, aJ G zmd 8 yd, aJ G zmi 8 yi, aI G zmo 8 yo, aJ G zmf 5 bf, aJ G zmg 8 mg, aJ G zmn 16 yn, aJ G zo 1 lo]) [20, 21, 22, 23, 24, 25, 26, 27, 28, 29, 30, 31, 32, 33, 34, 35, 36, 37, 38, 39, 40, 41, 42, 0, 1, 2, 3, 4, 5, 6, 7, 8, 9, 10, 11, 12, 13, 14, 15, 16, 17, 18, 19] rfl rfl ?_
    refine pv_widen (k2 := 43 + i) (n2 := 1035 + 6 * i) (Nat.le_refl _) (Nat.le_refl _) ?_
    refine pv_aload_n X 3 d_L_law_509 rfl ?_
    refine pv_aload_n X 1 d_L_law_510 rfl ?_
    refine pv_iload X 0 d_L_law_511 rfl ?_
    refine pv_iconst X 1 d_L_law_513 (by decide) ?_
    refine pv_iadd X d_L_law_514 ?_
    refine pv_topi (nI (9 * i + 1)) (nI_add (9 * i) 1) ?_
    refine pv_sld X hX hbl (Nat.not_le.mpr hbl) (vp_in_nI (by omega) (by omega)) d_L_law_515 ?_
    refine pv_topi (xs (9 * i + 1)) (congrArg xs (nI_clamp (by omega))) ?_
    refine pv_aload_n X 1 d_L_law_516 rfl ?_
    refine pv_iload X 0 d_L_law_517 rfl ?_
    refine pv_iconst X 2 d_L_law_519 (by decide) ?_
    refine pv_iadd X d_L_law_520 ?_
    refine pv_topi (nI (9 * i + 2)) (nI_add (9 * i) 2) ?_
    refine pv_sld X hX hbl (Nat.not_le.mpr hbl) (vp_in_nI (by omega) (by omega)) d_L_law_521 ?_
    refine pv_topi (xs (9 * i + 2)) (congrArg xs (nI_clamp (by omega))) ?_
    refine pv_aload_n X 1 d_L_law_522 rfl ?_
    refine pv_iload X 0 d_L_law_523 rfl ?_
    refine pv_iconst X 3 d_L_law_525 (by decide) ?_
    refine pv_iadd X d_L_law_526 ?_
    refine pv_topi (nI (9 * i + 3)) (nI_add (9 * i) 3) ?_
    refine pv_sld X hX hbl (Nat.not_le.mpr hbl) (vp_in_nI (by omega) (by omega)) d_L_law_527 ?_
    refine pv_topi (xs (9 * i + 3)) (congrArg xs (nI_clamp (by omega))) ?_
    refine pv_if_eq X 535 d_L_law_528 rfl (fun _ => ?_) (fun h => absurd h1 h)
    refine pv_iconst X 0 d_L_law_535 (by decide) ?_
    refine pv_calliE X (Cut.mk (w0 := [ob zm 5 [.ref zmp, .ref zm1, .ref zm2, .ref zmx, .int th, .ref zmh, .ref zmt, .int hm, .long ml, .long mr, .ref zmu, .ref zme, .ref zma, .ref zmb, .ref zmk, .ref zmc, .ref zmd, .ref zmi, .ref zmo, .ref zmf, .ref zmg, .ref zmn, .long yp, .long yq, .int yw, .long yx], aI G zmp 32 tb_perm, aI G zm1 56 tb_c1, aI G zm2 48 tb_c2, aI G zmx 512 tb_box, aJ G zmh 6 hv, aZ G zmt 6 ht, aI G zmu 16 yu, aZ G zme 16 ye, aJ G zma 16 ya, aJ G zmb 16 yb, aZ G zmk 8 md, aJ G zmc 8 yc, aJ G zmd 8 yd, aJ G zmi 8 yi, aI G zmo 8 yo, aJ G zmf 5 bf, aJ G zmg 8 mg, aJ G zmn 16 yn]) (wr := [ob zp 0 [.ref zph, .ref zpt, .int hm, .long ml, .long mr, .ref zs, .ref zt, .ref zc, .ref zpb, .ref zpm], aJ G zph 6 hv, aZ G zpt 6 ht, ob zs 1 [.ref zsf, .ref zsu, .ref zse, .ref zsl, .ref zsr], aZ G zsf 16 (g_P_load_zsf hm fi (xs (9 * i + 1)) (xs (9 * i + 2))), aI G zsu 16 (g_P_load_zsu hm fi us (xs (9 * i + 1)) (xs (9 * i + 2))), aZ G zse 16 (g_P_load_zse hm fi ex (xs (9 * i + 1)) (xs (9 * i + 2)) 0), aJ G zsl 16 (g_P_load_zsl hm fi lf bf (xs (9 * i + 1)) (xs (9 * i + 2))), aJ G zsr 16 (g_P_load_zsr hm fi rg bf (xs (9 * i + 1)) (xs (9 * i + 2))), ob zt 2 [.ref ztm, .ref ztr, .ref ztl, .ref ztf, .ref ztd, .long cu, .long cv], aZ G ztm 8 md, aJ G ztr 8 re, aJ G ztl 8 fl, aJ G ztf 8 fr, ob ztd 4 [.ref ztdq, .long tk], aJ G ztdq 16 (rkF tk), ob zc 3 [.ref zcl, .ref zcr], ob zcl 4 [.ref zclq, .long x2.1], aJ G zclq 16 (rkF x2.1), ob zcr 4 [.ref zcrq, .long x2.2], aJ G zcrq 16 (rkF x2.2), aJ G zpb 5 bf, aJ G zpm 8 mg, aJ G zo 1 lo]) [23, 24, 25, 26, 27, 28, 29, 30, 31, 32, 33, 34, 35, 36, 37, 38, 39, 40, 41] [0, 1, 2, 3, 4, 5, 6, 7, 8, 9, 10, 11, 12, 13, 14, 15, 16, 17, 18, 19, 20, 21, 22, 42] rfl rfl rfl rfl rfl) (rn_V X (c_M_load l G zm zmp zm1 zm2 zmx zmh zmt zmu zme zma zmb zmk zmc zmd zmi zmo zmf zmg zmn th hm ml mr hv ht yu ye ya yb md yc yd yi yo bf mg yn yp yq yw yx (xs (9 * i + 1)) (xs (9 * i + 2)) 0 (Or.inl rfl)) trivial mf_M_load m_720 m_721 m_722 rfl 0 rfl rfl rfl (by decide) ⟨show 43 + i + 0 ≤ 1073 by omega, show 1035 + 6 * i + 0 ≤ 9263 by omega⟩ rfl (Nat.le_of_ble_eq_true rfl) d_L_law_536) (fun x3 => ?_)
    refine pv_ord (ws2 := [ob zp 0 [.ref zph, .ref zpt, .int hm, .long ml, .long mr, .ref zs, .ref zt, .ref zc, .ref zpb, .ref zpm], aJ G zph 6 hv, aZ G zpt 6 ht, ob zs 1 [.ref zsf, .ref zsu, .ref zse, .ref zsl, .ref zsr], aZ G zsf 16 (g_P_load_zsf hm fi (xs (9 * i + 1)) (xs (9 * i + 2))), aI G zsu 16 (g_P_load_zsu hm fi us (xs (9 * i + 1)) (xs (9 * i + 2))), aZ G zse 16 (g_P_load_zse hm fi ex (xs (9 * i + 1)) (xs (9 * i + 2)) 0), aJ G zsl 16 (g_P_load_zsl hm fi lf bf (xs (9 * i + 1)) (xs (9 * i + 2))), aJ G zsr 16 (g_P_load_zsr hm fi rg bf (xs (9 * i + 1)) (xs (9 * i + 2))), ob zt 2 [.ref ztm, .ref ztr, .ref ztl, .ref ztf, .ref ztd, .long cu, .long cv], aZ G ztm 8 md, aJ G ztr 8 re, aJ G ztl 8 fl, aJ G ztf 8 fr, ob ztd 4 [.ref ztdq, .long tk], aJ G ztdq 16 (rkF tk), ob zc 3 [.ref zcl, .ref zcr], ob zcl 4 [.ref zclq, .long x2.1], aJ G zclq 16 (rkF x2.1), ob zcr 4 [.ref zcrq, .long x2.2], aJ G zcrq 16 (rkF x2.2), aJ G zpb 5 bf, aJ G zpm 8 mg, ob zm 5 [.ref zmp, .ref zm1, .ref zm2, .ref zmx, .int g_M_load_zm_4, .ref zmh, .ref zmt, .int hm, .long ml, .long mr, .ref zmu, .ref zme, .ref zma, .ref zmb, .ref zmk, .ref zmc, .ref zmd, .ref zmi, .ref zmo, .ref zmf, .ref zmg, .ref zmn, .long yp, .long yq, .int yw, .long yx], aI G zmp 32 tb_perm, aI G zm1 56 tb_c1, aI G zm2 48 tb_c2, aI G zmx 512 tb_box, aJ G zmh 6 hv, aZ G zmt 6 ht, aI G zmu 16 (g_M_load_zmu hm yu (xs (9 * i + 1)) (xs (9 * i + 2))), aZ G zme 16 (g_M_load_zme hm yu ye (xs (9 * i + 1)) (xs (9 * i + 2)) 0), aJ G zma 16 (g_M_load_zma hm yu ya bf (xs (9 * i + 1)) (xs (9 * i + 2))), aJ G zmb 16 (g_M_load_zmb hm yu yb bf (xs (9 * i + 1)) (xs (9 * i + 2))), aZ G zmk 8 md, aJ G zmc 8 yc, aJ G zmd 8 yd, aJ G zmi 8 yi, aI G zmo 8 yo, aJ G zmf 5 bf, aJ G zmg 8 mg, aJ G zmn 16 x3, aJ G zo 1 lo]) [0, 1, 2, 3, 4, 5, 6, 7, 8, 9, 10, 11, 12, 13, 14, 15, 16, 17, 18, 19, 20, 21, 22, 24, 25, 26, 27, 28, 29, 30, 31, 32, 33, 34, 35, 36, 37, 38, 39, 40, 41, 42, 23] rfl rfl ?_
    refine pv_widen (k2 := 43 + i) (n2 := 1035 + 6 * i) (Nat.le_refl _) (Nat.le_refl _) ?_
    refine pv_icmp_eq X 1258 d_L_law_539 rfl (fun _ => ?_) (fun h => absurd hs.1 h)
    refine pv_lpick (ll2 := [(4, .int (nI (9 * i))), (0, .ref b), (1, .ref zp), (2, .ref zm), (3, .ref zo)]) [0, 1, 2, 3, 4] rfl ?_
    exact law_back X hX hbl hE hfl hL hi ih hs.2 (by omega) (by omega)
  · skip
    refine pv_iconst X 1 d_L_law_501 (by decide) ?_
    refine pv_goto X 506 d_L_law_502 rfl ?_
    have hs := sim_load (ml := ml) (mr := mr) (tk := tk) (cu := cu) (cv := cv) (kl := kl) (kr := kr) (hv := hv) (ht := ht) (bf := bf) (mg := mg) (lo := lo) (th := th) (yn := yn) (yp := yp) (yq := yq) (yw := yw) (yx := yx) (xs (9 * i + 1)) (xs (9 * i + 2)) 1 hR (Or.inr rfl)
    refine pv_calliE X (Cut.mk (w0 := [ob zp 0 [.ref zph, .ref zpt, .int hm, .long ml, .long mr, .ref zs, .ref zt, .ref zc, .ref zpb, .ref zpm], aJ G zph 6 hv, aZ G zpt 6 ht, ob zs 1 [.ref zsf, .ref zsu, .ref zse, .ref zsl, .ref zsr], aZ G zsf 16 fi, aI G zsu 16 us, aZ G zse 16 ex, aJ G zsl 16 lf, aJ G zsr 16 rg, ob zt 2 [.ref ztm, .ref ztr, .ref ztl, .ref ztf, .ref ztd, .long cu, .long cv], aZ G ztm 8 md, aJ G ztr 8 re, aJ G ztl 8 fl, aJ G ztf 8 fr, ob ztd 4 [.ref ztdq, .long tk], aJ G ztdq 16 (rkF tk), ob zc 3 [.ref zcl, .ref zcr], ob zcl 4 [.ref zclq, .long kl], aJ G zclq 16 (rkF kl), ob zcr 4 [.ref zcrq, .long kr], aJ G zcrq 16 (rkF kr), aJ G zpb 5 bf, aJ G zpm 8 mg]) (wr := [ob zm 5 [.ref zmp, .ref zm1, .ref zm2, .ref zmx, .int th, .ref zmh, .ref zmt, .int hm, .long ml, .long mr, .ref zmu, .ref zme, .ref zma, .ref zmb, .ref zmk, .ref zmc, .ref zmd, .ref zmi, .ref zmo, .ref zmf, .ref zmg, .ref zmn, .long yp, .long yq, .int yw, .long yx], aI G zmp 32 tb_perm, aI G zm1 56 tb_c1, aI G zm2 48 tb_c2, aI G zmx 512 tb_box, aJ G zmh 6 hv, aZ G zmt 6 ht, aI G zmu 16 yu, aZ G zme 16 ye, aJ G zma 16 ya, aJ G zmb 16 yb, aZ G zmk 8 md, aJ G zmc 8 yc, aJ G zmd 8 yd, aJ G zmi 8 yi, aI G zmo 8 yo, aJ G zmf 5 bf, aJ G zmg 8 mg, aJ G zmn 16 yn, aJ G zo 1 lo]) [0, 1, 2, 3, 4, 5, 6, 7, 8, 9, 10, 11, 12, 13, 14, 15, 16, 17, 18, 19, 20, 21, 22] [23, 24, 25, 26, 27, 28, 29, 30, 31, 32, 33, 34, 35, 36, 37, 38, 39, 40, 41, 42] rfl rfl rfl rfl rfl) (rn_V X (c_P_load l G zp zph zpt zs zsf zsu zse zsl zsr zt ztm ztr ztl ztf ztd ztdq zc zcl zclq zcr zcrq zpb zpm hv ht hm ml mr fi us ex lf rg md re fl fr tk cu cv kl kr bf mg (xs (9 * i + 1)) (xs (9 * i + 2)) 1 (Or.inr rfl)) hE.1 mf_P_load m_146 m_147 m_148 rfl 0 rfl rfl rfl (by decide) ⟨show 43 + i + 0 ≤ 1073 by omega, show 1035 + 6 * i + 0 ≤ 9263 by omega⟩ rfl (Nat.le_of_ble_eq_true rfl) d_L_law_506) (fun x4 => ?_)
    refine pv_ord (ws2 := [ob zp 0 [.ref zph, .ref zpt, .int hm, .long ml, .long mr, .ref zs, .ref zt, .ref zc, .ref zpb, .ref zpm], aJ G zph 6 hv, aZ G zpt 6 ht, ob zs 1 [.ref zsf, .ref zsu, .ref zse, .ref zsl, .ref zsr], aZ G zsf 16 (g_P_load_zsf hm fi (xs (9 * i + 1)) (xs (9 * i + 2))), aI G zsu 16 (g_P_load_zsu hm fi us (xs (9 * i + 1)) (xs (9 * i + 2))), aZ G zse 16 (g_P_load_zse hm fi ex (xs (9 * i + 1)) (xs (9 * i + 2)) 1), aJ G zsl 16 (g_P_load_zsl hm fi lf bf (xs (9 * i + 1)) (xs (9 * i + 2))), aJ G zsr 16 (g_P_load_zsr hm fi rg bf (xs (9 * i + 1)) (xs (9 * i + 2))), ob zt 2 [.ref ztm, .ref ztr, .ref ztl, .ref ztf, .ref ztd, .long cu, .long cv], aZ G ztm 8 md, aJ G ztr 8 re, aJ G ztl 8 fl, aJ G ztf 8 fr, ob ztd 4 [.ref ztdq, .long tk], aJ G ztdq 16 (rkF tk), ob zc 3 [.ref zcl, .ref zcr], ob zcl 4 [.ref zclq, .long x4.1], aJ G zclq 16 (rkF x4.1), ob zcr 4 [.ref zcrq, .long x4.2], aJ G zcrq 16 (rkF x4.2), aJ G zpb 5 bf, aJ G zpm 8 mg, ob zm 5 [.ref zmp, .ref zm1, .ref zm2, .ref zmx, .int th, .ref zmh, .ref zmt, .int hm, .long ml, .long mr, .ref zmu, .ref zme, .ref zma, .ref zmb, .ref zmk, .ref zmc, .ref zmd, .ref zmi, .ref zmo, .ref zmf, .ref zmg, .ref zmn, .long yp, .long yq, .int yw, .long yx], aI G zmp 32 tb_perm, aI G zm1 56 tb_c1, aI G zm2 48 tb_c2, aI G zmx 512 tb_box, aJ G zmh 6 hv, aZ G zmt 6 ht, aI G zmu 16 yu, aZ G zme 16 ye, aJ G zma 16 ya, aJ G zmb 16 yb, aZ G zmk 8 md, aJ G zmc 8 yc, aJ G zmd 8 yd, aJ G zmi 8 yi, aI G zmo 8 yo, aJ G zmf 5 bf, aJ G zmg 8 mg, aJ G zmn 16 yn, aJ G zo 1 lo]) [20, 21, 22, 23, 24, 25, 26, 27, 28, 29, 30, 31, 32, 33, 34, 35, 36, 37, 38, 39, 40, 41, 42, 0, 1, 2, 3, 4, 5, 6, 7, 8, 9, 10, 11, 12, 13, 14, 15, 16, 17, 18, 19] rfl rfl ?_
    refine pv_widen (k2 := 43 + i) (n2 := 1035 + 6 * i) (Nat.le_refl _) (Nat.le_refl _) ?_
    refine pv_aload_n X 3 d_L_law_509 rfl ?_
    refine pv_aload_n X 1 d_L_law_510 rfl ?_
    refine pv_iload X 0 d_L_law_511 rfl ?_
    refine pv_iconst X 1 d_L_law_513 (by decide) ?_
    refine pv_iadd X d_L_law_514 ?_
    refine pv_topi (nI (9 * i + 1)) (nI_add (9 * i) 1) ?_
    refine pv_sld X hX hbl (Nat.not_le.mpr hbl) (vp_in_nI (by omega) (by omega)) d_L_law_515 ?_
    refine pv_topi (xs (9 * i + 1)) (congrArg xs (nI_clamp (by omega))) ?_
    refine pv_aload_n X 1 d_L_law_516 rfl ?_
    refine pv_iload X 0 d_L_law_517 rfl ?_
    refine pv_iconst X 2 d_L_law_519 (by decide) ?_
    refine pv_iadd X d_L_law_520 ?_
    refine pv_topi (nI (9 * i + 2)) (nI_add (9 * i) 2) ?_
    refine pv_sld X hX hbl (Nat.not_le.mpr hbl) (vp_in_nI (by omega) (by omega)) d_L_law_521 ?_
    refine pv_topi (xs (9 * i + 2)) (congrArg xs (nI_clamp (by omega))) ?_
    refine pv_aload_n X 1 d_L_law_522 rfl ?_
    refine pv_iload X 0 d_L_law_523 rfl ?_
    refine pv_iconst X 3 d_L_law_525 (by decide) ?_
    refine pv_iadd X d_L_law_526 ?_
    refine pv_topi (nI (9 * i + 3)) (nI_add (9 * i) 3) ?_
    refine pv_sld X hX hbl (Nat.not_le.mpr hbl) (vp_in_nI (by omega) (by omega)) d_L_law_527 ?_
    refine pv_topi (xs (9 * i + 3)) (congrArg xs (nI_clamp (by omega))) ?_
    refine pv_if_eq X 535 d_L_law_528 rfl (fun h => absurd h h1n) (fun _ => ?_)
    refine pv_iconst X 1 d_L_law_531 (by decide) ?_
    refine pv_goto X 536 d_L_law_532 rfl ?_
    refine pv_calliE X (Cut.mk (w0 := [ob zm 5 [.ref zmp, .ref zm1, .ref zm2, .ref zmx, .int th, .ref zmh, .ref zmt, .int hm, .long ml, .long mr, .ref zmu, .ref zme, .ref zma, .ref zmb, .ref zmk, .ref zmc, .ref zmd, .ref zmi, .ref zmo, .ref zmf, .ref zmg, .ref zmn, .long yp, .long yq, .int yw, .long yx], aI G zmp 32 tb_perm, aI G zm1 56 tb_c1, aI G zm2 48 tb_c2, aI G zmx 512 tb_box, aJ G zmh 6 hv, aZ G zmt 6 ht, aI G zmu 16 yu, aZ G zme 16 ye, aJ G zma 16 ya, aJ G zmb 16 yb, aZ G zmk 8 md, aJ G zmc 8 yc, aJ G zmd 8 yd, aJ G zmi 8 yi, aI G zmo 8 yo, aJ G zmf 5 bf, aJ G zmg 8 mg, aJ G zmn 16 yn]) (wr := [ob zp 0 [.ref zph, .ref zpt, .int hm, .long ml, .long mr, .ref zs, .ref zt, .ref zc, .ref zpb, .ref zpm], aJ G zph 6 hv, aZ G zpt 6 ht, ob zs 1 [.ref zsf, .ref zsu, .ref zse, .ref zsl, .ref zsr], aZ G zsf 16 (g_P_load_zsf hm fi (xs (9 * i + 1)) (xs (9 * i + 2))), aI G zsu 16 (g_P_load_zsu hm fi us (xs (9 * i + 1)) (xs (9 * i + 2))), aZ G zse 16 (g_P_load_zse hm fi ex (xs (9 * i + 1)) (xs (9 * i + 2)) 1), aJ G zsl 16 (g_P_load_zsl hm fi lf bf (xs (9 * i + 1)) (xs (9 * i + 2))), aJ G zsr 16 (g_P_load_zsr hm fi rg bf (xs (9 * i + 1)) (xs (9 * i + 2))), ob zt 2 [.ref ztm, .ref ztr, .ref ztl, .ref ztf, .ref ztd, .long cu, .long cv], aZ G ztm 8 md, aJ G ztr 8 re, aJ G ztl 8 fl, aJ G ztf 8 fr, ob ztd 4 [.ref ztdq, .long tk], aJ G ztdq 16 (rkF tk), ob zc 3 [.ref zcl, .ref zcr], ob zcl 4 [.ref zclq, .long x4.1], aJ G zclq 16 (rkF x4.1), ob zcr 4 [.ref zcrq, .long x4.2], aJ G zcrq 16 (rkF x4.2), aJ G zpb 5 bf, aJ G zpm 8 mg, aJ G zo 1 lo]) [23, 24, 25, 26, 27, 28, 29, 30, 31, 32, 33, 34, 35, 36, 37, 38, 39, 40, 41] [0, 1, 2, 3, 4, 5, 6, 7, 8, 9, 10, 11, 12, 13, 14, 15, 16, 17, 18, 19, 20, 21, 22, 42] rfl rfl rfl rfl rfl) (rn_V X (c_M_load l G zm zmp zm1 zm2 zmx zmh zmt zmu zme zma zmb zmk zmc zmd zmi zmo zmf zmg zmn th hm ml mr hv ht yu ye ya yb md yc yd yi yo bf mg yn yp yq yw yx (xs (9 * i + 1)) (xs (9 * i + 2)) 1 (Or.inr rfl)) trivial mf_M_load m_720 m_721 m_722 rfl 0 rfl rfl rfl (by decide) ⟨show 43 + i + 0 ≤ 1073 by omega, show 1035 + 6 * i + 0 ≤ 9263 by omega⟩ rfl (Nat.le_of_ble_eq_true rfl) d_L_law_536) (fun x5 => ?_)
    refine pv_ord (ws2 := [ob zp 0 [.ref zph, .ref zpt, .int hm, .long ml, .long mr, .ref zs, .ref zt, .ref zc, .ref zpb, .ref zpm], aJ G zph 6 hv, aZ G zpt 6 ht, ob zs 1 [.ref zsf, .ref zsu, .ref zse, .ref zsl, .ref zsr], aZ G zsf 16 (g_P_load_zsf hm fi (xs (9 * i + 1)) (xs (9 * i + 2))), aI G zsu 16 (g_P_load_zsu hm fi us (xs (9 * i + 1)) (xs (9 * i + 2))), aZ G zse 16 (g_P_load_zse hm fi ex (xs (9 * i + 1)) (xs (9 * i + 2)) 1), aJ G zsl 16 (g_P_load_zsl hm fi lf bf (xs (9 * i + 1)) (xs (9 * i + 2))), aJ G zsr 16 (g_P_load_zsr hm fi rg bf (xs (9 * i + 1)) (xs (9 * i + 2))), ob zt 2 [.ref ztm, .ref ztr, .ref ztl, .ref ztf, .ref ztd, .long cu, .long cv], aZ G ztm 8 md, aJ G ztr 8 re, aJ G ztl 8 fl, aJ G ztf 8 fr, ob ztd 4 [.ref ztdq, .long tk], aJ G ztdq 16 (rkF tk), ob zc 3 [.ref zcl, .ref zcr], ob zcl 4 [.ref zclq, .long x4.1], aJ G zclq 16 (rkF x4.1), ob zcr 4 [.ref zcrq, .long x4.2], aJ G zcrq 16 (rkF x4.2), aJ G zpb 5 bf, aJ G zpm 8 mg, ob zm 5 [.ref zmp, .ref zm1, .ref zm2, .ref zmx, .int g_M_load_zm_4, .ref zmh, .ref zmt, .int hm, .long ml, .long mr, .ref zmu, .ref zme, .ref zma, .ref zmb, .ref zmk, .ref zmc, .ref zmd, .ref zmi, .ref zmo, .ref zmf, .ref zmg, .ref zmn, .long yp, .long yq, .int yw, .long yx], aI G zmp 32 tb_perm, aI G zm1 56 tb_c1, aI G zm2 48 tb_c2, aI G zmx 512 tb_box, aJ G zmh 6 hv, aZ G zmt 6 ht, aI G zmu 16 (g_M_load_zmu hm yu (xs (9 * i + 1)) (xs (9 * i + 2))), aZ G zme 16 (g_M_load_zme hm yu ye (xs (9 * i + 1)) (xs (9 * i + 2)) 1), aJ G zma 16 (g_M_load_zma hm yu ya bf (xs (9 * i + 1)) (xs (9 * i + 2))), aJ G zmb 16 (g_M_load_zmb hm yu yb bf (xs (9 * i + 1)) (xs (9 * i + 2))), aZ G zmk 8 md, aJ G zmc 8 yc, aJ G zmd 8 yd, aJ G zmi 8 yi, aI G zmo 8 yo, aJ G zmf 5 bf, aJ G zmg 8 mg, aJ G zmn 16 x5, aJ G zo 1 lo]) [0, 1, 2, 3, 4, 5, 6, 7, 8, 9, 10, 11, 12, 13, 14, 15, 16, 17, 18, 19, 20, 21, 22, 24, 25, 26, 27, 28, 29, 30, 31, 32, 33, 34, 35, 36, 37, 38, 39, 40, 41, 42, 23] rfl rfl ?_
    refine pv_widen (k2 := 43 + i) (n2 := 1035 + 6 * i) (Nat.le_refl _) (Nat.le_refl _) ?_
    refine pv_icmp_eq X 1258 d_L_law_539 rfl (fun _ => ?_) (fun h => absurd hs.1 h)
    refine pv_lpick (ll2 := [(4, .int (nI (9 * i))), (0, .ref b), (1, .ref zp), (2, .ref zm), (3, .ref zo)]) [0, 1, 2, 3, 4] rfl ?_
    exact law_back X hX hbl hE hfl hL hi ih hs.2 (by omega) (by omega)
