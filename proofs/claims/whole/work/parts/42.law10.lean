theorem d_L_law_644 : decode b_L_law 644 = .ok (.aload_n 1, 1) := by decide +kernel
theorem d_L_law_645 : decode b_L_law 645 = .ok (.aload_n 0, 1) := by decide +kernel
theorem d_L_law_646 : decode b_L_law 646 = .ok (.iload 4, 2) := by decide +kernel
theorem d_L_law_648 : decode b_L_law 648 = .ok (.iconst 1, 1) := by decide +kernel
theorem d_L_law_649 : decode b_L_law 649 = .ok (.iadd, 1) := by decide +kernel
theorem d_L_law_650 : decode b_L_law 650 = .ok (.iaload, 1) := by decide +kernel
theorem d_L_law_651 : decode b_L_law 651 = .ok (.aload_n 0, 1) := by decide +kernel
theorem d_L_law_652 : decode b_L_law 652 = .ok (.iload 4, 2) := by decide +kernel
theorem d_L_law_654 : decode b_L_law 654 = .ok (.iconst 2, 1) := by decide +kernel
theorem d_L_law_655 : decode b_L_law 655 = .ok (.iadd, 1) := by decide +kernel
theorem d_L_law_656 : decode b_L_law 656 = .ok (.iaload, 1) := by decide +kernel
theorem d_L_law_657 : decode b_L_law 657 = .ok (.aload_n 0, 1) := by decide +kernel
theorem d_L_law_658 : decode b_L_law 658 = .ok (.iload 4, 2) := by decide +kernel
theorem d_L_law_660 : decode b_L_law 660 = .ok (.iconst 3, 1) := by decide +kernel
theorem d_L_law_661 : decode b_L_law 661 = .ok (.iadd, 1) := by decide +kernel
theorem d_L_law_662 : decode b_L_law 662 = .ok (.iaload, 1) := by decide +kernel
theorem d_L_law_663 : decode b_L_law 663 = .ok (.i2l, 1) := by decide +kernel
theorem d_L_law_664 : decode b_L_law 664 = .ok (.bipush 32, 2) := by decide +kernel
theorem d_L_law_666 : decode b_L_law 666 = .ok (.lshl, 1) := by decide +kernel
theorem d_L_law_667 : decode b_L_law 667 = .ok (.aload_n 0, 1) := by decide +kernel
theorem d_L_law_668 : decode b_L_law 668 = .ok (.iload 4, 2) := by decide +kernel
theorem d_L_law_670 : decode b_L_law 670 = .ok (.iconst 4, 1) := by decide +kernel
theorem d_L_law_671 : decode b_L_law 671 = .ok (.iadd, 1) := by decide +kernel
theorem d_L_law_672 : decode b_L_law 672 = .ok (.iaload, 1) := by decide +kernel
theorem d_L_law_673 : decode b_L_law 673 = .ok (.i2l, 1) := by decide +kernel
theorem d_L_law_674 : decode b_L_law 674 = .ok (.ldc2_w 36, 3) := by decide +kernel
theorem d_L_law_677 : decode b_L_law 677 = .ok (.land, 1) := by decide +kernel
theorem d_L_law_678 : decode b_L_law 678 = .ok (.lor, 1) := by decide +kernel
theorem d_L_law_679 : decode b_L_law 679 = .ok (.invokevirtual 84, 3) := by decide +kernel
theorem d_L_law_682 : decode b_L_law 682 = .ok (.aload_n 2, 1) := by decide +kernel
theorem d_L_law_683 : decode b_L_law 683 = .ok (.aload_n 0, 1) := by decide +kernel
theorem d_L_law_684 : decode b_L_law 684 = .ok (.iload 4, 2) := by decide +kernel
theorem d_L_law_686 : decode b_L_law 686 = .ok (.iconst 1, 1) := by decide +kernel
theorem d_L_law_687 : decode b_L_law 687 = .ok (.iadd, 1) := by decide +kernel
theorem d_L_law_688 : decode b_L_law 688 = .ok (.iaload, 1) := by decide +kernel
theorem d_L_law_689 : decode b_L_law 689 = .ok (.aload_n 0, 1) := by decide +kernel
theorem d_L_law_690 : decode b_L_law 690 = .ok (.iload 4, 2) := by decide +kernel
theorem d_L_law_692 : decode b_L_law 692 = .ok (.iconst 2, 1) := by decide +kernel
theorem d_L_law_693 : decode b_L_law 693 = .ok (.iadd, 1) := by decide +kernel
theorem d_L_law_694 : decode b_L_law 694 = .ok (.iaload, 1) := by decide +kernel
theorem d_L_law_695 : decode b_L_law 695 = .ok (.aload_n 0, 1) := by decide +kernel
theorem d_L_law_696 : decode b_L_law 696 = .ok (.iload 4, 2) := by decide +kernel
theorem d_L_law_698 : decode b_L_law 698 = .ok (.iconst 3, 1) := by decide +kernel
theorem d_L_law_699 : decode b_L_law 699 = .ok (.iadd, 1) := by decide +kernel
theorem d_L_law_700 : decode b_L_law 700 = .ok (.iaload, 1) := by decide +kernel
theorem d_L_law_701 : decode b_L_law 701 = .ok (.i2l, 1) := by decide +kernel
theorem d_L_law_702 : decode b_L_law 702 = .ok (.bipush 32, 2) := by decide +kernel
theorem d_L_law_704 : decode b_L_law 704 = .ok (.lshl, 1) := by decide +kernel
theorem d_L_law_705 : decode b_L_law 705 = .ok (.aload_n 0, 1) := by decide +kernel
theorem d_L_law_706 : decode b_L_law 706 = .ok (.iload 4, 2) := by decide +kernel
theorem d_L_law_708 : decode b_L_law 708 = .ok (.iconst 4, 1) := by decide +kernel
theorem d_L_law_709 : decode b_L_law 709 = .ok (.iadd, 1) := by decide +kernel
theorem d_L_law_710 : decode b_L_law 710 = .ok (.iaload, 1) := by decide +kernel
theorem d_L_law_711 : decode b_L_law 711 = .ok (.i2l, 1) := by decide +kernel
theorem d_L_law_712 : decode b_L_law 712 = .ok (.ldc2_w 36, 3) := by decide +kernel
theorem d_L_law_715 : decode b_L_law 715 = .ok (.land, 1) := by decide +kernel
theorem d_L_law_716 : decode b_L_law 716 = .ok (.lor, 1) := by decide +kernel
theorem d_L_law_717 : decode b_L_law 717 = .ok (.invokevirtual 88, 3) := by decide +kernel
theorem d_L_law_720 : decode b_L_law 720 = .ok (.if_icmp .eq 538, 3) := by decide +kernel
set_option maxRecDepth 100000 in
set_option maxHeartbeats 4000000 in
theorem law_terminal {p : Program} {l : Launch} {e : Env} {s : State} {m : MethodId} {below : List Frame} {meth : Method} {c : Code} {G : Gt} {b L : Nat} {xs : Nat → Int32} {zp zph zpt zs zsf zsu zse zsl zsr zt ztm ztr ztl ztf ztd ztdq zc zcl zclq zcr zcrq zpb zpm zm zmp zm1 zm2 zmx zmh zmt zmu zme zma zmb zmk zmc zmd zmi zmo zmf zmg zmn zo : Nat} {hv : Nat → Int64} {ht : Nat → Int32} {hm : Int32} {ml mr : Int64} {fi us ex : Nat → Int32} {lf rg : Nat → Int64} {md : Nat → Int32} {re fl fr : Nat → Int64} {tk cu cv kl kr : Int64} {bf mg : Nat → Int64} {th : Int32} {yu ye : Nat → Int32} {ya yb : Nat → Int64} {yc yd yi : Nat → Int64} {yo : Nat → Int32} {yn : Nat → Int64} {yp yq : Int64} {yw : Int32} {yx : Int64} {lo : Nat → Int64} (X : Cx G (LA s) p s m #[Value.ref b] c b_L_law 8 "PinModuleLaw") (hX : va_X b L xs s s.heap) (hbl : b < s.heap.size) (hE : Eh (LA s) s) (hfl : l.flags = pinnedFlags ++ [noTraceFlag]) (hL : L ≤ 4608) {i : Nat} (hi : 9 * i + 9 ≤ L) (ih : LawAt p l e s m below meth c G b zp zph zpt zs zsf zsu zse zsl zsr zt ztm ztr ztl ztf ztd ztdq zc zcl zclq zcr zcrq zpb zpm zm zmp zm1 zm2 zmx zmh zmt zmu zme zma zmb zmk zmc zmd zmi zmo zmf zmg zmn zo (i + 1)) (hR : R2 hm fi us ex lf rg md re fl fr yu ye ya yb yc yd yi yo) : Vw G (LA s) p l e room_1 s m #[Value.ref b] below meth c (lw_Z below #[Value.ref b] s) 8 (43 + i) (1035 + 6 * i) [ob zp 0 [.ref zph, .ref zpt, .int hm, .long ml, .long mr, .ref zs, .ref zt, .ref zc, .ref zpb, .ref zpm], aJ G zph 6 hv, aZ G zpt 6 ht, ob zs 1 [.ref zsf, .ref zsu, .ref zse, .ref zsl, .ref zsr], aZ G zsf 16 fi, aI G zsu 16 us, aZ G zse 16 ex, aJ G zsl 16 lf, aJ G zsr 16 rg, ob zt 2 [.ref ztm, .ref ztr, .ref ztl, .ref ztf, .ref ztd, .long cu, .long cv], aZ G ztm 8 md, aJ G ztr 8 re, aJ G ztl 8 fl, aJ G ztf 8 fr, ob ztd 4 [.ref ztdq, .long tk], aJ G ztdq 16 (rkF tk), ob zc 3 [.ref zcl, .ref zcr], ob zcl 4 [.ref zclq, .long kl], aJ G zclq 16 (rkF kl), ob zcr 4 [.ref zcrq, .long kr], aJ G zcrq 16 (rkF kr), aJ G zpb 5 bf, aJ G zpm 8 mg, ob zm 5 [.ref zmp, .ref zm1, .ref zm2, .ref zmx, .int th, .ref zmh, .ref zmt, .int hm, .long ml, .long mr, .ref zmu, .ref zme, .ref zma, .ref zmb, .ref zmk, .ref zmc, .ref zmd, .ref zmi, .ref zmo, .ref zmf, .ref zmg, .ref zmn, .long yp, .long yq, .int yw, .long yx], aI G zmp 32 tb_perm, aI G zm1 56 tb_c1, aI G zm2 48 tb_c2, aI G zmx 512 tb_box, aJ G zmh 6 hv, aZ G zmt 6 ht, aI G zmu 16 yu, aZ G zme 16 ye, aJ G zma 16 ya, aJ G zmb 16 yb, aZ G zmk 8 md, aJ G zmc 8 yc, aJ G zmd 8 yd, aJ G zmi 8 yi, aI G zmo 8 yo, aJ G zmf 5 bf, aJ G zmg 8 mg, aJ G zmn 16 yn, aJ G zo 1 lo] [(4, .int (nI (9 * i))), (0, .ref b), (1, .ref zp), (2, .ref zm), (3, .ref zo)] 644 [] := by
  refine pv_aload_n X 2 d_L_law_644 rfl ?_
  refine pv_aload_n X 1 d_L_law_645 rfl ?_
  refine pv_iload X 0 d_L_law_646 rfl ?_
  refine pv_iconst X 1 d_L_law_648 (by decide) ?_
  refine pv_iadd X d_L_law_649 ?_
  refine pv_topi (nI (9 * i + 1)) (nI_add (9 * i) 1) ?_
  refine pv_sld X hX hbl (Nat.not_le.mpr hbl) (vp_in_nI (by omega) (by omega)) d_L_law_650 ?_
  refine pv_topi (xs (9 * i + 1)) (congrArg xs (nI_clamp (by omega))) ?_
  refine pv_aload_n X 1 d_L_law_651 rfl ?_
  refine pv_iload X 0 d_L_law_652 rfl ?_
  refine pv_iconst X 2 d_L_law_654 (by decide) ?_
  refine pv_iadd X d_L_law_655 ?_
  refine pv_topi (nI (9 * i + 2)) (nI_add (9 * i) 2) ?_
  refine pv_sld X hX hbl (Nat.not_le.mpr hbl) (vp_in_nI (by omega) (by omega)) d_L_law_656 ?_
  refine pv_topi (xs (9 * i + 2)) (congrArg xs (nI_clamp (by omega))) ?_
  refine pv_aload_n X 1 d_L_law_657 rfl ?_
  refine pv_iload X 0 d_L_law_658 rfl ?_
  refine pv_iconst X 3 d_L_law_660 (by decide) ?_
  refine pv_iadd X d_L_law_661 ?_
  refine pv_topi (nI (9 * i + 3)) (nI_add (9 * i) 3) ?_
  refine pv_sld X hX hbl (Nat.not_le.mpr hbl) (vp_in_nI (by omega) (by omega)) d_L_law_662 ?_
  refine pv_topi (xs (9 * i + 3)) (congrArg xs (nI_clamp (by omega))) ?_
  refine pv_i2l X d_L_law_663 ?_
  refine pv_bipush X 32 d_L_law_664 (by decide) ?_
  refine pv_lshl X d_L_law_666 ?_
  refine pv_aload_n X 1 d_L_law_667 rfl ?_
  refine pv_iload X 0 d_L_law_668 rfl ?_
  refine pv_iconst X 4 d_L_law_670 (by decide) ?_
  refine pv_iadd X d_L_law_671 ?_
  refine pv_topi (nI (9 * i + 4)) (nI_add (9 * i) 4) ?_
  refine pv_sld X hX hbl (Nat.not_le.mpr hbl) (vp_in_nI (by omega) (by omega)) d_L_law_672 ?_
  refine pv_topi (xs (9 * i + 4)) (congrArg xs (nI_clamp (by omega))) ?_
  refine pv_i2l X d_L_law_673 ?_
  refine pv_ldc2_w X m_861 d_L_law_674 ?_
  refine pv_land X d_L_law_677 ?_
  refine pv_lor X d_L_law_678 ?_
  refine pv_topl (lw2 xs (9 * i + 3)) rfl ?_
  have hs := sim_terminal (ml := ml) (mr := mr) (tk := tk) (cu := cu) (cv := cv) (kl := kl) (kr := kr) (hv := hv) (ht := ht) (bf := bf) (mg := mg) (lo := lo) (th := th) (yn := yn) (yp := yp) (yq := yq) (yw := yw) (yx := yx) (xs (9 * i + 1)) (xs (9 * i + 2)) (lw2 xs (9 * i + 3)) hR 
  refine pv_calliE X (Cut.mk (w0 := [ob zp 0 [.ref zph, .ref zpt, .int hm, .long ml, .long mr, .ref zs, .ref zt, .ref zc, .ref zpb, .ref zpm], aJ G zph 6 hv, aZ G zpt 6 ht, ob zs 1 [.ref zsf, .ref zsu, .ref zse, .ref zsl, .ref zsr], aZ G zsf 16 fi, aI G zsu 16 us, aZ G zse 16 ex, aJ G zsl 16 lf, aJ G zsr 16 rg, ob zt 2 [.ref ztm, .ref ztr, .ref ztl, .ref ztf, .ref ztd, .long cu, .long cv], aZ G ztm 8 md, aJ G ztr 8 re, aJ G ztl 8 fl, aJ G ztf 8 fr, ob ztd 4 [.ref ztdq, .long tk], aJ G ztdq 16 (rkF tk), ob zc 3 [.ref zcl, .ref zcr], ob zcl 4 [.ref zclq, .long kl], aJ G zclq 16 (rkF kl), ob zcr 4 [.ref zcrq, .long kr], aJ G zcrq 16 (rkF kr), aJ G zpb 5 bf, aJ G zpm 8 mg]) (wr := [ob zm 5 [.ref zmp, .ref zm1, .ref zm2, .ref zmx, .int th, .ref zmh, .ref zmt, .int hm, .long ml, .long mr, .ref zmu, .ref zme, .ref zma, .ref zmb, .ref zmk, .ref zmc, .ref zmd, .ref zmi, .ref zmo, .ref zmf, .ref zmg, .ref zmn, .long yp, .long yq, .int yw, .long yx], aI G zmp 32 tb_perm, aI G zm1 56 tb_c1, aI G zm2 48 tb_c2, aI G zmx 512 tb_box, aJ G zmh 6 hv, aZ G zmt 6 ht, aI G zmu 16 yu, aZ G zme 16 ye, aJ G zma 16 ya, aJ G zmb 16 yb, aZ G zmk 8 md, aJ G zmc 8 yc, aJ G zmd 8 yd, aJ G zmi 8 yi, aI G zmo 8 yo, aJ G zmf 5 bf, aJ G zmg 8 mg, aJ G zmn 16 yn, aJ G zo 1 lo]) [0, 1, 2, 3, 4, 5, 6, 7, 8, 9, 10, 11, 12, 13, 14, 15, 16, 17, 18, 19, 20, 21, 22] [23, 24, 25, 26, 27, 28, 29, 30, 31, 32, 33, 34, 35, 36, 37, 38, 39, 40, 41, 42] rfl rfl rfl rfl rfl) (rn_V X (c_P_terminal l G zp zph zpt zs zsf zsu zse zsl zsr zt ztm ztr ztl ztf ztd ztdq zc zcl zclq zcr zcrq zpb zpm hv ht hm ml mr fi us ex lf rg md re fl fr tk cu cv kl kr bf mg (xs (9 * i + 1)) (xs (9 * i + 2)) (lw2 xs (9 * i + 3)) ) hE.1 mf_P_terminal m_283 m_284 m_285 rfl 0 rfl rfl rfl (by decide) ⟨show 43 + i + 0 ≤ 1073 by omega, show 1035 + 6 * i + 0 ≤ 9263 by omega⟩ rfl (Nat.le_of_ble_eq_true rfl) d_L_law_679) (fun x1 => ?_)
  refine pv_ord (ws2 := [ob zp 0 [.ref zph, .ref zpt, .int hm, .long ml, .long mr, .ref zs, .ref zt, .ref zc, .ref zpb, .ref zpm], aJ G zph 6 hv, aZ G zpt 6 ht, ob zs 1 [.ref zsf, .ref zsu, .ref zse, .ref zsl, .ref zsr], aZ G zsf 16 fi, aI G zsu 16 us, aZ G zse 16 ex, aJ G zsl 16 lf, aJ G zsr 16 rg, ob zt 2 [.ref ztm, .ref ztr, .ref ztl, .ref ztf, .ref ztd, .long cu, .long cv], aZ G ztm 8 (g_P_terminal_ztm hm fi us md (xs (9 * i + 1)) (xs (9 * i + 2)) (lw2 xs (9 * i + 3))), aJ G ztr 8 (g_P_terminal_ztr hm fi us md re (xs (9 * i + 1)) (xs (9 * i + 2)) (lw2 xs (9 * i + 3))), aJ G ztl 8 (g_P_terminal_ztl hm fi us lf rg md fl (xs (9 * i + 1)) (xs (9 * i + 2)) (lw2 xs (9 * i + 3))), aJ G ztf 8 (g_P_terminal_ztf hm fi us lf rg md fr (xs (9 * i + 1)) (xs (9 * i + 2)) (lw2 xs (9 * i + 3))), ob ztd 4 [.ref ztdq, .long tk], aJ G ztdq 16 (rkF tk), ob zc 3 [.ref zcl, .ref zcr], ob zcl 4 [.ref zclq, .long x1.1], aJ G zclq 16 (rkF x1.1), ob zcr 4 [.ref zcrq, .long x1.2], aJ G zcrq 16 (rkF x1.2), aJ G zpb 5 bf, aJ G zpm 8 mg, ob zm 5 [.ref zmp, .ref zm1, .ref zm2, .ref zmx, .int th, .ref zmh, .ref zmt, .int hm, .long ml, .long mr, .ref zmu, .ref zme, .ref zma, .ref zmb, .ref zmk, .ref zmc, .ref zmd, .ref zmi, .ref zmo, .ref zmf, .ref zmg, .ref zmn, .long yp, .long yq, .int yw, .long yx], aI G zmp 32 tb_perm, aI G zm1 56 tb_c1, aI G zm2 48 tb_c2, aI G zmx 512 tb_box, aJ G zmh 6 hv, aZ G zmt 6 ht, aI G zmu 16 yu, aZ G zme 16 ye, aJ G zma 16 ya, aJ G zmb 16 yb, aZ G zmk 8 md, aJ G zmc 8 yc, aJ G zmd 8 yd, aJ G zmi 8 yi, aI G zmo 8 yo, aJ G zmf 5 bf, aJ G zmg 8 mg, aJ G zmn 16 yn, aJ G zo 1 lo]) [20, 21, 22, 23, 24, 25, 26, 27, 28, 29, 30, 31, 32, 33, 34, 35, 36, 37, 38, 39, 40, 41, 42, 0, 1, 2, 3, 4, 5, 6, 7, 8, 9, 10, 11, 12, 13, 14, 15, 16, 17, 18, 19] rfl rfl ?_
  refine pv_widen (k2 := 43 + i) (n2 := 1035 + 6 * i) (Nat.le_refl _) (Nat.le_refl _) ?_
  refine pv_aload_n X 3 d_L_law_682 rfl ?_
  refine pv_aload_n X 1 d_L_law_683 rfl ?_
  refine pv_iload X 0 d_L_law_684 rfl ?_
  refine pv_iconst X 1 d_L_law_686 (by decide) ?_
  refine pv_iadd X d_L_law_687 ?_
  refine pv_topi (nI (9 * i + 1)) (nI_add (9 * i) 1) ?_
  refine pv_sld X hX hbl (Nat.not_le.mpr hbl) (vp_in_nI (by omega) (by omega)) d_L_law_688 ?_
  refine pv_topi (xs (9 * i + 1)) (congrArg xs (nI_clamp (by omega))) ?_
  refine pv_aload_n X 1 d_L_law_689 rfl ?_
  refine pv_iload X 0 d_L_law_690 rfl ?_
  refine pv_iconst X 2 d_L_law_692 (by decide) ?_
  refine pv_iadd X d_L_law_693 ?_
  refine pv_topi (nI (9 * i + 2)) (nI_add (9 * i) 2) ?_
  refine pv_sld X hX hbl (Nat.not_le.mpr hbl) (vp_in_nI (by omega) (by omega)) d_L_law_694 ?_
  refine pv_topi (xs (9 * i + 2)) (congrArg xs (nI_clamp (by omega))) ?_
  refine pv_aload_n X 1 d_L_law_695 rfl ?_
  refine pv_iload X 0 d_L_law_696 rfl ?_
  refine pv_iconst X 3 d_L_law_698 (by decide) ?_
  refine pv_iadd X d_L_law_699 ?_
  refine pv_topi (nI (9 * i + 3)) (nI_add (9 * i) 3) ?_
  refine pv_sld X hX hbl (Nat.not_le.mpr hbl) (vp_in_nI (by omega) (by omega)) d_L_law_700 ?_
  refine pv_topi (xs (9 * i + 3)) (congrArg xs (nI_clamp (by omega))) ?_
  refine pv_i2l X d_L_law_701 ?_
  refine pv_bipush X 32 d_L_law_702 (by decide) ?_
  refine pv_lshl X d_L_law_704 ?_
  refine pv_aload_n X 1 d_L_law_705 rfl ?_
  refine pv_iload X 0 d_L_law_706 rfl ?_
  refine pv_iconst X 4 d_L_law_708 (by decide) ?_
  refine pv_iadd X d_L_law_709 ?_
  refine pv_topi (nI (9 * i + 4)) (nI_add (9 * i) 4) ?_
  refine pv_sld X hX hbl (Nat.not_le.mpr hbl) (vp_in_nI (by omega) (by omega)) d_L_law_710 ?_
  refine pv_topi (xs (9 * i + 4)) (congrArg xs (nI_clamp (by omega))) ?_
  refine pv_i2l X d_L_law_711 ?_
  refine pv_ldc2_w X m_861 d_L_law_712 ?_
  refine pv_land X d_L_law_715 ?_
  refine pv_lor X d_L_law_716 ?_
  refine pv_topl (lw2 xs (9 * i + 3)) rfl ?_
  refine pv_calliE X (Cut.mk (w0 := [ob zm 5 [.ref zmp, .ref zm1, .ref zm2, .ref zmx, .int th, .ref zmh, .ref zmt, .int hm, .long ml, .long mr, .ref zmu, .ref zme, .ref zma, .ref zmb, .ref zmk, .ref zmc, .ref zmd, .ref zmi, .ref zmo, .ref zmf, .ref zmg, .ref zmn, .long yp, .long yq, .int yw, .long yx], aI G zmp 32 tb_perm, aI G zm1 56 tb_c1, aI G zm2 48 tb_c2, aI G zmx 512 tb_box, aJ G zmh 6 hv, aZ G zmt 6 ht, aI G zmu 16 yu, aZ G zme 16 ye, aJ G zma 16 ya, aJ G zmb 16 yb, aZ G zmk 8 md, aJ G zmc 8 yc, aJ G zmd 8 yd, aJ G zmi 8 yi, aI G zmo 8 yo, aJ G zmf 5 bf, aJ G zmg 8 mg, aJ G zmn 16 yn]) (wr := [ob zp 0 [.ref zph, .ref zpt, .int hm, .long ml, .long mr, .ref zs, .ref zt, .ref zc, .ref zpb, .ref zpm], aJ G zph 6 hv, aZ G zpt 6 ht, ob zs 1 [.ref zsf, .ref zsu, .ref zse, .ref zsl, .ref zsr], aZ G zsf 16 fi, aI G zsu 16 us, aZ G zse 16 ex, aJ G zsl 16 lf, aJ G zsr 16 rg, ob zt 2 [.ref ztm, .ref ztr, .ref ztl, .ref ztf, .ref ztd, .long cu, .long cv], aZ G ztm 8 (g_P_terminal_ztm hm fi us md (xs (9 * i + 1)) (xs (9 * i + 2)) (lw2 xs (9 * i + 3))), aJ G ztr 8 (g_P_terminal_ztr hm fi us md re (xs (9 * i + 1)) (xs (9 * i + 2)) (lw2 xs (9 * i + 3))), aJ G ztl 8 (g_P_terminal_ztl hm fi us lf rg md fl (xs (9 * i + 1)) (xs (9 * i + 2)) (lw2 xs (9 * i + 3))), aJ G ztf 8 (g_P_terminal_ztf hm fi us lf rg md fr (xs (9 * i + 1)) (xs (9 * i + 2)) (lw2 xs (9 * i + 3))), ob ztd 4 [.ref ztdq, .long tk], aJ G ztdq 16 (rkF tk), ob zc 3 [.ref zcl, .ref zcr], ob zcl 4 [.ref zclq, .long x1.1], aJ G zclq 16 (rkF x1.1), ob zcr 4 [.ref zcrq, .long x1.2], aJ G zcrq 16 (rkF x1.2), aJ G zpb 5 bf, aJ G zpm 8 mg, aJ G zo 1 lo]) [23, 24, 25, 26, 27, 28, 29, 30, 31, 32, 33, 34, 35, 36, 37, 38, 39, 40, 41] [0, 1, 2, 3, 4, 5, 6, 7, 8, 9, 10, 11, 12, 13, 14, 15, 16, 17, 18, 19, 20, 21, 22, 42] rfl rfl rfl rfl rfl) (rn_V X (c_M_terminal l G zm zmp zm1 zm2 zmx zmh zmt zmu zme zma zmb zmk zmc zmd zmi zmo zmf zmg zmn th hm ml mr hv ht yu ye ya yb md yc yd yi yo bf mg yn yp yq yw yx (xs (9 * i + 1)) (xs (9 * i + 2)) (lw2 xs (9 * i + 3)) ) trivial mf_M_terminal m_776 m_777 m_778 rfl 0 rfl rfl rfl (by decide) ⟨show 43 + i + 0 ≤ 1073 by omega, show 1035 + 6 * i + 0 ≤ 9263 by omega⟩ rfl (Nat.le_of_ble_eq_true rfl) d_L_law_717) (fun x2 => ?_)
  refine pv_ord (ws2 := [ob zp 0 [.ref zph, .ref zpt, .int hm, .long ml, .long mr, .ref zs, .ref zt, .ref zc, .ref zpb, .ref zpm], aJ G zph 6 hv, aZ G zpt 6 ht, ob zs 1 [.ref zsf, .ref zsu, .ref zse, .ref zsl, .ref zsr], aZ G zsf 16 fi, aI G zsu 16 us, aZ G zse 16 ex, aJ G zsl 16 lf, aJ G zsr 16 rg, ob zt 2 [.ref ztm, .ref ztr, .ref ztl, .ref ztf, .ref ztd, .long cu, .long cv], aZ G ztm 8 (g_P_terminal_ztm hm fi us md (xs (9 * i + 1)) (xs (9 * i + 2)) (lw2 xs (9 * i + 3))), aJ G ztr 8 (g_P_terminal_ztr hm fi us md re (xs (9 * i + 1)) (xs (9 * i + 2)) (lw2 xs (9 * i + 3))), aJ G ztl 8 (g_P_terminal_ztl hm fi us lf rg md fl (xs (9 * i + 1)) (xs (9 * i + 2)) (lw2 xs (9 * i + 3))), aJ G ztf 8 (g_P_terminal_ztf hm fi us lf rg md fr (xs (9 * i + 1)) (xs (9 * i + 2)) (lw2 xs (9 * i + 3))), ob ztd 4 [.ref ztdq, .long tk], aJ G ztdq 16 (rkF tk), ob zc 3 [.ref zcl, .ref zcr], ob zcl 4 [.ref zclq, .long x1.1], aJ G zclq 16 (rkF x1.1), ob zcr 4 [.ref zcrq, .long x1.2], aJ G zcrq 16 (rkF x1.2), aJ G zpb 5 bf, aJ G zpm 8 mg, ob zm 5 [.ref zmp, .ref zm1, .ref zm2, .ref zmx, .int g_M_terminal_zm_4, .ref zmh, .ref zmt, .int hm, .long ml, .long mr, .ref zmu, .ref zme, .ref zma, .ref zmb, .ref zmk, .ref zmc, .ref zmd, .ref zmi, .ref zmo, .ref zmf, .ref zmg, .ref zmn, .long yp, .long yq, .int yw, .long yx], aI G zmp 32 tb_perm, aI G zm1 56 tb_c1, aI G zm2 48 tb_c2, aI G zmx 512 tb_box, aJ G zmh 6 hv, aZ G zmt 6 ht, aI G zmu 16 yu, aZ G zme 16 ye, aJ G zma 16 ya, aJ G zmb 16 yb, aZ G zmk 8 (g_M_terminal_zmk hm yu md (xs (9 * i + 1)) (xs (9 * i + 2)) (lw2 xs (9 * i + 3))), aJ G zmc 8 (g_M_terminal_zmc hm yu ya md yc (xs (9 * i + 1)) (xs (9 * i + 2)) (lw2 xs (9 * i + 3))), aJ G zmd 8 (g_M_terminal_zmd hm yu yb md yd (xs (9 * i + 1)) (xs (9 * i + 2)) (lw2 xs (9 * i + 3))), aJ G zmi 8 (g_M_terminal_zmi hm yu md yi (xs (9 * i + 1)) (xs (9 * i + 2)) (lw2 xs (9 * i + 3))), aI G zmo 8 (g_M_terminal_zmo hm yu md yo (xs (9 * i + 1)) (xs (9 * i + 2)) (lw2 xs (9 * i + 3))), aJ G zmf 5 bf, aJ G zmg 8 mg, aJ G zmn 16 yn, aJ G zo 1 lo]) [0, 1, 2, 3, 4, 5, 6, 7, 8, 9, 10, 11, 12, 13, 14, 15, 16, 17, 18, 19, 20, 21, 22, 24, 25, 26, 27, 28, 29, 30, 31, 32, 33, 34, 35, 36, 37, 38, 39, 40, 41, 42, 23] rfl rfl ?_
  refine pv_widen (k2 := 43 + i) (n2 := 1035 + 6 * i) (Nat.le_refl _) (Nat.le_refl _) ?_
  refine pv_icmp_eq X 1258 d_L_law_720 rfl (fun _ => ?_) (fun h => absurd hs.1 h)
  refine pv_lpick (ll2 := [(4, .int (nI (9 * i))), (0, .ref b), (1, .ref zp), (2, .ref zm), (3, .ref zo)]) [0, 1, 2, 3, 4] rfl ?_
  refine pv_eqw (ws2 := [ob zp 0 [.ref zph, .ref zpt, .int hm, .long ml, .long mr, .ref zs, .ref zt, .ref zc, .ref zpb, .ref zpm], aJ G zph 6 hv, aZ G zpt 6 ht, ob zs 1 [.ref zsf, .ref zsu, .ref zse, .ref zsl, .ref zsr], aZ G zsf 16 fi, aI G zsu 16 us, aZ G zse 16 ex, aJ G zsl 16 lf, aJ G zsr 16 rg, ob zt 2 [.ref ztm, .ref ztr, .ref ztl, .ref ztf, .ref ztd, .long cu, .long cv], aZ G ztm 8 (g_P_terminal_ztm hm fi us md (xs (9 * i + 1)) (xs (9 * i + 2)) (lw2 xs (9 * i + 3))), aJ G ztr 8 (g_P_terminal_ztr hm fi us md re (xs (9 * i + 1)) (xs (9 * i + 2)) (lw2 xs (9 * i + 3))), aJ G ztl 8 (g_P_terminal_ztl hm fi us lf rg md fl (xs (9 * i + 1)) (xs (9 * i + 2)) (lw2 xs (9 * i + 3))), aJ G ztf 8 (g_P_terminal_ztf hm fi us lf rg md fr (xs (9 * i + 1)) (xs (9 * i + 2)) (lw2 xs (9 * i + 3))), ob ztd 4 [.ref ztdq, .long tk], aJ G ztdq 16 (rkF tk), ob zc 3 [.ref zcl, .ref zcr], ob zcl 4 [.ref zclq, .long x1.1], aJ G zclq 16 (rkF x1.1), ob zcr 4 [.ref zcrq, .long x1.2], aJ G zcrq 16 (rkF x1.2), aJ G zpb 5 bf, aJ G zpm 8 mg, ob zm 5 [.ref zmp, .ref zm1, .ref zm2, .ref zmx, .int g_M_terminal_zm_4, .ref zmh, .ref zmt, .int hm, .long ml, .long mr, .ref zmu, .ref zme, .ref zma, .ref zmb, .ref zmk, .ref zmc, .ref zmd, .ref zmi, .ref zmo, .ref zmf, .ref zmg, .ref zmn, .long yp, .long yq, .int yw, .long yx], aI G zmp 32 tb_perm, aI G zm1 56 tb_c1, aI G zm2 48 tb_c2, aI G zmx 512 tb_box, aJ G zmh 6 hv, aZ G zmt 6 ht, aI G zmu 16 yu, aZ G zme 16 ye, aJ G zma 16 ya, aJ G zmb 16 yb, aZ G zmk 8 (g_P_terminal_ztm hm fi us md (xs (9 * i + 1)) (xs (9 * i + 2)) (lw2 xs (9 * i + 3))), aJ G zmc 8 (g_M_terminal_zmc hm yu ya md yc (xs (9 * i + 1)) (xs (9 * i + 2)) (lw2 xs (9 * i + 3))), aJ G zmd 8 (g_M_terminal_zmd hm yu yb md yd (xs (9 * i + 1)) (xs (9 * i + 2)) (lw2 xs (9 * i + 3))), aJ G zmi 8 (g_M_terminal_zmi hm yu md yi (xs (9 * i + 1)) (xs (9 * i + 2)) (lw2 xs (9 * i + 3))), aI G zmo 8 (g_M_terminal_zmo hm yu md yo (xs (9 * i + 1)) (xs (9 * i + 2)) (lw2 xs (9 * i + 3))), aJ G zmf 5 bf, aJ G zmg 8 mg, aJ G zmn 16 yn, aJ G zo 1 lo]) (by rw [hs.2.1]) ?_
  exact law_back X hX hbl hE hfl hL hi ih hs.2.2 (by omega) (by omega)
