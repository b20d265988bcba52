theorem d_L_law_987 : decode b_L_law 987 = .ok (.aload_n 1, 1) := by decide +kernel
theorem d_L_law_988 : decode b_L_law 988 = .ok (.aload_n 0, 1) := by decide +kernel
theorem d_L_law_989 : decode b_L_law 989 = .ok (.iload 4, 2) := by decide +kernel
theorem d_L_law_991 : decode b_L_law 991 = .ok (.iconst 1, 1) := by decide +kernel
theorem d_L_law_992 : decode b_L_law 992 = .ok (.iadd, 1) := by decide +kernel
theorem d_L_law_993 : decode b_L_law 993 = .ok (.iaload, 1) := by decide +kernel
theorem d_L_law_994 : decode b_L_law 994 = .ok (.aload_n 0, 1) := by decide +kernel
theorem d_L_law_995 : decode b_L_law 995 = .ok (.iload 4, 2) := by decide +kernel
theorem d_L_law_997 : decode b_L_law 997 = .ok (.iconst 2, 1) := by decide +kernel
theorem d_L_law_998 : decode b_L_law 998 = .ok (.iadd, 1) := by decide +kernel
theorem d_L_law_999 : decode b_L_law 999 = .ok (.iaload, 1) := by decide +kernel
theorem d_L_law_1000 : decode b_L_law 1000 = .ok (.aload_n 0, 1) := by decide +kernel
theorem d_L_law_1001 : decode b_L_law 1001 = .ok (.iload 4, 2) := by decide +kernel
theorem d_L_law_1003 : decode b_L_law 1003 = .ok (.iconst 3, 1) := by decide +kernel
theorem d_L_law_1004 : decode b_L_law 1004 = .ok (.iadd, 1) := by decide +kernel
theorem d_L_law_1005 : decode b_L_law 1005 = .ok (.iaload, 1) := by decide +kernel
theorem d_L_law_1006 : decode b_L_law 1006 = .ok (.aload_n 0, 1) := by decide +kernel
theorem d_L_law_1007 : decode b_L_law 1007 = .ok (.iload 4, 2) := by decide +kernel
theorem d_L_law_1009 : decode b_L_law 1009 = .ok (.iconst 4, 1) := by decide +kernel
theorem d_L_law_1010 : decode b_L_law 1010 = .ok (.iadd, 1) := by decide +kernel
theorem d_L_law_1011 : decode b_L_law 1011 = .ok (.iaload, 1) := by decide +kernel
theorem d_L_law_1012 : decode b_L_law 1012 = .ok (.i2l, 1) := by decide +kernel
theorem d_L_law_1013 : decode b_L_law 1013 = .ok (.bipush 32, 2) := by decide +kernel
theorem d_L_law_1015 : decode b_L_law 1015 = .ok (.lshl, 1) := by decide +kernel
theorem d_L_law_1016 : decode b_L_law 1016 = .ok (.aload_n 0, 1) := by decide +kernel
theorem d_L_law_1017 : decode b_L_law 1017 = .ok (.iload 4, 2) := by decide +kernel
theorem d_L_law_1019 : decode b_L_law 1019 = .ok (.iconst 5, 1) := by decide +kernel
theorem d_L_law_1020 : decode b_L_law 1020 = .ok (.iadd, 1) := by decide +kernel
theorem d_L_law_1021 : decode b_L_law 1021 = .ok (.iaload, 1) := by decide +kernel
theorem d_L_law_1022 : decode b_L_law 1022 = .ok (.i2l, 1) := by decide +kernel
theorem d_L_law_1023 : decode b_L_law 1023 = .ok (.ldc2_w 36, 3) := by decide +kernel
theorem d_L_law_1026 : decode b_L_law 1026 = .ok (.land, 1) := by decide +kernel
theorem d_L_law_1027 : decode b_L_law 1027 = .ok (.lor, 1) := by decide +kernel
theorem d_L_law_1028 : decode b_L_law 1028 = .ok (.aload_n 0, 1) := by decide +kernel
theorem d_L_law_1029 : decode b_L_law 1029 = .ok (.iload 4, 2) := by decide +kernel
theorem d_L_law_1031 : decode b_L_law 1031 = .ok (.bipush 6, 2) := by decide +kernel
theorem d_L_law_1033 : decode b_L_law 1033 = .ok (.iadd, 1) := by decide +kernel
theorem d_L_law_1034 : decode b_L_law 1034 = .ok (.iaload, 1) := by decide +kernel
theorem d_L_law_1035 : decode b_L_law 1035 = .ok (.i2l, 1) := by decide +kernel
theorem d_L_law_1036 : decode b_L_law 1036 = .ok (.bipush 32, 2) := by decide +kernel
theorem d_L_law_1038 : decode b_L_law 1038 = .ok (.lshl, 1) := by decide +kernel
theorem d_L_law_1039 : decode b_L_law 1039 = .ok (.aload_n 0, 1) := by decide +kernel
theorem d_L_law_1040 : decode b_L_law 1040 = .ok (.iload 4, 2) := by decide +kernel
theorem d_L_law_1042 : decode b_L_law 1042 = .ok (.bipush 7, 2) := by decide +kernel
theorem d_L_law_1044 : decode b_L_law 1044 = .ok (.iadd, 1) := by decide +kernel
theorem d_L_law_1045 : decode b_L_law 1045 = .ok (.iaload, 1) := by decide +kernel
theorem d_L_law_1046 : decode b_L_law 1046 = .ok (.i2l, 1) := by decide +kernel
theorem d_L_law_1047 : decode b_L_law 1047 = .ok (.ldc2_w 36, 3) := by decide +kernel
theorem d_L_law_1050 : decode b_L_law 1050 = .ok (.land, 1) := by decide +kernel
theorem d_L_law_1051 : decode b_L_law 1051 = .ok (.lor, 1) := by decide +kernel
theorem d_L_law_1052 : decode b_L_law 1052 = .ok (.invokevirtual 107, 3) := by decide +kernel
theorem d_L_law_1055 : decode b_L_law 1055 = .ok (.aload_n 2, 1) := by decide +kernel
theorem d_L_law_1056 : decode b_L_law 1056 = .ok (.aload_n 0, 1) := by decide +kernel
theorem d_L_law_1057 : decode b_L_law 1057 = .ok (.iload 4, 2) := by decide +kernel
theorem d_L_law_1059 : decode b_L_law 1059 = .ok (.iconst 1, 1) := by decide +kernel
theorem d_L_law_1060 : decode b_L_law 1060 = .ok (.iadd, 1) := by decide +kernel
theorem d_L_law_1061 : decode b_L_law 1061 = .ok (.iaload, 1) := by decide +kernel
theorem d_L_law_1062 : decode b_L_law 1062 = .ok (.aload_n 0, 1) := by decide +kernel
theorem d_L_law_1063 : decode b_L_law 1063 = .ok (.iload 4, 2) := by decide +kernel
theorem d_L_law_1065 : decode b_L_law 1065 = .ok (.iconst 2, 1) := by decide +kernel
theorem d_L_law_1066 : decode b_L_law 1066 = .ok (.iadd, 1) := by decide +kernel
theorem d_L_law_1067 : decode b_L_law 1067 = .ok (.iaload, 1) := by decide +kernel
theorem d_L_law_1068 : decode b_L_law 1068 = .ok (.aload_n 0, 1) := by decide +kernel
theorem d_L_law_1069 : decode b_L_law 1069 = .ok (.iload 4, 2) := by decide +kernel
theorem d_L_law_1071 : decode b_L_law 1071 = .ok (.iconst 3, 1) := by decide +kernel
theorem d_L_law_1072 : decode b_L_law 1072 = .ok (.iadd, 1) := by decide +kernel
theorem d_L_law_1073 : decode b_L_law 1073 = .ok (.iaload, 1) := by decide +kernel
theorem d_L_law_1074 : decode b_L_law 1074 = .ok (.aload_n 0, 1) := by decide +kernel
theorem d_L_law_1075 : decode b_L_law 1075 = .ok (.iload 4, 2) := by decide +kernel
theorem d_L_law_1077 : decode b_L_law 1077 = .ok (.iconst 4, 1) := by decide +kernel
theorem d_L_law_1078 : decode b_L_law 1078 = .ok (.iadd, 1) := by decide +kernel
theorem d_L_law_1079 : decode b_L_law 1079 = .ok (.iaload, 1) := by decide +kernel
theorem d_L_law_1080 : decode b_L_law 1080 = .ok (.i2l, 1) := by decide +kernel
theorem d_L_law_1081 : decode b_L_law 1081 = .ok (.bipush 32, 2) := by decide +kernel
theorem d_L_law_1083 : decode b_L_law 1083 = .ok (.lshl, 1) := by decide +kernel
theorem d_L_law_1084 : decode b_L_law 1084 = .ok (.aload_n 0, 1) := by decide +kernel
theorem d_L_law_1085 : decode b_L_law 1085 = .ok (.iload 4, 2) := by decide +kernel
theorem d_L_law_1087 : decode b_L_law 1087 = .ok (.iconst 5, 1) := by decide +kernel
theorem d_L_law_1088 : decode b_L_law 1088 = .ok (.iadd, 1) := by decide +kernel
theorem d_L_law_1089 : decode b_L_law 1089 = .ok (.iaload, 1) := by decide +kernel
theorem d_L_law_1090 : decode b_L_law 1090 = .ok (.i2l, 1) := by decide +kernel
theorem d_L_law_1091 : decode b_L_law 1091 = .ok (.ldc2_w 36, 3) := by decide +kernel
theorem d_L_law_1094 : decode b_L_law 1094 = .ok (.land, 1) := by decide +kernel
theorem d_L_law_1095 : decode b_L_law 1095 = .ok (.lor, 1) := by decide +kernel
theorem d_L_law_1096 : decode b_L_law 1096 = .ok (.aload_n 0, 1) := by decide +kernel
theorem d_L_law_1097 : decode b_L_law 1097 = .ok (.iload 4, 2) := by decide +kernel
theorem d_L_law_1099 : decode b_L_law 1099 = .ok (.bipush 6, 2) := by decide +kernel
theorem d_L_law_1101 : decode b_L_law 1101 = .ok (.iadd, 1) := by decide +kernel
theorem d_L_law_1102 : decode b_L_law 1102 = .ok (.iaload, 1) := by decide +kernel
theorem d_L_law_1103 : decode b_L_law 1103 = .ok (.i2l, 1) := by decide +kernel
theorem d_L_law_1104 : decode b_L_law 1104 = .ok (.bipush 32, 2) := by decide +kernel
theorem d_L_law_1106 : decode b_L_law 1106 = .ok (.lshl, 1) := by decide +kernel
theorem d_L_law_1107 : decode b_L_law 1107 = .ok (.aload_n 0, 1) := by decide +kernel
theorem d_L_law_1108 : decode b_L_law 1108 = .ok (.iload 4, 2) := by decide +kernel
theorem d_L_law_1110 : decode b_L_law 1110 = .ok (.bipush 7, 2) := by decide +kernel
theorem d_L_law_1112 : decode b_L_law 1112 = .ok (.iadd, 1) := by decide +kernel
theorem d_L_law_1113 : decode b_L_law 1113 = .ok (.iaload, 1) := by decide +kernel
theorem d_L_law_1114 : decode b_L_law 1114 = .ok (.i2l, 1) := by decide +kernel
theorem d_L_law_1115 : decode b_L_law 1115 = .ok (.ldc2_w 36, 3) := by decide +kernel
theorem d_L_law_1118 : decode b_L_law 1118 = .ok (.land, 1) := by decide +kernel
theorem d_L_law_1119 : decode b_L_law 1119 = .ok (.lor, 1) := by decide +kernel
theorem d_L_law_1120 : decode b_L_law 1120 = .ok (.invokevirtual 111, 3) := by decide +kernel
theorem d_L_law_1123 : decode b_L_law 1123 = .ok (.if_icmp .eq 135, 3) := by decide +kernel
set_option maxRecDepth 100000 in
set_option maxHeartbeats 4000000 in
theorem law_translate {p : Program} {l : Launch} {e : Env} {s : State} {m : MethodId} {below : List Frame} {meth : Method} {c : Code} {G : Gt} {b L : Nat} {xs : Nat → Int32} {zp zph zpt zs zsf zsu zse zsl zsr zt ztm ztr ztl ztf ztd ztdq zc zcl zclq zcr zcrq zpb zpm zm zmp zm1 zm2 zmx zmh zmt zmu zme zma zmb zmk zmc zmd zmi zmo zmf zmg zmn zo : Nat} {hv : Nat → Int64} {ht : Nat → Int32} {hm : Int32} {ml mr : Int64} {fi us ex : Nat → Int32} {lf rg : Nat → Int64} {md : Nat → Int32} {re fl fr : Nat → Int64} {tk cu cv kl kr : Int64} {bf mg : Nat → Int64} {th : Int32} {yu ye : Nat → Int32} {ya yb : Nat → Int64} {yc yd yi : Nat → Int64} {yo : Nat → Int32} {yn : Nat → Int64} {yp yq : Int64} {yw : Int32} {yx : Int64} {lo : Nat → Int64} (X : Cx G (LA s) p s m #[Value.ref b] c b_L_law 8 "PinModuleLaw") (hX : va_X b L xs s s.heap) (hbl : b < s.heap.size) (hE : Eh (LA s) s) (hfl : l.flags = pinnedFlags ++ [noTraceFlag]) (hL : L ≤ 4608) {i : Nat} (hi : 9 * i + 9 ≤ L) (ih : LawAt p l e s m below meth c G b zp zph zpt zs zsf zsu zse zsl zsr zt ztm ztr ztl ztf ztd ztdq zc zcl zclq zcr zcrq zpb zpm zm zmp zm1 zm2 zmx zmh zmt zmu zme zma zmb zmk zmc zmd zmi zmo zmf zmg zmn zo (i + 1)) (hR : R2 hm fi us ex lf rg md re fl fr yu ye ya yb yc yd yi yo) : Vw G (LA s) p l e room_1 s m #[Value.ref b] below meth c (lw_Z below #[Value.ref b] s) 8 (43 + i) (1035 + 6 * i) [ob zp 0 [.ref zph, .ref zpt, .int hm, .long ml, .long mr, .ref zs, .ref zt, .ref zc, .ref zpb, .ref zpm], aJ G zph 6 hv, aZ G zpt 6 ht, ob zs 1 [.ref zsf, .ref zsu, .ref zse, .ref zsl, .ref zsr], aZ G zsf 16 fi, aI G zsu 16 us, aZ G zse 16 ex, aJ G zsl 16 lf, aJ G zsr 16 rg, ob zt 2 [.ref ztm, .ref ztr, .ref ztl, .ref ztf, .ref ztd, .long cu, .long cv], aZ G ztm 8 md, aJ G ztr 8 re, aJ G ztl 8 fl, aJ G ztf 8 fr, ob ztd 4 [.ref ztdq, .long tk], aJ G ztdq 16 (rkF tk), ob zc 3 [.ref zcl, .ref zcr], ob zcl 4 [.ref zclq, .long kl], aJ G zclq 16 (rkF kl), ob zcr 4 [.ref zcrq, .long kr], aJ G zcrq 16 (rkF kr), aJ G zpb 5 bf, aJ G zpm 8 mg, ob zm 5 [.ref zmp, .ref zm1, .ref zm2, .ref zmx, .int th, .ref zmh, .ref zmt, .int hm, .long ml, .long mr, .ref zmu, .ref zme, .ref zma, .ref zmb, .ref zmk, .ref zmc, .ref zmd, .ref zmi, .ref zmo, .ref zmf, .ref zmg, .ref zmn, .long yp, .long yq, .int yw, .long yx], aI G zmp 32 tb_perm, aI G zm1 56 tb_c1, aI G zm2 48 tb_c2, aI G zmx 512 tb_box, aJ G zmh 6 hv, aZ G zmt 6 ht, aI G zmu 16 yu, aZ G zme 16 ye, aJ G zma 16 ya, aJ G zmb 16 yb, aZ G zmk 8 md, aJ G zmc 8 yc, aJ G zmd 8 yd, aJ G zmi 8 yi, aI G zmo 8 yo, aJ G zmf 5 bf, aJ G zmg 8 mg, aJ G zmn 16 yn, aJ G zo 1 lo] [(4, .int (nI (9 * i))), (0, .ref b), (1, .ref zp), (2, .ref zm), (3, .ref zo)] 987 [] := by
  refine pv_aload_n X 2 d_L_law_987 rfl ?_
  refine pv_aload_n X 1 d_L_law_988 rfl ?_
  refine pv_iload X 0 d_L_law_989 rfl ?_
  refine pv_iconst X 1 d_L_law_991 (by decide) ?_
  refine pv_iadd X d_L_law_992 ?_
  refine pv_topi (nI (9 * i + 1)) (nI_add (9 * i) 1) ?_
  refine pv_sld X hX hbl (Nat.not_le.mpr hbl) (vp_in_nI (by omega) (by omega)) d_L_law_993 ?_
  refine pv_topi (xs (9 * i + 1)) (congrArg xs (nI_clamp (by omega))) ?_
  refine pv_aload_n X 1 d_L_law_994 rfl ?_
  refine pv_iload X 0 d_L_law_995 rfl ?_
  refine pv_iconst X 2 d_L_law_997 (by decide) ?_
  refine pv_iadd X d_L_law_998 ?_
  refine pv_topi (nI (9 * i + 2)) (nI_add (9 * i) 2) ?_
  refine pv_sld X hX hbl (Nat.not_le.mpr hbl) (vp_in_nI (by omega) (by omega)) d_L_law_999 ?_
  refine pv_topi (xs (9 * i + 2)) (congrArg xs (nI_clamp (by omega))) ?_
  refine pv_aload_n X 1 d_L_law_1000 rfl ?_
  refine pv_iload X 0 d_L_law_1001 rfl ?_
  refine pv_iconst X 3 d_L_law_1003 (by decide) ?_
  refine pv_iadd X d_L_law_1004 ?_
  refine pv_topi (nI (9 * i + 3)) (nI_add (9 * i) 3) ?_
  refine pv_sld X hX hbl (Nat.not_le.mpr hbl) (vp_in_nI (by omega) (by omega)) d_L_law_1005 ?_
  refine pv_topi (xs (9 * i + 3)) (congrArg xs (nI_clamp (by omega))) ?_
  refine pv_aload_n X 1 d_L_law_1006 rfl ?_
  refine pv_iload X 0 d_L_law_1007 rfl ?_
  refine pv_iconst X 4 d_L_law_1009 (by decide) ?_
  refine pv_iadd X d_L_law_1010 ?_
  refine pv_topi (nI (9 * i + 4)) (nI_add (9 * i) 4) ?_
  refine pv_sld X hX hbl (Nat.not_le.mpr hbl) (vp_in_nI (by omega) (by omega)) d_L_law_1011 ?_
  refine pv_topi (xs (9 * i + 4)) (congrArg xs (nI_clamp (by omega))) ?_
  refine pv_i2l X d_L_law_1012 ?_
  refine pv_bipush X 32 d_L_law_1013 (by decide) ?_
  refine pv_lshl X d_L_law_1015 ?_
  refine pv_aload_n X 1 d_L_law_1016 rfl ?_
  refine pv_iload X 0 d_L_law_1017 rfl ?_
  refine pv_iconst X 5 d_L_law_1019 (by decide) ?_
  refine pv_iadd X d_L_law_1020 ?_
  refine pv_topi (nI (9 * i + 5)) (nI_add (9 * i) 5) ?_
  refine pv_sld X hX hbl (Nat.not_le.mpr hbl) (vp_in_nI (by omega) (by omega)) d_L_law_1021 ?_
  refine pv_topi (xs (9 * i + 5)) (congrArg xs (nI_clamp (by omega))) ?_
  refine pv_i2l X d_L_law_1022 ?_
  refine pv_ldc2_w X m_861 d_L_law_1023 ?_
  refine pv_land X d_L_law_1026 ?_
  refine pv_lor X d_L_law_1027 ?_
  refine pv_topl (lw2 xs (9 * i + 4)) rfl ?_
  refine pv_aload_n X 1 d_L_law_1028 rfl ?_
  refine pv_iload X 0 d_L_law_1029 rfl ?_
  refine pv_bipush X 6 d_L_law_1031 (by decide) ?_
  refine pv_iadd X d_L_law_1033 ?_
  refine pv_topi (nI (9 * i + 6)) (nI_add (9 * i) 6) ?_
  refine pv_sld X hX hbl (Nat.not_le.mpr hbl) (vp_in_nI (by omega) (by omega)) d_L_law_1034 ?_
  refine pv_topi (xs (9 * i + 6)) (congrArg xs (nI_clamp (by omega))) ?_
  refine pv_i2l X d_L_law_1035 ?_
  refine pv_bipush X 32 d_L_law_1036 (by decide) ?_
  refine pv_lshl X d_L_law_1038 ?_
  refine pv_aload_n X 1 d_L_law_1039 rfl ?_
  refine pv_iload X 0 d_L_law_1040 rfl ?_
  refine pv_bipush X 7 d_L_law_1042 (by decide) ?_
  refine pv_iadd X d_L_law_1044 ?_
  refine pv_topi (nI (9 * i + 7)) (nI_add (9 * i) 7) ?_
  refine pv_sld X hX hbl (Nat.not_le.mpr hbl) (vp_in_nI (by omega) (by omega)) d_L_law_1045 ?_
  refine pv_topi (xs (9 * i + 7)) (congrArg xs (nI_clamp (by omega))) ?_
  refine pv_i2l X d_L_law_1046 ?_
  refine pv_ldc2_w X m_861 d_L_law_1047 ?_
  refine pv_land X d_L_law_1050 ?_
  refine pv_lor X d_L_law_1051 ?_
  refine pv_topl (lw2 xs (9 * i + 6)) rfl ?_
  have hs := sim_translate (ml := ml) (mr := mr) (tk := tk) (cu := cu) (cv := cv) (kl := kl) (kr := kr) (hv := hv) (ht := ht) (bf := bf) (mg := mg) (lo := lo) (th := th) (yn := yn) (yp := yp) (yq := yq) (yw := yw) (yx := yx) (xs (9 * i + 1)) (xs (9 * i + 2)) (xs (9 * i + 3)) (lw2 xs (9 * i + 4)) (lw2 xs (9 * i + 6)) hR 
  refine pv_calliE X (Cut.mk (w0 := [ob zp 0 [.ref zph, .ref zpt, .int hm, .long ml, .long mr, .ref zs, .ref zt, .ref zc, .ref zpb, .ref zpm], aJ G zph 6 hv, aZ G zpt 6 ht, ob zs 1 [.ref zsf, .ref zsu, .ref zse, .ref zsl, .ref zsr], aZ G zsf 16 fi, aI G zsu 16 us, aZ G zse 16 ex, aJ G zsl 16 lf, aJ G zsr 16 rg, ob zt 2 [.ref ztm, .ref ztr, .ref ztl, .ref ztf, .ref ztd, .long cu, .long cv], aZ G ztm 8 md, aJ G ztr 8 re, aJ G ztl 8 fl, aJ G ztf 8 fr, ob ztd 4 [.ref ztdq, .long tk], aJ G ztdq 16 (rkF tk), ob zc 3 [.ref zcl, .ref zcr], ob zcl 4 [.ref zclq, .long kl], aJ G zclq 16 (rkF kl), ob zcr 4 [.ref zcrq, .long kr], aJ G zcrq 16 (rkF kr), aJ G zpb 5 bf, aJ G zpm 8 mg]) (wr := [ob zm 5 [.ref zmp, .ref zm1, .ref zm2, .ref zmx, .int th, .ref zmh, .ref zmt, .int hm, .long ml, .long mr, .ref zmu, .ref zme, .ref zma, .ref zmb, .ref zmk, .ref zmc, .ref zmd, .ref zmi, .ref zmo, .ref zmf, .ref zmg, .ref zmn, .long yp, .long yq, .int yw, .long yx], aI G zmp 32 tb_perm, aI G zm1 56 tb_c1, aI G zm2 48 tb_c2, aI G zmx 512 tb_box, aJ G zmh 6 hv, aZ G zmt 6 ht, aI G zmu 16 yu, aZ G zme 16 ye, aJ G zma 16 ya, aJ G zmb 16 yb, aZ G zmk 8 md, aJ G zmc 8 yc, aJ G zmd 8 yd, aJ G zmi 8 yi, aI G zmo 8 yo, aJ G zmf 5 bf, aJ G zmg 8 mg, aJ G zmn 16 yn, aJ G zo 1 lo]) [0, 1, 2, 3, 4, 5, 6, 7, 8, 9, 10, 11, 12, 13, 14, 15, 16, 17, 18, 19, 20, 21, 22] [23, 24, 25, 26, 27, 28, 29, 30, 31, 32, 33, 34, 35, 36, 37, 38, 39, 40, 41, 42] rfl rfl rfl rfl rfl) (rn_V X (c_P_translate l G zp zph zpt zs zsf zsu zse zsl zsr zt ztm ztr ztl ztf ztd ztdq zc zcl zclq zcr zcrq zpb zpm hv ht hm ml mr fi us ex lf rg md re fl fr tk cu cv kl kr bf mg (xs (9 * i + 1)) (xs (9 * i + 2)) (xs (9 * i + 3)) (lw2 xs (9 * i + 4)) (lw2 xs (9 * i + 6)) hR.2.1 hR.2.2.2.2.1) hE.1 mf_P_translate m_399 m_400 m_401 rfl 0 rfl rfl rfl (by decide) ⟨show 43 + i + 0 ≤ 1073 by omega, show 1035 + 6 * i + 0 ≤ 9263 by omega⟩ rfl (Nat.le_of_ble_eq_true rfl) d_L_law_1052) (fun x1 => ?_)
  refine pv_ord (ws2 := [ob zp 0 [.ref zph, .ref zpt, .int hm, .long ml, .long mr, .ref zs, .ref zt, .ref zc, .ref zpb, .ref zpm], aJ G zph 6 hv, aZ G zpt 6 ht, ob zs 1 [.ref zsf, .ref zsu, .ref zse, .ref zsl, .ref zsr], aZ G zsf 16 fi, aI G zsu 16 us, aZ G zse 16 ex, aJ G zsl 16 lf, aJ G zsr 16 rg, ob zt 2 [.ref ztm, .ref ztr, .ref ztl, .ref ztf, .ref ztd, .long x1.2.1, .long x1.2.2.1], aZ G ztm 8 md, aJ G ztr 8 re, aJ G ztl 8 fl, aJ G ztf 8 fr, ob ztd 4 [.ref ztdq, .long x1.1], aJ G ztdq 16 (rkF x1.1), ob zc 3 [.ref zcl, .ref zcr], ob zcl 4 [.ref zclq, .long x1.2.2.2.1], aJ G zclq 16 (rkF x1.2.2.2.1), ob zcr 4 [.ref zcrq, .long x1.2.2.2.2], aJ G zcrq 16 (rkF x1.2.2.2.2), aJ G zpb 5 (g_P_translate_zpb hm fi us lf rg md re fl fr tk bf (xs (9 * i + 1)) (xs (9 * i + 2)) (xs (9 * i + 3)) (lw2 xs (9 * i + 4)) (lw2 xs (9 * i + 6))), aJ G zpm 8 mg, ob zm 5 [.ref zmp, .ref zm1, .ref zm2, .ref zmx, .int th, .ref zmh, .ref zmt, .int hm, .long ml, .long mr, .ref zmu, .ref zme, .ref zma, .ref zmb, .ref zmk, .ref zmc, .ref zmd, .ref zmi, .ref zmo, .ref zmf, .ref zmg, .ref zmn, .long yp, .long yq, .int yw, .long yx], aI G zmp 32 tb_perm, aI G zm1 56 tb_c1, aI G zm2 48 tb_c2, aI G zmx 512 tb_box, aJ G zmh 6 hv, aZ G zmt 6 ht, aI G zmu 16 yu, aZ G zme 16 ye, aJ G zma 16 ya, aJ G zmb 16 yb, aZ G zmk 8 md, aJ G zmc 8 yc, aJ G zmd 8 yd, aJ G zmi 8 yi, aI G zmo 8 yo, aJ G zmf 5 bf, aJ G zmg 8 mg, aJ G zmn 16 yn, aJ G zo 1 lo]) [20, 21, 22, 23, 24, 25, 26, 27, 28, 29, 30, 31, 32, 33, 34, 35, 36, 37, 38, 39, 40, 41, 42, 0, 1, 2, 3, 4, 5, 6, 7, 8, 9, 10, 11, 12, 13, 14, 15, 16, 17, 18, 19] rfl rfl ?_
  refine pv_widen (k2 := 43 + i) (n2 := 1035 + 6 * i) (Nat.le_refl _) (Nat.le_refl _) ?_
  refine pv_aload_n X 3 d_L_law_1055 rfl ?_
  refine pv_aload_n X 1 d_L_law_1056 rfl ?_
  refine pv_iload X 0 d_L_law_1057 rfl ?_
  refine pv_iconst X 1 d_L_law_1059 (by decide) ?_
  refine pv_iadd X d_L_law_1060 ?_
  refine pv_topi (nI (9 * i + 1)) (nI_add (9 * i) 1) ?_
  refine pv_sld X hX hbl (Nat.not_le.mpr hbl) (vp_in_nI (by omega) (by omega)) d_L_law_1061 ?_
  refine pv_topi (xs (9 * i + 1)) (congrArg xs (nI_clamp (by omega))) ?_
  refine pv_aload_n X 1 d_L_law_1062 rfl ?_
  refine pv_iload X 0 d_L_law_1063 rfl ?_
  refine pv_iconst X 2 d_L_law_1065 (by decide) ?_
  refine pv_iadd X d_L_law_1066 ?_
  refine pv_topi (nI (9 * i + 2)) (nI_add (9 * i) 2) ?_
  refine pv_sld X hX hbl (Nat.not_le.mpr hbl) (vp_in_nI (by omega) (by omega)) d_L_law_1067 ?_
  refine pv_topi (xs (9 * i + 2)) (congrArg xs (nI_clamp (by omega))) ?_
  refine pv_aload_n X 1 d_L_law_1068 rfl ?_
  refine pv_iload X 0 d_L_law_1069 rfl ?_
  refine pv_iconst X 3 d_L_law_1071 (by decide) ?_
  refine pv_iadd X d_L_law_1072 ?_
  refine pv_topi (nI (9 * i + 3)) (nI_add (9 * i) 3) ?_
  refine pv_sld X hX hbl (Nat.not_le.mpr hbl) (vp_in_nI (by omega) (by omega)) d_L_law_1073 ?_
  refine pv_topi (xs (9 * i + 3)) (congrArg xs (nI_clamp (by omega))) ?_
  refine pv_aload_n X 1 d_L_law_1074 rfl ?_
  refine pv_iload X 0 d_L_law_1075 rfl ?_
  refine pv_iconst X 4 d_L_law_1077 (by decide) ?_
  refine pv_iadd X d_L_law_1078 ?_
  refine pv_topi (nI (9 * i + 4)) (nI_add (9 * i) 4) ?_
  refine pv_sld X hX hbl (Nat.not_le.mpr hbl) (vp_in_nI (by omega) (by omega)) d_L_law_1079 ?_
  refine pv_topi (xs (9 * i + 4)) (congrArg xs (nI_clamp (by omega))) ?_
  refine pv_i2l X d_L_law_1080 ?_
  refine pv_bipush X 32 d_L_law_1081 (by decide) ?_
  refine pv_lshl X d_L_law_1083 ?_
  refine pv_aload_n X 1 d_L_law_1084 rfl ?_
  refine pv_iload X 0 d_L_law_1085 rfl ?_
  refine pv_iconst X 5 d_L_law_1087 (by decide) ?_
  refine pv_iadd X d_L_law_1088 ?_
  refine pv_topi (nI (9 * i + 5)) (nI_add (9 * i) 5) ?_
  refine pv_sld X hX hbl (Nat.not_le.mpr hbl) (vp_in_nI (by omega) (by omega)) d_L_law_1089 ?_
  refine pv_topi (xs (9 * i + 5)) (congrArg xs (nI_clamp (by omega))) ?_
  refine pv_i2l X d_L_law_1090 ?_
  refine pv_ldc2_w X m_861 d_L_law_1091 ?_
  refine pv_land X d_L_law_1094 ?_
  refine pv_lor X d_L_law_1095 ?_
  refine pv_topl (lw2 xs (9 * i + 4)) rfl ?_
  refine pv_aload_n X 1 d_L_law_1096 rfl ?_
  refine pv_iload X 0 d_L_law_1097 rfl ?_
  refine pv_bipush X 6 d_L_law_1099 (by decide) ?_
  refine pv_iadd X d_L_law_1101 ?_
  refine pv_topi (nI (9 * i + 6)) (nI_add (9 * i) 6) ?_
  refine pv_sld X hX hbl (Nat.not_le.mpr hbl) (vp_in_nI (by omega) (by omega)) d_L_law_1102 ?_
  refine pv_topi (xs (9 * i + 6)) (congrArg xs (nI_clamp (by omega))) ?_
  refine pv_i2l X d_L_law_1103 ?_
  refine pv_bipush X 32 d_L_law_1104 (by decide) ?_
  refine pv_lshl X d_L_law_1106 ?_
  refine pv_aload_n X 1 d_L_law_1107 rfl ?_
  refine pv_iload X 0 d_L_law_1108 rfl ?_
  refine pv_bipush X 7 d_L_law_1110 (by decide) ?_
  refine pv_iadd X d_L_law_1112 ?_
  refine pv_topi (nI (9 * i + 7)) (nI_add (9 * i) 7) ?_
  refine pv_sld X hX hbl (Nat.not_le.mpr hbl) (vp_in_nI (by omega) (by omega)) d_L_law_1113 ?_
  refine pv_topi (xs (9 * i + 7)) (congrArg xs (nI_clamp (by omega))) ?_
  refine pv_i2l X d_L_law_1114 ?_
  refine pv_ldc2_w X m_861 d_L_law_1115 ?_
  refine pv_land X d_L_law_1118 ?_
  refine pv_lor X d_L_law_1119 ?_
  refine pv_topl (lw2 xs (9 * i + 6)) rfl ?_
  refine pv_calliE X (Cut.mk (w0 := [ob zm 5 [.ref zmp, .ref zm1, .ref zm2, .ref zmx, .int th, .ref zmh, .ref zmt, .int hm, .long ml, .long mr, .ref zmu, .ref zme, .ref zma, .ref zmb, .ref zmk, .ref zmc, .ref zmd, .ref zmi, .ref zmo, .ref zmf, .ref zmg, .ref zmn, .long yp, .long yq, .int yw, .long yx], aI G zmp 32 tb_perm, aI G zm1 56 tb_c1, aI G zm2 48 tb_c2, aI G zmx 512 tb_box, aJ G zmh 6 hv, aZ G zmt 6 ht, aI G zmu 16 yu, aZ G zme 16 ye, aJ G zma 16 ya, aJ G zmb 16 yb, aZ G zmk 8 md, aJ G zmc 8 yc, aJ G zmd 8 yd, aJ G zmi 8 yi, aI G zmo 8 yo, aJ G zmf 5 bf, aJ G zmg 8 mg, aJ G zmn 16 yn]) (wr := [ob zp 0 [.ref zph, .ref zpt, .int hm, .long ml, .long mr, .ref zs, .ref zt, .ref zc, .ref zpb, .ref zpm], aJ G zph 6 hv, aZ G zpt 6 ht, ob zs 1 [.ref zsf, .ref zsu, .ref zse, .ref zsl, .ref zsr], aZ G zsf 16 fi, aI G zsu 16 us, aZ G zse 16 ex, aJ G zsl 16 lf, aJ G zsr 16 rg, ob zt 2 [.ref ztm, .ref ztr, .ref ztl, .ref ztf, .ref ztd, .long x1.2.1, .long x1.2.2.1], aZ G ztm 8 md, aJ G ztr 8 re, aJ G ztl 8 fl, aJ G ztf 8 fr, ob ztd 4 [.ref ztdq, .long x1.1], aJ G ztdq 16 (rkF x1.1), ob zc 3 [.ref zcl, .ref zcr], ob zcl 4 [.ref zclq, .long x1.2.2.2.1], aJ G zclq 16 (rkF x1.2.2.2.1), ob zcr 4 [.ref zcrq, .long x1.2.2.2.2], aJ G zcrq 16 (rkF x1.2.2.2.2), aJ G zpb 5 (g_P_translate_zpb hm fi us lf rg md re fl fr tk bf (xs (9 * i + 1)) (xs (9 * i + 2)) (xs (9 * i + 3)) (lw2 xs (9 * i + 4)) (lw2 xs (9 * i + 6))), aJ G zpm 8 mg, aJ G zo 1 lo]) [23, 24, 25, 26, 27, 28, 29, 30, 31, 32, 33, 34, 35, 36, 37, 38, 39, 40, 41] [0, 1, 2, 3, 4, 5, 6, 7, 8, 9, 10, 11, 12, 13, 14, 15, 16, 17, 18, 19, 20, 21, 22, 42] rfl rfl rfl rfl rfl) (rn_V X (c_M_translate l G zm zmp zm1 zm2 zmx zmh zmt zmu zme zma zmb zmk zmc zmd zmi zmo zmf zmg zmn th hm ml mr hv ht yu ye ya yb md yc yd yi yo bf mg yn yp yq yw yx (xs (9 * i + 1)) (xs (9 * i + 2)) (xs (9 * i + 3)) (lw2 xs (9 * i + 4)) (lw2 xs (9 * i + 6)) hR.2.2.2.2.1) trivial mf_M_translate m_843 m_844 m_845 rfl 0 rfl rfl rfl (by decide) ⟨show 43 + i + 0 ≤ 1073 by omega, show 1035 + 6 * i + 0 ≤ 9263 by omega⟩ rfl (Nat.le_of_ble_eq_true rfl) d_L_law_1120) (fun x2 => ?_)
  refine pv_ord (ws2 := [ob zp 0 [.ref zph, .ref zpt, .int hm, .long ml, .long mr, .ref zs, .ref zt, .ref zc, .ref zpb, .ref zpm], aJ G zph 6 hv, aZ G zpt 6 ht, ob zs 1 [.ref zsf, .ref zsu, .ref zse, .ref zsl, .ref zsr], aZ G zsf 16 fi, aI G zsu 16 us, aZ G zse 16 ex, aJ G zsl 16 lf, aJ G zsr 16 rg, ob zt 2 [.ref ztm, .ref ztr, .ref ztl, .ref ztf, .ref ztd, .long x1.2.1, .long x1.2.2.1], aZ G ztm 8 md, aJ G ztr 8 re, aJ G ztl 8 fl, aJ G ztf 8 fr, ob ztd 4 [.ref ztdq, .long x1.1], aJ G ztdq 16 (rkF x1.1), ob zc 3 [.ref zcl, .ref zcr], ob zcl 4 [.ref zclq, .long x1.2.2.2.1], aJ G zclq 16 (rkF x1.2.2.2.1), ob zcr 4 [.ref zcrq, .long x1.2.2.2.2], aJ G zcrq 16 (rkF x1.2.2.2.2), aJ G zpb 5 (g_P_translate_zpb hm fi us lf rg md re fl fr tk bf (xs (9 * i + 1)) (xs (9 * i + 2)) (xs (9 * i + 3)) (lw2 xs (9 * i + 4)) (lw2 xs (9 * i + 6))), aJ G zpm 8 mg, ob zm 5 [.ref zmp, .ref zm1, .ref zm2, .ref zmx, .int g_M_translate_zm_4, .ref zmh, .ref zmt, .int hm, .long ml, .long mr, .ref zmu, .ref zme, .ref zma, .ref zmb, .ref zmk, .ref zmc, .ref zmd, .ref zmi, .ref zmo, .ref zmf, .ref zmg, .ref zmn, .long x2.2.1, .long x2.2.2.1, .int x2.2.2.2.1, .long x2.2.2.2.2], aI G zmp 32 tb_perm, aI G zm1 56 tb_c1, aI G zm2 48 tb_c2, aI G zmx 512 tb_box, aJ G zmh 6 hv, aZ G zmt 6 ht, aI G zmu 16 yu, aZ G zme 16 ye, aJ G zma 16 ya, aJ G zmb 16 yb, aZ G zmk 8 md, aJ G zmc 8 yc, aJ G zmd 8 yd, aJ G zmi 8 yi, aI G zmo 8 yo, aJ G zmf 5 (g_M_translate_zmf hm yu ya yb md yc yd yi yo bf yn yw yx (xs (9 * i + 1)) (xs (9 * i + 2)) (xs (9 * i + 3)) (lw2 xs (9 * i + 4)) (lw2 xs (9 * i + 6))), aJ G zmg 8 mg, aJ G zmn 16 x2.1, aJ G zo 1 lo]) [0, 1, 2, 3, 4, 5, 6, 7, 8, 9, 10, 11, 12, 13, 14, 15, 16, 17, 18, 19, 20, 21, 22, 24, 25, 26, 27, 28, 29, 30, 31, 32, 33, 34, 35, 36, 37, 38, 39, 40, 41, 42, 23] rfl rfl ?_
  refine pv_widen (k2 := 43 + i) (n2 := 1035 + 6 * i) (Nat.le_refl _) (Nat.le_refl _) ?_
  refine pv_icmp_eq X 1258 d_L_law_1123 rfl (fun _ => ?_) (fun h => absurd hs.1 h)
  refine pv_lpick (ll2 := [(4, .int (nI (9 * i))), (0, .ref b), (1, .ref zp), (2, .ref zm), (3, .ref zo)]) [0, 1, 2, 3, 4] rfl ?_
  refine pv_eqw (ws2 := [ob zp 0 [.ref zph, .ref zpt, .int hm, .long ml, .long mr, .ref zs, .ref zt, .ref zc, .ref zpb, .ref zpm], aJ G zph 6 hv, aZ G zpt 6 ht, ob zs 1 [.ref zsf, .ref zsu, .ref zse, .ref zsl, .ref zsr], aZ G zsf 16 fi, aI G zsu 16 us, aZ G zse 16 ex, aJ G zsl 16 lf, aJ G zsr 16 rg, ob zt 2 [.ref ztm, .ref ztr, .ref ztl, .ref ztf, .ref ztd, .long x1.2.1, .long x1.2.2.1], aZ G ztm 8 md, aJ G ztr 8 re, aJ G ztl 8 fl, aJ G ztf 8 fr, ob ztd 4 [.ref ztdq, .long x1.1], aJ G ztdq 16 (rkF x1.1), ob zc 3 [.ref zcl, .ref zcr], ob zcl 4 [.ref zclq, .long x1.2.2.2.1], aJ G zclq 16 (rkF x1.2.2.2.1), ob zcr 4 [.ref zcrq, .long x1.2.2.2.2], aJ G zcrq 16 (rkF x1.2.2.2.2), aJ G zpb 5 (g_P_translate_zpb hm fi us lf rg md re fl fr tk bf (xs (9 * i + 1)) (xs (9 * i + 2)) (xs (9 * i + 3)) (lw2 xs (9 * i + 4)) (lw2 xs (9 * i + 6))), aJ G zpm 8 mg, ob zm 5 [.ref zmp, .ref zm1, .ref zm2, .ref zmx, .int g_M_translate_zm_4, .ref zmh, .ref zmt, .int hm, .long ml, .long mr, .ref zmu, .ref zme, .ref zma, .ref zmb, .ref zmk, .ref zmc, .ref zmd, .ref zmi, .ref zmo, .ref zmf, .ref zmg, .ref zmn, .long x2.2.1, .long x2.2.2.1, .int x2.2.2.2.1, .long x2.2.2.2.2], aI G zmp 32 tb_perm, aI G zm1 56 tb_c1, aI G zm2 48 tb_c2, aI G zmx 512 tb_box, aJ G zmh 6 hv, aZ G zmt 6 ht, aI G zmu 16 yu, aZ G zme 16 ye, aJ G zma 16 ya, aJ G zmb 16 yb, aZ G zmk 8 md, aJ G zmc 8 yc, aJ G zmd 8 yd, aJ G zmi 8 yi, aI G zmo 8 yo, aJ G zmf 5 (g_P_translate_zpb hm fi us lf rg md re fl fr tk bf (xs (9 * i + 1)) (xs (9 * i + 2)) (xs (9 * i + 3)) (lw2 xs (9 * i + 4)) (lw2 xs (9 * i + 6))), aJ G zmg 8 mg, aJ G zmn 16 x2.1, aJ G zo 1 lo]) (by rw [hs.2]) ?_
  exact law_back X hX hbl hE hfl hL hi ih hR (by omega) (by omega)
