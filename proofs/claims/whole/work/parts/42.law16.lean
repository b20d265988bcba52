theorem d_L_law_1128 : decode b_L_law 1128 = .ok (.aload_n 1, 1) := by decide +kernel
theorem d_L_law_1129 : decode b_L_law 1129 = .ok (.aload_n 0, 1) := by decide +kernel
theorem d_L_law_1130 : decode b_L_law 1130 = .ok (.iload 4, 2) := by decide +kernel
theorem d_L_law_1132 : decode b_L_law 1132 = .ok (.iconst 1, 1) := by decide +kernel
theorem d_L_law_1133 : decode b_L_law 1133 = .ok (.iadd, 1) := by decide +kernel
theorem d_L_law_1134 : decode b_L_law 1134 = .ok (.iaload, 1) := by decide +kernel
theorem d_L_law_1135 : decode b_L_law 1135 = .ok (.aload_n 0, 1) := by decide +kernel
theorem d_L_law_1136 : decode b_L_law 1136 = .ok (.iload 4, 2) := by decide +kernel
theorem d_L_law_1138 : decode b_L_law 1138 = .ok (.iconst 2, 1) := by decide +kernel
theorem d_L_law_1139 : decode b_L_law 1139 = .ok (.iadd, 1) := by decide +kernel
theorem d_L_law_1140 : decode b_L_law 1140 = .ok (.iaload, 1) := by decide +kernel
theorem d_L_law_1141 : decode b_L_law 1141 = .ok (.aload_n 0, 1) := by decide +kernel
theorem d_L_law_1142 : decode b_L_law 1142 = .ok (.iload 4, 2) := by decide +kernel
theorem d_L_law_1144 : decode b_L_law 1144 = .ok (.iconst 3, 1) := by decide +kernel
theorem d_L_law_1145 : decode b_L_law 1145 = .ok (.iadd, 1) := by decide +kernel
theorem d_L_law_1146 : decode b_L_law 1146 = .ok (.iaload, 1) := by decide +kernel
theorem d_L_law_1147 : decode b_L_law 1147 = .ok (.i2l, 1) := by decide +kernel
theorem d_L_law_1148 : decode b_L_law 1148 = .ok (.bipush 32, 2) := by decide +kernel
theorem d_L_law_1150 : decode b_L_law 1150 = .ok (.lshl, 1) := by decide +kernel
theorem d_L_law_1151 : decode b_L_law 1151 = .ok (.aload_n 0, 1) := by decide +kernel
theorem d_L_law_1152 : decode b_L_law 1152 = .ok (.iload 4, 2) := by decide +kernel
theorem d_L_law_1154 : decode b_L_law 1154 = .ok (.iconst 4, 1) := by decide +kernel
theorem d_L_law_1155 : decode b_L_law 1155 = .ok (.iadd, 1) := by decide +kernel
theorem d_L_law_1156 : decode b_L_law 1156 = .ok (.iaload, 1) := by decide +kernel
theorem d_L_law_1157 : decode b_L_law 1157 = .ok (.i2l, 1) := by decide +kernel
theorem d_L_law_1158 : decode b_L_law 1158 = .ok (.ldc2_w 36, 3) := by decide +kernel
theorem d_L_law_1161 : decode b_L_law 1161 = .ok (.land, 1) := by decide +kernel
theorem d_L_law_1162 : decode b_L_law 1162 = .ok (.lor, 1) := by decide +kernel
theorem d_L_law_1163 : decode b_L_law 1163 = .ok (.aload_n 0, 1) := by decide +kernel
theorem d_L_law_1164 : decode b_L_law 1164 = .ok (.iload 4, 2) := by decide +kernel
theorem d_L_law_1166 : decode b_L_law 1166 = .ok (.iconst 5, 1) := by decide +kernel
theorem d_L_law_1167 : decode b_L_law 1167 = .ok (.iadd, 1) := by decide +kernel
theorem d_L_law_1168 : decode b_L_law 1168 = .ok (.iaload, 1) := by decide +kernel
theorem d_L_law_1169 : decode b_L_law 1169 = .ok (.invokevirtual 112, 3) := by decide +kernel
theorem d_L_law_1172 : decode b_L_law 1172 = .ok (.aload_n 2, 1) := by decide +kernel
theorem d_L_law_1173 : decode b_L_law 1173 = .ok (.aload_n 0, 1) := by decide +kernel
theorem d_L_law_1174 : decode b_L_law 1174 = .ok (.iload 4, 2) := by decide +kernel
theorem d_L_law_1176 : decode b_L_law 1176 = .ok (.iconst 1, 1) := by decide +kernel
theorem d_L_law_1177 : decode b_L_law 1177 = .ok (.iadd, 1) := by decide +kernel
theorem d_L_law_1178 : decode b_L_law 1178 = .ok (.iaload, 1) := by decide +kernel
theorem d_L_law_1179 : decode b_L_law 1179 = .ok (.aload_n 0, 1) := by decide +kernel
theorem d_L_law_1180 : decode b_L_law 1180 = .ok (.iload 4, 2) := by decide +kernel
theorem d_L_law_1182 : decode b_L_law 1182 = .ok (.iconst 2, 1) := by decide +kernel
theorem d_L_law_1183 : decode b_L_law 1183 = .ok (.iadd, 1) := by decide +kernel
theorem d_L_law_1184 : decode b_L_law 1184 = .ok (.iaload, 1) := by decide +kernel
theorem d_L_law_1185 : decode b_L_law 1185 = .ok (.aload_n 0, 1) := by decide +kernel
theorem d_L_law_1186 : decode b_L_law 1186 = .ok (.iload 4, 2) := by decide +kernel
theorem d_L_law_1188 : decode b_L_law 1188 = .ok (.iconst 3, 1) := by decide +kernel
theorem d_L_law_1189 : decode b_L_law 1189 = .ok (.iadd, 1) := by decide +kernel
theorem d_L_law_1190 : decode b_L_law 1190 = .ok (.iaload, 1) := by decide +kernel
theorem d_L_law_1191 : decode b_L_law 1191 = .ok (.i2l, 1) := by decide +kernel
theorem d_L_law_1192 : decode b_L_law 1192 = .ok (.bipush 32, 2) := by decide +kernel
theorem d_L_law_1194 : decode b_L_law 1194 = .ok (.lshl, 1) := by decide +kernel
theorem d_L_law_1195 : decode b_L_law 1195 = .ok (.aload_n 0, 1) := by decide +kernel
theorem d_L_law_1196 : decode b_L_law 1196 = .ok (.iload 4, 2) := by decide +kernel
theorem d_L_law_1198 : decode b_L_law 1198 = .ok (.iconst 4, 1) := by decide +kernel
theorem d_L_law_1199 : decode b_L_law 1199 = .ok (.iadd, 1) := by decide +kernel
theorem d_L_law_1200 : decode b_L_law 1200 = .ok (.iaload, 1) := by decide +kernel
theorem d_L_law_1201 : decode b_L_law 1201 = .ok (.i2l, 1) := by decide +kernel
theorem d_L_law_1202 : decode b_L_law 1202 = .ok (.ldc2_w 36, 3) := by decide +kernel
theorem d_L_law_1205 : decode b_L_law 1205 = .ok (.land, 1) := by decide +kernel
theorem d_L_law_1206 : decode b_L_law 1206 = .ok (.lor, 1) := by decide +kernel
theorem d_L_law_1207 : decode b_L_law 1207 = .ok (.aload_n 0, 1) := by decide +kernel
theorem d_L_law_1208 : decode b_L_law 1208 = .ok (.iload 4, 2) := by decide +kernel
theorem d_L_law_1210 : decode b_L_law 1210 = .ok (.iconst 5, 1) := by decide +kernel
theorem d_L_law_1211 : decode b_L_law 1211 = .ok (.iadd, 1) := by decide +kernel
theorem d_L_law_1212 : decode b_L_law 1212 = .ok (.iaload, 1) := by decide +kernel
theorem d_L_law_1213 : decode b_L_law 1213 = .ok (.invokevirtual 116, 3) := by decide +kernel
theorem d_L_law_1216 : decode b_L_law 1216 = .ok (.if_icmp .eq 42, 3) := by decide +kernel
set_option maxRecDepth 100000 in
set_option maxHeartbeats 4000000 in
theorem law_verify {p : Program} {l : Launch} {e : Env} {s : State} {m : MethodId} {below : List Frame} {meth : Method} {c : Code} {G : Gt} {b L : Nat} {xs : Nat → Int32} {zp zph zpt zs zsf zsu zse zsl zsr zt ztm ztr ztl ztf ztd ztdq zc zcl zclq zcr zcrq zpb zpm zm zmp zm1 zm2 zmx zmh zmt zmu zme zma zmb zmk zmc zmd zmi zmo zmf zmg zmn zo : Nat} {hv : Nat → Int64} {ht : Nat → Int32} {hm : Int32} {ml mr : Int64} {fi us ex : Nat → Int32} {lf rg : Nat → Int64} {md : Nat → Int32} {re fl fr : Nat → Int64} {tk cu cv kl kr : Int64} {bf mg : Nat → Int64} {th : Int32} {yu ye : Nat → Int32} {ya yb : Nat → Int64} {yc yd yi : Nat → Int64} {yo : Nat → Int32} {yn : Nat → Int64} {yp yq : Int64} {yw : Int32} {yx : Int64} {lo : Nat → Int64} (X : Cx G (LA s) p s m #[Value.ref b] c b_L_law 8 "PinModuleLaw") (hX : va_X b L xs s s.heap) (hbl : b < s.heap.size) (hE : Eh (LA s) s) (hfl : l.flags = pinnedFlags ++ [noTraceFlag]) (hL : L ≤ 4608) {i : Nat} (hi : 9 * i + 9 ≤ L) (ih : LawAt p l e s m below meth c G b zp zph zpt zs zsf zsu zse zsl zsr zt ztm ztr ztl ztf ztd ztdq zc zcl zclq zcr zcrq zpb zpm zm zmp zm1 zm2 zmx zmh zmt zmu zme zma zmb zmk zmc zmd zmi zmo zmf zmg zmn zo (i + 1)) (hR : R2 hm fi us ex lf rg md re fl fr yu ye ya yb yc yd yi yo) : Vw G (LA s) p l e room_1 s m #[Value.ref b] below meth c (lw_Z below #[Value.ref b] s) 8 (43 + i) (1035 + 6 * i) [ob zp 0 [.ref zph, .ref zpt, .int hm, .long ml, .long mr, .ref zs, .ref zt, .ref zc, .ref zpb, .ref zpm], aJ G zph 6 hv, aZ G zpt 6 ht, ob zs 1 [.ref zsf, .ref zsu, .ref zse, .ref zsl, .ref zsr], aZ G zsf 16 fi, aI G zsu 16 us, aZ G zse 16 ex, aJ G zsl 16 lf, aJ G zsr 16 rg, ob zt 2 [.ref ztm, .ref ztr, .ref ztl, .ref ztf, .ref ztd, .long cu, .long cv], aZ G ztm 8 md, aJ G ztr 8 re, aJ G ztl 8 fl, aJ G ztf 8 fr, ob ztd 4 [.ref ztdq, .long tk], aJ G ztdq 16 (rkF tk), ob zc 3 [.ref zcl, .ref zcr], ob zcl 4 [.ref zclq, .long kl], aJ G zclq 16 (rkF kl), ob zcr 4 [.ref zcrq, .long kr], aJ G zcrq 16 (rkF kr), aJ G zpb 5 bf, aJ G zpm 8 mg, ob zm 5 [.ref zmp, .ref zm1, .ref zm2, .ref zmx, .int th, .ref zmh, .ref zmt, .int hm, .long ml, .long mr, .ref zmu, .ref zme, .ref zma, .ref zmb, .ref zmk, .ref zmc, .ref zmd, .ref zmi, .ref zmo, .ref zmf, .ref zmg, .ref zmn, .long yp, .long yq, .int yw, .long yx], aI G zmp 32 tb_perm, aI G zm1 56 tb_c1, aI G zm2 48 tb_c2, aI G zmx 512 tb_box, aJ G zmh 6 hv, aZ G zmt 6 ht, aI G zmu 16 yu, aZ G zme 16 ye, aJ G zma 16 ya, aJ G zmb 16 yb, aZ G zmk 8 md, aJ G zmc 8 yc, aJ G zmd 8 yd, aJ G zmi 8 yi, aI G zmo 8 yo, aJ G zmf 5 bf, aJ G zmg 8 mg, aJ G zmn 16 yn, aJ G zo 1 lo] [(4, .int (nI (9 * i))), (0, .ref b), (1, .ref zp), (2, .ref zm), (3, .ref zo)] 1128 [] := by
  refine pv_aload_n X 2 d_L_law_1128 rfl ?_
  refine pv_aload_n X 1 d_L_law_1129 rfl ?_
  refine pv_iload X 0 d_L_law_1130 rfl ?_
  refine pv_iconst X 1 d_L_law_1132 (by decide) ?_
  refine pv_iadd X d_L_law_1133 ?_
  refine pv_topi (nI (9 * i + 1)) (nI_add (9 * i) 1) ?_
  refine pv_sld X hX hbl (Nat.not_le.mpr hbl) (vp_in_nI (by omega) (by omega)) d_L_law_1134 ?_
  refine pv_topi (xs (9 * i + 1)) (congrArg xs (nI_clamp (by omega))) ?_
  refine pv_aload_n X 1 d_L_law_1135 rfl ?_
  refine pv_iload X 0 d_L_law_1136 rfl ?_
  refine pv_iconst X 2 d_L_law_1138 (by decide) ?_
  refine pv_iadd X d_L_law_1139 ?_
  refine pv_topi (nI (9 * i + 2)) (nI_add (9 * i) 2) ?_
  refine pv_sld X hX hbl (Nat.not_le.mpr hbl) (vp_in_nI (by omega) (by omega)) d_L_law_1140 ?_
  refine pv_topi (xs (9 * i + 2)) (congrArg xs (nI_clamp (by omega))) ?_
  refine pv_aload_n X 1 d_L_law_1141 rfl ?_
  refine pv_iload X 0 d_L_law_1142 rfl ?_
  refine pv_iconst X 3 d_L_law_1144 (by decide) ?_
  refine pv_iadd X d_L_law_1145 ?_
  refine pv_topi (nI (9 * i + 3)) (nI_add (9 * i) 3) ?_
  refine pv_sld X hX hbl (Nat.not_le.mpr hbl) (vp_in_nI (by omega) (by omega)) d_L_law_1146 ?_
  refine pv_topi (xs (9 * i + 3)) (congrArg xs (nI_clamp (by omega))) ?_
  refine pv_i2l X d_L_law_1147 ?_
  refine pv_bipush X 32 d_L_law_1148 (by decide) ?_
  refine pv_lshl X d_L_law_1150 ?_
  refine pv_aload_n X 1 d_L_law_1151 rfl ?_
  refine pv_iload X 0 d_L_law_1152 rfl ?_
  refine pv_iconst X 4 d_L_law_1154 (by decide) ?_
  refine pv_iadd X d_L_law_1155 ?_
  refine pv_topi (nI (9 * i + 4)) (nI_add (9 * i) 4) ?_
  refine pv_sld X hX hbl (Nat.not_le.mpr hbl) (vp_in_nI (by omega) (by omega)) d_L_law_1156 ?_
  refine pv_topi (xs (9 * i + 4)) (congrArg xs (nI_clamp (by omega))) ?_
  refine pv_i2l X d_L_law_1157 ?_
  refine pv_ldc2_w X m_861 d_L_law_1158 ?_
  refine pv_land X d_L_law_1161 ?_
  refine pv_lor X d_L_law_1162 ?_
  refine pv_topl (lw2 xs (9 * i + 3)) rfl ?_
  refine pv_aload_n X 1 d_L_law_1163 rfl ?_
  refine pv_iload X 0 d_L_law_1164 rfl ?_
  refine pv_iconst X 5 d_L_law_1166 (by decide) ?_
  refine pv_iadd X d_L_law_1167 ?_
  refine pv_topi (nI (9 * i + 5)) (nI_add (9 * i) 5) ?_
  refine pv_sld X hX hbl (Nat.not_le.mpr hbl) (vp_in_nI (by omega) (by omega)) d_L_law_1168 ?_
  refine pv_topi (xs (9 * i + 5)) (congrArg xs (nI_clamp (by omega))) ?_
  have hs := sim_verify (ml := ml) (mr := mr) (tk := tk) (cu := cu) (cv := cv) (kl := kl) (kr := kr) (hv := hv) (ht := ht) (bf := bf) (mg := mg) (lo := lo) (th := th) (yn := yn) (yp := yp) (yq := yq) (yw := yw) (yx := yx) (xs (9 * i + 1)) (xs (9 * i + 2)) (lw2 xs (9 * i + 3)) (xs (9 * i + 5)) hR 
  refine pv_calliE X (Cut.mk (w0 := [ob zp 0 [.ref zph, .ref zpt, .int hm, .long ml, .long mr, .ref zs, .ref zt, .ref zc, .ref zpb, .ref zpm], aJ G zph 6 hv, aZ G zpt 6 ht, ob zs 1 [.ref zsf, .ref zsu, .ref zse, .ref zsl, .ref zsr], aZ G zsf 16 fi, aI G zsu 16 us, aZ G zse 16 ex, aJ G zsl 16 lf, aJ G zsr 16 rg, ob zt 2 [.ref ztm, .ref ztr, .ref ztl, .ref ztf, .ref ztd, .long cu, .long cv], aZ G ztm 8 md, aJ G ztr 8 re, aJ G ztl 8 fl, aJ G ztf 8 fr, ob ztd 4 [.ref ztdq, .long tk], aJ G ztdq 16 (rkF tk), ob zc 3 [.ref zcl, .ref zcr], ob zcl 4 [.ref zclq, .long kl], aJ G zclq 16 (rkF kl), ob zcr 4 [.ref zcrq, .long kr], aJ G zcrq 16 (rkF kr), aJ G zpb 5 bf, aJ G zpm 8 mg]) (wr := [ob zm 5 [.ref zmp, .ref zm1, .ref zm2, .ref zmx, .int th, .ref zmh, .ref zmt, .int hm, .long ml, .long mr, .ref zmu, .ref zme, .ref zma, .ref zmb, .ref zmk, .ref zmc, .ref zmd, .ref zmi, .ref zmo, .ref zmf, .ref zmg, .ref zmn, .long yp, .long yq, .int yw, .long yx], aI G zmp 32 tb_perm, aI G zm1 56 tb_c1, aI G zm2 48 tb_c2, aI G zmx 512 tb_box, aJ G zmh 6 hv, aZ G zmt 6 ht, aI G zmu 16 yu, aZ G zme 16 ye, aJ G zma 16 ya, aJ G zmb 16 yb, aZ G zmk 8 md, aJ G zmc 8 yc, aJ G zmd 8 yd, aJ G zmi 8 yi, aI G zmo 8 yo, aJ G zmf 5 bf, aJ G zmg 8 mg, aJ G zmn 16 yn, aJ G zo 1 lo]) [0, 1, 2, 3, 4, 5, 6, 7, 8, 9, 10, 11, 12, 13, 14, 15, 16, 17, 18, 19, 20, 21, 22] [23, 24, 25, 26, 27, 28, 29, 30, 31, 32, 33, 34, 35, 36, 37, 38, 39, 40, 41, 42] rfl rfl rfl rfl rfl) (rn_V X (c_P_verify l G zp zph zpt zs zsf zsu zse zsl zsr zt ztm ztr ztl ztf ztd ztdq zc zcl zclq zcr zcrq zpb zpm hv ht hm ml mr fi us ex lf rg md re fl fr tk cu cv kl kr bf mg (xs (9 * i + 1)) (xs (9 * i + 2)) (lw2 xs (9 * i + 3)) (xs (9 * i + 5)) hR.2.1 hR.2.2.2.2.1) hE.1 mf_P_verify m_421 m_422 m_423 rfl 0 rfl rfl rfl (by decide) ⟨show 43 + i + 0 ≤ 1073 by omega, show 1035 + 6 * i + 0 ≤ 9263 by omega⟩ rfl (Nat.le_of_ble_eq_true rfl) d_L_law_1169) (fun x1 => ?_)
  refine pv_ord (ws2 := [ob zp 0 [.ref zph, .ref zpt, .int hm, .long ml, .long mr, .ref zs, .ref zt, .ref zc, .ref zpb, .ref zpm], aJ G zph 6 hv, aZ G zpt 6 ht, ob zs 1 [.ref zsf, .ref zsu, .ref zse, .ref zsl, .ref zsr], aZ G zsf 16 fi, aI G zsu 16 us, aZ G zse 16 ex, aJ G zsl 16 lf, aJ G zsr 16 rg, ob zt 2 [.ref ztm, .ref ztr, .ref ztl, .ref ztf, .ref ztd, .long x1.2.1, .long x1.2.2.1], aZ G ztm 8 md, aJ G ztr 8 re, aJ G ztl 8 fl, aJ G ztf 8 fr, ob ztd 4 [.ref ztdq, .long x1.1], aJ G ztdq 16 (rkF x1.1), ob zc 3 [.ref zcl, .ref zcr], ob zcl 4 [.ref zclq, .long x1.2.2.2.1], aJ G zclq 16 (rkF x1.2.2.2.1), ob zcr 4 [.ref zcrq, .long x1.2.2.2.2], aJ G zcrq 16 (rkF x1.2.2.2.2), aJ G zpb 5 bf, aJ G zpm 8 mg, ob zm 5 [.ref zmp, .ref zm1, .ref zm2, .ref zmx, .int th, .ref zmh, .ref zmt, .int hm, .long ml, .long mr, .ref zmu, .ref zme, .ref zma, .ref zmb, .ref zmk, .ref zmc, .ref zmd, .ref zmi, .ref zmo, .ref zmf, .ref zmg, .ref zmn, .long yp, .long yq, .int yw, .long yx], aI G zmp 32 tb_perm, aI G zm1 56 tb_c1, aI G zm2 48 tb_c2, aI G zmx 512 tb_box, aJ G zmh 6 hv, aZ G zmt 6 ht, aI G zmu 16 yu, aZ G zme 16 ye, aJ G zma 16 ya, aJ G zmb 16 yb, aZ G zmk 8 md, aJ G zmc 8 yc, aJ G zmd 8 yd, aJ G zmi 8 yi, aI G zmo 8 yo, aJ G zmf 5 bf, aJ G zmg 8 mg, aJ G zmn 16 yn, aJ G zo 1 lo]) [20, 21, 22, 23, 24, 25, 26, 27, 28, 29, 30, 31, 32, 33, 34, 35, 36, 37, 38, 39, 40, 41, 42, 0, 1, 2, 3, 4, 5, 6, 7, 8, 9, 10, 11, 12, 13, 14, 15, 16, 17, 18, 19] rfl rfl ?_
  refine pv_widen (k2 := 43 + i) (n2 := 1035 + 6 * i) (Nat.le_refl _) (Nat.le_refl _) ?_
  refine pv_aload_n X 3 d_L_law_1172 rfl ?_
  refine pv_aload_n X 1 d_L_law_1173 rfl ?_
  refine pv_iload X 0 d_L_law_1174 rfl ?_
  refine pv_iconst X 1 d_L_law_1176 (by decide) ?_
  refine pv_iadd X d_L_law_1177 ?_
  refine pv_topi (nI (9 * i + 1)) (nI_add (9 * i) 1) ?_
  refine pv_sld X hX hbl (Nat.not_le.mpr hbl) (vp_in_nI (by omega) (by omega)) d_L_law_1178 ?_
  refine pv_topi (xs (9 * i + 1)) (congrArg xs (nI_clamp (by omega))) ?_
  refine pv_aload_n X 1 d_L_law_1179 rfl ?_
  refine pv_iload X 0 d_L_law_1180 rfl ?_
  refine pv_iconst X 2 d_L_law_1182 (by decide) ?_
  refine pv_iadd X d_L_law_1183 ?_
  refine pv_topi (nI (9 * i + 2)) (nI_add (9 * i) 2) ?_
  refine pv_sld X hX hbl (Nat.not_le.mpr hbl) (vp_in_nI (by omega) (by omega)) d_L_law_1184 ?_
  refine pv_topi (xs (9 * i + 2)) (congrArg xs (nI_clamp (by omega))) ?_
  refine pv_aload_n X 1 d_L_law_1185 rfl ?_
  refine pv_iload X 0 d_L_law_1186 rfl ?_
  refine pv_iconst X 3 d_L_law_1188 (by decide) ?_
  refine pv_iadd X d_L_law_1189 ?_
  refine pv_topi (nI (9 * i + 3)) (nI_add (9 * i) 3) ?_
  refine pv_sld X hX hbl (Nat.not_le.mpr hbl) (vp_in_nI (by omega) (by omega)) d_L_law_1190 ?_
  refine pv_topi (xs (9 * i + 3)) (congrArg xs (nI_clamp (by omega))) ?_
  refine pv_i2l X d_L_law_1191 ?_
  refine pv_bipush X 32 d_L_law_1192 (by decide) ?_
  refine pv_lshl X d_L_law_1194 ?_
  refine pv_aload_n X 1 d_L_law_1195 rfl ?_
  refine pv_iload X 0 d_L_law_1196 rfl ?_
  refine pv_iconst X 4 d_L_law_1198 (by decide) ?_
  refine pv_iadd X d_L_law_1199 ?_
  refine pv_topi (nI (9 * i + 4)) (nI_add (9 * i) 4) ?_
  refine pv_sld X hX hbl (Nat.not_le.mpr hbl) (vp_in_nI (by omega) (by omega)) d_L_law_1200 ?_
  refine pv_topi (xs (9 * i + 4)) (congrArg xs (nI_clamp (by omega))) ?_
  refine pv_i2l X d_L_law_1201 ?_
  refine pv_ldc2_w X m_861 d_L_law_1202 ?_
  refine pv_land X d_L_law_1205 ?_
  refine pv_lor X d_L_law_1206 ?_
  refine pv_topl (lw2 xs (9 * i + 3)) rfl ?_
  refine pv_aload_n X 1 d_L_law_1207 rfl ?_
  refine pv_iload X 0 d_L_law_1208 rfl ?_
  refine pv_iconst X 5 d_L_law_1210 (by decide) ?_
  refine pv_iadd X d_L_law_1211 ?_
  refine pv_topi (nI (9 * i + 5)) (nI_add (9 * i) 5) ?_
  refine pv_sld X hX hbl (Nat.not_le.mpr hbl) (vp_in_nI (by omega) (by omega)) d_L_law_1212 ?_
  refine pv_topi (xs (9 * i + 5)) (congrArg xs (nI_clamp (by omega))) ?_
  refine pv_calliE X (Cut.mk (w0 := [ob zm 5 [.ref zmp, .ref zm1, .ref zm2, .ref zmx, .int th, .ref zmh, .ref zmt, .int hm, .long ml, .long mr, .ref zmu, .ref zme, .ref zma, .ref zmb, .ref zmk, .ref zmc, .ref zmd, .ref zmi, .ref zmo, .ref zmf, .ref zmg, .ref zmn, .long yp, .long yq, .int yw, .long yx], aI G zmp 32 tb_perm, aI G zm1 56 tb_c1, aI G zm2 48 tb_c2, aI G zmx 512 tb_box, aJ G zmh 6 hv, aZ G zmt 6 ht, aI G zmu 16 yu, aZ G zme 16 ye, aJ G zma 16 ya, aJ G zmb 16 yb, aZ G zmk 8 md, aJ G zmc 8 yc, aJ G zmd 8 yd, aJ G zmi 8 yi, aI G zmo 8 yo, aJ G zmf 5 bf, aJ G zmg 8 mg, aJ G zmn 16 yn]) (wr := [ob zp 0 [.ref zph, .ref zpt, .int hm, .long ml, .long mr, .ref zs, .ref zt, .ref zc, .ref zpb, .ref zpm], aJ G zph 6 hv, aZ G zpt 6 ht, ob zs 1 [.ref zsf, .ref zsu, .ref zse, .ref zsl, .ref zsr], aZ G zsf 16 fi, aI G zsu 16 us, aZ G zse 16 ex, aJ G zsl 16 lf, aJ G zsr 16 rg, ob zt 2 [.ref ztm, .ref ztr, .ref ztl, .ref ztf, .ref ztd, .long x1.2.1, .long x1.2.2.1], aZ G ztm 8 md, aJ G ztr 8 re, aJ G ztl 8 fl, aJ G ztf 8 fr, ob ztd 4 [.ref ztdq, .long x1.1], aJ G ztdq 16 (rkF x1.1), ob zc 3 [.ref zcl, .ref zcr], ob zcl 4 [.ref zclq, .long x1.2.2.2.1], aJ G zclq 16 (rkF x1.2.2.2.1), ob zcr 4 [.ref zcrq, .long x1.2.2.2.2], aJ G zcrq 16 (rkF x1.2.2.2.2), aJ G zpb 5 bf, aJ G zpm 8 mg, aJ G zo 1 lo]) [23, 24, 25, 26, 27, 28, 29, 30, 31, 32, 33, 34, 35, 36, 37, 38, 39, 40, 41] [0, 1, 2, 3, 4, 5, 6, 7, 8, 9, 10, 11, 12, 13, 14, 15, 16, 17, 18, 19, 20, 21, 22, 42] rfl rfl rfl rfl rfl) (rn_V X (c_M_verify l G zm zmp zm1 zm2 zmx zmh zmt zmu zme zma zmb zmk zmc zmd zmi zmo zmf zmg zmn th hm ml mr hv ht yu ye ya yb md yc yd yi yo bf mg yn yp yq yw yx (xs (9 * i + 1)) (xs (9 * i + 2)) (lw2 xs (9 * i + 3)) (xs (9 * i + 5)) hR.2.2.2.2.1) trivial mf_M_verify m_851 m_852 m_853 rfl 0 rfl rfl rfl (by decide) ⟨show 43 + i + 0 ≤ 1073 by omega, show 1035 + 6 * i + 0 ≤ 9263 by omega⟩ rfl (Nat.le_of_ble_eq_true rfl) d_L_law_1213) (fun x2 => ?_)
  refine pv_ord (ws2 := [ob zp 0 [.ref zph, .ref zpt, .int hm, .long ml, .long mr, .ref zs, .ref zt, .ref zc, .ref zpb, .ref zpm], aJ G zph 6 hv, aZ G zpt 6 ht, ob zs 1 [.ref zsf, .ref zsu, .ref zse, .ref zsl, .ref zsr], aZ G zsf 16 fi, aI G zsu 16 us, aZ G zse 16 ex, aJ G zsl 16 lf, aJ G zsr 16 rg, ob zt 2 [.ref ztm, .ref ztr, .ref ztl, .ref ztf, .ref ztd, .long x1.2.1, .long x1.2.2.1], aZ G ztm 8 md, aJ G ztr 8 re, aJ G ztl 8 fl, aJ G ztf 8 fr, ob ztd 4 [.ref ztdq, .long x1.1], aJ G ztdq 16 (rkF x1.1), ob zc 3 [.ref zcl, .ref zcr], ob zcl 4 [.ref zclq, .long x1.2.2.2.1], aJ G zclq 16 (rkF x1.2.2.2.1), ob zcr 4 [.ref zcrq, .long x1.2.2.2.2], aJ G zcrq 16 (rkF x1.2.2.2.2), aJ G zpb 5 bf, aJ G zpm 8 mg, ob zm 5 [.ref zmp, .ref zm1, .ref zm2, .ref zmx, .int g_M_verify_zm_4, .ref zmh, .ref zmt, .int hm, .long ml, .long mr, .ref zmu, .ref zme, .ref zma, .ref zmb, .ref zmk, .ref zmc, .ref zmd, .ref zmi, .ref zmo, .ref zmf, .ref zmg, .ref zmn, .long x2.2.1, .long x2.2.2.1, .int x2.2.2.2.1, .long x2.2.2.2.2], aI G zmp 32 tb_perm, aI G zm1 56 tb_c1, aI G zm2 48 tb_c2, aI G zmx 512 tb_box, aJ G zmh 6 hv, aZ G zmt 6 ht, aI G zmu 16 yu, aZ G zme 16 ye, aJ G zma 16 ya, aJ G zmb 16 yb, aZ G zmk 8 md, aJ G zmc 8 yc, aJ G zmd 8 yd, aJ G zmi 8 yi, aI G zmo 8 yo, aJ G zmf 5 bf, aJ G zmg 8 mg, aJ G zmn 16 x2.1, aJ G zo 1 lo]) [0, 1, 2, 3, 4, 5, 6, 7, 8, 9, 10, 11, 12, 13, 14, 15, 16, 17, 18, 19, 20, 21, 22, 24, 25, 26, 27, 28, 29, 30, 31, 32, 33, 34, 35, 36, 37, 38, 39, 40, 41, 42, 23] rfl rfl ?_
  refine pv_widen (k2 := 43 + i) (n2 := 1035 + 6 * i) (Nat.le_refl _) (Nat.le_refl _) ?_
  refine pv_icmp_eq X 1258 d_L_law_1216 rfl (fun _ => ?_) (fun h => absurd hs h)
  refine pv_lpick (ll2 := [(4, .int (nI (9 * i))), (0, .ref b), (1, .ref zp), (2, .ref zm), (3, .ref zo)]) [0, 1, 2, 3, 4] rfl ?_
  exact law_back X hX hbl hE hfl hL hi ih hR (by omega) (by omega)
