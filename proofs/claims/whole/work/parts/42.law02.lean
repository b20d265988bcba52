theorem d_L_law_264 : decode b_L_law 264 = .ok (.aload_n 1, 1) := by decide +kernel
theorem d_L_law_265 : decode b_L_law 265 = .ok (.aload_n 0, 1) := by decide +kernel
theorem d_L_law_266 : decode b_L_law 266 = .ok (.iload 4, 2) := by decide +kernel
theorem d_L_law_268 : decode b_L_law 268 = .ok (.iconst 1, 1) := by decide +kernel
theorem d_L_law_269 : decode b_L_law 269 = .ok (.iadd, 1) := by decide +kernel
theorem d_L_law_270 : decode b_L_law 270 = .ok (.iaload, 1) := by decide +kernel
theorem d_L_law_271 : decode b_L_law 271 = .ok (.aload_n 0, 1) := by decide +kernel
theorem d_L_law_272 : decode b_L_law 272 = .ok (.iload 4, 2) := by decide +kernel
theorem d_L_law_274 : decode b_L_law 274 = .ok (.iconst 2, 1) := by decide +kernel
theorem d_L_law_275 : decode b_L_law 275 = .ok (.iadd, 1) := by decide +kernel
theorem d_L_law_276 : decode b_L_law 276 = .ok (.iaload, 1) := by decide +kernel
theorem d_L_law_277 : decode b_L_law 277 = .ok (.i2l, 1) := by decide +kernel
theorem d_L_law_278 : decode b_L_law 278 = .ok (.bipush 32, 2) := by decide +kernel
theorem d_L_law_280 : decode b_L_law 280 = .ok (.lshl, 1) := by decide +kernel
theorem d_L_law_281 : decode b_L_law 281 = .ok (.aload_n 0, 1) := by decide +kernel
theorem d_L_law_282 : decode b_L_law 282 = .ok (.iload 4, 2) := by decide +kernel
theorem d_L_law_284 : decode b_L_law 284 = .ok (.iconst 3, 1) := by decide +kernel
theorem d_L_law_285 : decode b_L_law 285 = .ok (.iadd, 1) := by decide +kernel
theorem d_L_law_286 : decode b_L_law 286 = .ok (.iaload, 1) := by decide +kernel
theorem d_L_law_287 : decode b_L_law 287 = .ok (.i2l, 1) := by decide +kernel
theorem d_L_law_288 : decode b_L_law 288 = .ok (.ldc2_w 36, 3) := by decide +kernel
theorem d_L_law_291 : decode b_L_law 291 = .ok (.land, 1) := by decide +kernel
theorem d_L_law_292 : decode b_L_law 292 = .ok (.lor, 1) := by decide +kernel
theorem d_L_law_293 : decode b_L_law 293 = .ok (.invokestatic 51, 3) := by decide +kernel
theorem d_L_law_296 : decode b_L_law 296 = .ok (.istore 5, 2) := by decide +kernel
theorem d_L_law_298 : decode b_L_law 298 = .ok (.aload_n 2, 1) := by decide +kernel
theorem d_L_law_299 : decode b_L_law 299 = .ok (.aload_n 0, 1) := by decide +kernel
theorem d_L_law_300 : decode b_L_law 300 = .ok (.iload 4, 2) := by decide +kernel
theorem d_L_law_302 : decode b_L_law 302 = .ok (.iconst 1, 1) := by decide +kernel
theorem d_L_law_303 : decode b_L_law 303 = .ok (.iadd, 1) := by decide +kernel
theorem d_L_law_304 : decode b_L_law 304 = .ok (.iaload, 1) := by decide +kernel
theorem d_L_law_305 : decode b_L_law 305 = .ok (.aload_n 0, 1) := by decide +kernel
theorem d_L_law_306 : decode b_L_law 306 = .ok (.iload 4, 2) := by decide +kernel
theorem d_L_law_308 : decode b_L_law 308 = .ok (.iconst 2, 1) := by decide +kernel
theorem d_L_law_309 : decode b_L_law 309 = .ok (.iadd, 1) := by decide +kernel
theorem d_L_law_310 : decode b_L_law 310 = .ok (.iaload, 1) := by decide +kernel
theorem d_L_law_311 : decode b_L_law 311 = .ok (.i2l, 1) := by decide +kernel
theorem d_L_law_312 : decode b_L_law 312 = .ok (.bipush 32, 2) := by decide +kernel
theorem d_L_law_314 : decode b_L_law 314 = .ok (.lshl, 1) := by decide +kernel
theorem d_L_law_315 : decode b_L_law 315 = .ok (.aload_n 0, 1) := by decide +kernel
theorem d_L_law_316 : decode b_L_law 316 = .ok (.iload 4, 2) := by decide +kernel
theorem d_L_law_318 : decode b_L_law 318 = .ok (.iconst 3, 1) := by decide +kernel
theorem d_L_law_319 : decode b_L_law 319 = .ok (.iadd, 1) := by decide +kernel
theorem d_L_law_320 : decode b_L_law 320 = .ok (.iaload, 1) := by decide +kernel
theorem d_L_law_321 : decode b_L_law 321 = .ok (.i2l, 1) := by decide +kernel
theorem d_L_law_322 : decode b_L_law 322 = .ok (.ldc2_w 36, 3) := by decide +kernel
theorem d_L_law_325 : decode b_L_law 325 = .ok (.land, 1) := by decide +kernel
theorem d_L_law_326 : decode b_L_law 326 = .ok (.lor, 1) := by decide +kernel
theorem d_L_law_327 : decode b_L_law 327 = .ok (.invokevirtual 54, 3) := by decide +kernel
theorem d_L_law_330 : decode b_L_law 330 = .ok (.aload_n 2, 1) := by decide +kernel
theorem d_L_law_331 : decode b_L_law 331 = .ok (.invokevirtual 44, 3) := by decide +kernel
theorem d_L_law_334 : decode b_L_law 334 = .ok (.iload 5, 2) := by decide +kernel
theorem d_L_law_336 : decode b_L_law 336 = .ok (.if_icmp .eq 5, 3) := by decide +kernel
theorem d_L_law_341 : decode b_L_law 341 = .ok (.goto 917, 3) := by decide +kernel
set_option maxRecDepth 100000 in
set_option maxHeartbeats 4000000 in
theorem law_poke {p : Program} {l : Launch} {e : Env} {s : State} {m : MethodId} {below : List Frame} {meth : Method} {c : Code} {G : Gt} {b L : Nat} {xs : Nat → Int32} {zp zph zpt zs zsf zsu zse zsl zsr zt ztm ztr ztl ztf ztd ztdq zc zcl zclq zcr zcrq zpb zpm zm zmp zm1 zm2 zmx zmh zmt zmu zme zma zmb zmk zmc zmd zmi zmo zmf zmg zmn zo : Nat} {hv : Nat → Int64} {ht : Nat → Int32} {hm : Int32} {ml mr : Int64} {fi us ex : Nat → Int32} {lf rg : Nat → Int64} {md : Nat → Int32} {re fl fr : Nat → Int64} {tk cu cv kl kr : Int64} {bf mg : Nat → Int64} {th : Int32} {yu ye : Nat → Int32} {ya yb : Nat → Int64} {yc yd yi : Nat → Int64} {yo : Nat → Int32} {yn : Nat → Int64} {yp yq : Int64} {yw : Int32} {yx : Int64} {lo : Nat → Int64} (X : Cx G (LA s) p s m #[Value.ref b] c b_L_law 8 "PinModuleLaw") (hX : va_X b L xs s s.heap) (hbl : b < s.heap.size) (hE : Eh (LA s) s) (hfl : l.flags = pinnedFlags ++ [noTraceFlag]) (hL : L ≤ 4608) {i : Nat} (hi : 9 * i + 9 ≤ L) (ih : LawAt p l e s m below meth c G b zp zph zpt zs zsf zsu zse zsl zsr zt ztm ztr ztl ztf ztd ztdq zc zcl zclq zcr zcrq zpb zpm zm zmp zm1 zm2 zmx zmh zmt zmu zme zma zmb zmk zmc zmd zmi zmo zmf zmg zmn zo (i + 1)) (hR : R2 hm fi us ex lf rg md re fl fr yu ye ya yb yc yd yi yo) : Vw G (LA s) p l e room_1 s m #[Value.ref b] below meth c (lw_Z below #[Value.ref b] s) 8 (43 + i) (1035 + 6 * i) [ob zp 0 [.ref zph, .ref zpt, .int hm, .long ml, .long mr, .ref zs, .ref zt, .ref zc, .ref zpb, .ref zpm], aJ G zph 6 hv, aZ G zpt 6 ht, ob zs 1 [.ref zsf, .ref zsu, .ref zse, .ref zsl, .ref zsr], aZ G zsf 16 fi, aI G zsu 16 us, aZ G zse 16 ex, aJ G zsl 16 lf, aJ G zsr 16 rg, ob zt 2 [.ref ztm, .ref ztr, .ref ztl, .ref ztf, .ref ztd, .long cu, .long cv], aZ G ztm 8 md, aJ G ztr 8 re, aJ G ztl 8 fl, aJ G ztf 8 fr, ob ztd 4 [.ref ztdq, .long tk], aJ G ztdq 16 (rkF tk), ob zc 3 [.ref zcl, .ref zcr], ob zcl 4 [.ref zclq, .long kl], aJ G zclq 16 (rkF kl), ob zcr 4 [.ref zcrq, .long kr], aJ G zcrq 16 (rkF kr), aJ G zpb 5 bf, aJ G zpm 8 mg, ob zm 5 [.ref zmp, .ref zm1, .ref zm2, .ref zmx, .int th, .ref zmh, .ref zmt, .int hm, .long ml, .long mr, .ref zmu, .ref zme, .ref zma, .ref zmb, .ref zmk, .ref zmc, .ref zmd, .ref zmi, .ref zmo, .ref zmf, .ref zmg, .ref zmn, .long yp, .long yq, .int yw, .long yx], aI G zmp 32 tb_perm, aI G zm1 56 tb_c1, aI G zm2 48 tb_c2, aI G zmx 512 tb_box, aJ G zmh 6 hv, aZ G zmt 6 ht, aI G zmu 16 yu, aZ G zme 16 ye, aJ G zma 16 ya, aJ G zmb 16 yb, aZ G zmk 8 md, aJ G zmc 8 yc, aJ G zmd 8 yd, aJ G zmi 8 yi, aI G zmo 8 yo, aJ G zmf 5 bf, aJ G zmg 8 mg, aJ G zmn 16 yn, aJ G zo 1 lo] [(4, .int (nI (9 * i))), (0, .ref b), (1, .ref zp), (2, .ref zm), (3, .ref zo)] 264 [] := by
  refine pv_aload_n X 2 d_L_law_264 rfl ?_
  refine pv_aload_n X 1 d_L_law_265 rfl ?_
  refine pv_iload X 0 d_L_law_266 rfl ?_
  refine pv_iconst X 1 d_L_law_268 (by decide) ?_
  refine pv_iadd X d_L_law_269 ?_
  refine pv_topi (nI (9 * i + 1)) (nI_add (9 * i) 1) ?_
  refine pv_sld X hX hbl (Nat.not_le.mpr hbl) (vp_in_nI (by omega) (by omega)) d_L_law_270 ?_
  refine pv_topi (xs (9 * i + 1)) (congrArg xs (nI_clamp (by omega))) ?_
  refine pv_aload_n X 1 d_L_law_271 rfl ?_
  refine pv_iload X 0 d_L_law_272 rfl ?_
  refine pv_iconst X 2 d_L_law_274 (by decide) ?_
  refine pv_iadd X d_L_law_275 ?_
  refine pv_topi (nI (9 * i + 2)) (nI_add (9 * i) 2) ?_
  refine pv_sld X hX hbl (Nat.not_le.mpr hbl) (vp_in_nI (by omega) (by omega)) d_L_law_276 ?_
  refine pv_topi (xs (9 * i + 2)) (congrArg xs (nI_clamp (by omega))) ?_
  refine pv_i2l X d_L_law_277 ?_
  refine pv_bipush X 32 d_L_law_278 (by decide) ?_
  refine pv_lshl X d_L_law_280 ?_
  refine pv_aload_n X 1 d_L_law_281 rfl ?_
  refine pv_iload X 0 d_L_law_282 rfl ?_
  refine pv_iconst X 3 d_L_law_284 (by decide) ?_
  refine pv_iadd X d_L_law_285 ?_
  refine pv_topi (nI (9 * i + 3)) (nI_add (9 * i) 3) ?_
  refine pv_sld X hX hbl (Nat.not_le.mpr hbl) (vp_in_nI (by omega) (by omega)) d_L_law_286 ?_
  refine pv_topi (xs (9 * i + 3)) (congrArg xs (nI_clamp (by omega))) ?_
  refine pv_i2l X d_L_law_287 ?_
  refine pv_ldc2_w X m_861 d_L_law_288 ?_
  refine pv_land X d_L_law_291 ?_
  refine pv_lor X d_L_law_292 ?_
  refine pv_topl (lw2 xs (9 * i + 2)) rfl ?_
  have hs := sim_poke (ml := ml) (mr := mr) (tk := tk) (cu := cu) (cv := cv) (kl := kl) (kr := kr) (hv := hv) (ht := ht) (bf := bf) (mg := mg) (lo := lo) (th := th) (yn := yn) (yp := yp) (yq := yq) (yw := yw) (yx := yx) (xs (9 * i + 1)) (lw2 xs (9 * i + 2)) hR 
  refine pv_calliE X (Cut.mk (w0 := [ob zp 0 [.ref zph, .ref zpt, .int hm, .long ml, .long mr, .ref zs, .ref zt, .ref zc, .ref zpb, .ref zpm], aJ G zph 6 hv, aZ G zpt 6 ht, ob zs 1 [.ref zsf, .ref zsu, .ref zse, .ref zsl, .ref zsr], aZ G zsf 16 fi, aI G zsu 16 us, aZ G zse 16 ex, aJ G zsl 16 lf, aJ G zsr 16 rg, ob zt 2 [.ref ztm, .ref ztr, .ref ztl, .ref ztf, .ref ztd, .long cu, .long cv], aZ G ztm 8 md, aJ G ztr 8 re, aJ G ztl 8 fl, aJ G ztf 8 fr, ob ztd 4 [.ref ztdq, .long tk], aJ G ztdq 16 (rkF tk), ob zc 3 [.ref zcl, .ref zcr], ob zcl 4 [.ref zclq, .long kl], aJ G zclq 16 (rkF kl), ob zcr 4 [.ref zcrq, .long kr], aJ G zcrq 16 (rkF kr), aJ G zpb 5 bf, aJ G zpm 8 mg]) (wr := [ob zm 5 [.ref zmp, .ref zm1, .ref zm2, .ref zmx, .int th, .ref zmh, .ref zmt, .int hm, .long ml, .long mr, .ref zmu, .ref zme, .ref zma, .ref zmb, .ref zmk, .ref zmc, .ref zmd, .ref zmi, .ref zmo, .ref zmf, .ref zmg, .ref zmn, .long yp, .long yq, .int yw, .long yx], aI G zmp 32 tb_perm, aI G zm1 56 tb_c1, aI G zm2 48 tb_c2, aI G zmx 512 tb_box, aJ G zmh 6 hv, aZ G zmt 6 ht, aI G zmu 16 yu, aZ G zme 16 ye, aJ G zma 16 ya, aJ G zmb 16 yb, aZ G zmk 8 md, aJ G zmc 8 yc, aJ G zmd 8 yd, aJ G zmi 8 yi, aI G zmo 8 yo, aJ G zmf 5 bf, aJ G zmg 8 mg, aJ G zmn 16 yn, aJ G zo 1 lo]) [0, 1, 2, 3, 4, 5, 6, 7, 8, 9, 10, 11, 12, 13, 14, 15, 16, 17, 18, 19, 20, 21, 22] [23, 24, 25, 26, 27, 28, 29, 30, 31, 32, 33, 34, 35, 36, 37, 38, 39, 40, 41, 42] rfl rfl rfl rfl rfl) (rn_SW (n := 3) X (c_L_poke l hfl G zp zph zpt zs zsf zsu zse zsl zsr zt ztm ztr ztl ztf ztd ztdq zc zcl zclq zcr zcrq zpb zpm hv ht hm ml mr fi us ex lf rg md re fl fr tk cu cv kl kr bf mg  (xs (9 * i + 1)) (lw2 xs (9 * i + 2))) hE m_547 m_0 ⟨by decide, by decide, by decide +kernel⟩ m_545 m_546 rfl (by decide) ⟨show 43 + i + 1 ≤ 1073 by omega, show 1035 + 6 * i + 6 ≤ 9263 by omega⟩ rfl (Nat.le_of_ble_eq_true rfl) d_L_law_293) (fun x0 => ?_)
  refine pv_widen (k2 := 43 + i + 1) (n2 := 1035 + 6 * i + 6) (Nat.le_refl _) (Nat.le_refl _) ?_
  refine pv_ord (ws2 := [ob zp 0 [.ref zph, .ref zpt, .int hm, .long ml, .long mr, .ref zs, .ref zt, .ref zc, .ref zpb, .ref zpm], aJ G zph 6 hv, aZ G zpt 6 ht, ob zs 1 [.ref zsf, .ref zsu, .ref zse, .ref zsl, .ref zsr], aZ G zsf 16 fi, aI G zsu 16 us, aZ G zse 16 ex, aJ G zsl 16 lf, aJ G zsr 16 rg, ob zt 2 [.ref ztm, .ref ztr, .ref ztl, .ref ztf, .ref ztd, .long cu, .long cv], aZ G ztm 8 md, aJ G ztr 8 re, aJ G ztl 8 fl, aJ G ztf 8 fr, ob ztd 4 [.ref ztdq, .long tk], aJ G ztdq 16 (rkF tk), ob zc 3 [.ref zcl, .ref zcr], ob zcl 4 [.ref zclq, .long kl], aJ G zclq 16 (rkF kl), ob zcr 4 [.ref zcrq, .long kr], aJ G zcrq 16 (rkF kr), aJ G zpb 5 (lk_poke_f bf (xs (9 * i + 1)) (lw2 xs (9 * i + 2))), aJ G zpm 8 mg, ob zm 5 [.ref zmp, .ref zm1, .ref zm2, .ref zmx, .int th, .ref zmh, .ref zmt, .int hm, .long ml, .long mr, .ref zmu, .ref zme, .ref zma, .ref zmb, .ref zmk, .ref zmc, .ref zmd, .ref zmi, .ref zmo, .ref zmf, .ref zmg, .ref zmn, .long yp, .long yq, .int yw, .long yx], aI G zmp 32 tb_perm, aI G zm1 56 tb_c1, aI G zm2 48 tb_c2, aI G zmx 512 tb_box, aJ G zmh 6 hv, aZ G zmt 6 ht, aI G zmu 16 yu, aZ G zme 16 ye, aJ G zma 16 ya, aJ G zmb 16 yb, aZ G zmk 8 md, aJ G zmc 8 yc, aJ G zmd 8 yd, aJ G zmi 8 yi, aI G zmo 8 yo, aJ G zmf 5 bf, aJ G zmg 8 mg, aJ G zmn 16 yn, aJ G zo 1 lo]) [20, 21, 22, 23, 24, 25, 26, 27, 28, 29, 30, 31, 32, 33, 34, 35, 36, 37, 38, 39, 40, 41, 42, 0, 1, 2, 3, 4, 5, 6, 7, 8, 9, 10, 11, 12, 13, 14, 15, 16, 17, 18, 19] rfl rfl ?_
  refine pv_istore (ll2 := [(5, .int (lk_poke (xs (9 * i + 1)))), (4, .int (nI (9 * i))), (0, .ref b), (1, .ref zp), (2, .ref zm), (3, .ref zo)]) X d_L_law_296 (by decide) rfl ?_
  refine pv_aload_n X 4 d_L_law_298 rfl ?_
  refine pv_aload_n X 2 d_L_law_299 rfl ?_
  refine pv_iload X 1 d_L_law_300 rfl ?_
  refine pv_iconst X 1 d_L_law_302 (by decide) ?_
  refine pv_iadd X d_L_law_303 ?_
  refine pv_topi (nI (9 * i + 1)) (nI_add (9 * i) 1) ?_
  refine pv_sld X hX hbl (Nat.not_le.mpr hbl) (vp_in_nI (by omega) (by omega)) d_L_law_304 ?_
  refine pv_topi (xs (9 * i + 1)) (congrArg xs (nI_clamp (by omega))) ?_
  refine pv_aload_n X 2 d_L_law_305 rfl ?_
  refine pv_iload X 1 d_L_law_306 rfl ?_
  refine pv_iconst X 2 d_L_law_308 (by decide) ?_
  refine pv_iadd X d_L_law_309 ?_
  refine pv_topi (nI (9 * i + 2)) (nI_add (9 * i) 2) ?_
  refine pv_sld X hX hbl (Nat.not_le.mpr hbl) (vp_in_nI (by omega) (by omega)) d_L_law_310 ?_
  refine pv_topi (xs (9 * i + 2)) (congrArg xs (nI_clamp (by omega))) ?_
  refine pv_i2l X d_L_law_311 ?_
  refine pv_bipush X 32 d_L_law_312 (by decide) ?_
  refine pv_lshl X d_L_law_314 ?_
  refine pv_aload_n X 2 d_L_law_315 rfl ?_
  refine pv_iload X 1 d_L_law_316 rfl ?_
  refine pv_iconst X 3 d_L_law_318 (by decide) ?_
  refine pv_iadd X d_L_law_319 ?_
  refine pv_topi (nI (9 * i + 3)) (nI_add (9 * i) 3) ?_
  refine pv_sld X hX hbl (Nat.not_le.mpr hbl) (vp_in_nI (by omega) (by omega)) d_L_law_320 ?_
  refine pv_topi (xs (9 * i + 3)) (congrArg xs (nI_clamp (by omega))) ?_
  refine pv_i2l X d_L_law_321 ?_
  refine pv_ldc2_w X m_861 d_L_law_322 ?_
  refine pv_land X d_L_law_325 ?_
  refine pv_lor X d_L_law_326 ?_
  refine pv_topl (lw2 xs (9 * i + 2)) rfl ?_
  refine pv_callv X (Cut.mk (w0 := [ob zm 5 [.ref zmp, .ref zm1, .ref zm2, .ref zmx, .int th, .ref zmh, .ref zmt, .int hm, .long ml, .long mr, .ref zmu, .ref zme, .ref zma, .ref zmb, .ref zmk, .ref zmc, .ref zmd, .ref zmi, .ref zmo, .ref zmf, .ref zmg, .ref zmn, .long yp, .long yq, .int yw, .long yx], aI G zmp 32 tb_perm, aI G zm1 56 tb_c1, aI G zm2 48 tb_c2, aI G zmx 512 tb_box, aJ G zmh 6 hv, aZ G zmt 6 ht, aI G zmu 16 yu, aZ G zme 16 ye, aJ G zma 16 ya, aJ G zmb 16 yb, aZ G zmk 8 md, aJ G zmc 8 yc, aJ G zmd 8 yd, aJ G zmi 8 yi, aI G zmo 8 yo, aJ G zmf 5 bf, aJ G zmg 8 mg, aJ G zmn 16 yn]) (wr := [ob zp 0 [.ref zph, .ref zpt, .int hm, .long ml, .long mr, .ref zs, .ref zt, .ref zc, .ref zpb, .ref zpm], aJ G zph 6 hv, aZ G zpt 6 ht, ob zs 1 [.ref zsf, .ref zsu, .ref zse, .ref zsl, .ref zsr], aZ G zsf 16 fi, aI G zsu 16 us, aZ G zse 16 ex, aJ G zsl 16 lf, aJ G zsr 16 rg, ob zt 2 [.ref ztm, .ref ztr, .ref ztl, .ref ztf, .ref ztd, .long cu, .long cv], aZ G ztm 8 md, aJ G ztr 8 re, aJ G ztl 8 fl, aJ G ztf 8 fr, ob ztd 4 [.ref ztdq, .long tk], aJ G ztdq 16 (rkF tk), ob zc 3 [.ref zcl, .ref zcr], ob zcl 4 [.ref zclq, .long kl], aJ G zclq 16 (rkF kl), ob zcr 4 [.ref zcrq, .long kr], aJ G zcrq 16 (rkF kr), aJ G zpb 5 (lk_poke_f bf (xs (9 * i + 1)) (lw2 xs (9 * i + 2))), aJ G zpm 8 mg, aJ G zo 1 lo]) [23, 24, 25, 26, 27, 28, 29, 30, 31, 32, 33, 34, 35, 36, 37, 38, 39, 40, 41] [0, 1, 2, 3, 4, 5, 6, 7, 8, 9, 10, 11, 12, 13, 14, 15, 16, 17, 18, 19, 20, 21, 22, 42] rfl rfl rfl rfl rfl) (rn_V X (c_M_poke l G zm zmp zm1 zm2 zmx zmh zmt zmu zme zma zmb zmk zmc zmd zmi zmo zmf zmg zmn th hm ml mr hv ht yu ye ya yb md yc yd yi yo bf mg yn yp yq yw yx (xs (9 * i + 1)) (lw2 xs (9 * i + 2)) ) trivial mf_M_poke m_706 m_707 m_708 rfl 0 rfl rfl rfl (by decide) ⟨show 43 + i + 1 + 0 ≤ 1073 by omega, show 1035 + 6 * i + 6 + 0 ≤ 9263 by omega⟩ rfl (Nat.le_of_ble_eq_true rfl) d_L_law_327) (fun x1 e1 => ?_)
  refine pv_ord (ws2 := [ob zp 0 [.ref zph, .ref zpt, .int hm, .long ml, .long mr, .ref zs, .ref zt, .ref zc, .ref zpb, .ref zpm], aJ G zph 6 hv, aZ G zpt 6 ht, ob zs 1 [.ref zsf, .ref zsu, .ref zse, .ref zsl, .ref zsr], aZ G zsf 16 fi, aI G zsu 16 us, aZ G zse 16 ex, aJ G zsl 16 lf, aJ G zsr 16 rg, ob zt 2 [.ref ztm, .ref ztr, .ref ztl, .ref ztf, .ref ztd, .long cu, .long cv], aZ G ztm 8 md, aJ G ztr 8 re, aJ G ztl 8 fl, aJ G ztf 8 fr, ob ztd 4 [.ref ztdq, .long tk], aJ G ztdq 16 (rkF tk), ob zc 3 [.ref zcl, .ref zcr], ob zcl 4 [.ref zclq, .long kl], aJ G zclq 16 (rkF kl), ob zcr 4 [.ref zcrq, .long kr], aJ G zcrq 16 (rkF kr), aJ G zpb 5 (lk_poke_f bf (xs (9 * i + 1)) (lw2 xs (9 * i + 2))), aJ G zpm 8 mg, ob zm 5 [.ref zmp, .ref zm1, .ref zm2, .ref zmx, .int (g_M_poke_zm_4 (xs (9 * i + 1))), .ref zmh, .ref zmt, .int hm, .long ml, .long mr, .ref zmu, .ref zme, .ref zma, .ref zmb, .ref zmk, .ref zmc, .ref zmd, .ref zmi, .ref zmo, .ref zmf, .ref zmg, .ref zmn, .long yp, .long yq, .int yw, .long yx], aI G zmp 32 tb_perm, aI G zm1 56 tb_c1, aI G zm2 48 tb_c2, aI G zmx 512 tb_box, aJ G zmh 6 hv, aZ G zmt 6 ht, aI G zmu 16 yu, aZ G zme 16 ye, aJ G zma 16 ya, aJ G zmb 16 yb, aZ G zmk 8 md, aJ G zmc 8 yc, aJ G zmd 8 yd, aJ G zmi 8 yi, aI G zmo 8 yo, aJ G zmf 5 (g_M_poke_zmf bf (xs (9 * i + 1)) (lw2 xs (9 * i + 2))), aJ G zmg 8 mg, aJ G zmn 16 yn, aJ G zo 1 lo]) [0, 1, 2, 3, 4, 5, 6, 7, 8, 9, 10, 11, 12, 13, 14, 15, 16, 17, 18, 19, 20, 21, 22, 24, 25, 26, 27, 28, 29, 30, 31, 32, 33, 34, 35, 36, 37, 38, 39, 40, 41, 42, 23] rfl rfl ?_
  refine pv_widen (k2 := 43 + i + 1) (n2 := 1035 + 6 * i + 6) (Nat.le_refl _) (Nat.le_refl _) ?_
  refine pv_aload_n X 4 d_L_law_330 rfl ?_
  refine pv_calliE X (Cut.mk (w0 := [ob zm 5 [.ref zmp, .ref zm1, .ref zm2, .ref zmx, .int (g_M_poke_zm_4 (xs (9 * i + 1))), .ref zmh, .ref zmt, .int hm, .long ml, .long mr, .ref zmu, .ref zme, .ref zma, .ref zmb, .ref zmk, .ref zmc, .ref zmd, .ref zmi, .ref zmo, .ref zmf, .ref zmg, .ref zmn, .long yp, .long yq, .int yw, .long yx], aI G zmp 32 tb_perm, aI G zm1 56 tb_c1, aI G zm2 48 tb_c2, aI G zmx 512 tb_box, aJ G zmh 6 hv, aZ G zmt 6 ht, aI G zmu 16 yu, aZ G zme 16 ye, aJ G zma 16 ya, aJ G zmb 16 yb, aZ G zmk 8 md, aJ G zmc 8 yc, aJ G zmd 8 yd, aJ G zmi 8 yi, aI G zmo 8 yo, aJ G zmf 5 (g_M_poke_zmf bf (xs (9 * i + 1)) (lw2 xs (9 * i + 2))), aJ G zmg 8 mg, aJ G zmn 16 yn]) (wr := [ob zp 0 [.ref zph, .ref zpt, .int hm, .long ml, .long mr, .ref zs, .ref zt, .ref zc, .ref zpb, .ref zpm], aJ G zph 6 hv, aZ G zpt 6 ht, ob zs 1 [.ref zsf, .ref zsu, .ref zse, .ref zsl, .ref zsr], aZ G zsf 16 fi, aI G zsu 16 us, aZ G zse 16 ex, aJ G zsl 16 lf, aJ G zsr 16 rg, ob zt 2 [.ref ztm, .ref ztr, .ref ztl, .ref ztf, .ref ztd, .long cu, .long cv], aZ G ztm 8 md, aJ G ztr 8 re, aJ G ztl 8 fl, aJ G ztf 8 fr, ob ztd 4 [.ref ztdq, .long tk], aJ G ztdq 16 (rkF tk), ob zc 3 [.ref zcl, .ref zcr], ob zcl 4 [.ref zclq, .long kl], aJ G zclq 16 (rkF kl), ob zcr 4 [.ref zcrq, .long kr], aJ G zcrq 16 (rkF kr), aJ G zpb 5 (lk_poke_f bf (xs (9 * i + 1)) (lw2 xs (9 * i + 2))), aJ G zpm 8 mg, aJ G zo 1 lo]) [23, 24, 25, 26, 27, 28, 29, 30, 31, 32, 33, 34, 35, 36, 37, 38, 39, 40, 41] [0, 1, 2, 3, 4, 5, 6, 7, 8, 9, 10, 11, 12, 13, 14, 15, 16, 17, 18, 19, 20, 21, 22, 42] rfl rfl rfl rfl rfl) (rn_V X (c_M_thrown l G zm zmp zm1 zm2 zmx zmh zmt zmu zme zma zmb zmk zmc zmd zmi zmo zmf zmg zmn (g_M_poke_zm_4 (xs (9 * i + 1))) hm ml mr hv ht yu ye ya yb md yc yd yi yo (g_M_poke_zmf bf (xs (9 * i + 1)) (lw2 xs (9 * i + 2))) mg yn yp yq yw yx ) trivial mf_M_thrown m_653 m_654 m_655 rfl 0 rfl rfl rfl (by decide) ⟨show 43 + i + 1 + 0 ≤ 1073 by omega, show 1035 + 6 * i + 6 + 0 ≤ 9263 by omega⟩ rfl (Nat.le_of_ble_eq_true rfl) d_L_law_331) (fun x2 => ?_)
  refine pv_ord (ws2 := [ob zp 0 [.ref zph, .ref zpt, .int hm, .long ml, .long mr, .ref zs, .ref zt, .ref zc, .ref zpb, .ref zpm], aJ G zph 6 hv, aZ G zpt 6 ht, ob zs 1 [.ref zsf, .ref zsu, .ref zse, .ref zsl, .ref zsr], aZ G zsf 16 fi, aI G zsu 16 us, aZ G zse 16 ex, aJ G zsl 16 lf, aJ G zsr 16 rg, ob zt 2 [.ref ztm, .ref ztr, .ref ztl, .ref ztf, .ref ztd, .long cu, .long cv], aZ G ztm 8 md, aJ G ztr 8 re, aJ G ztl 8 fl, aJ G ztf 8 fr, ob ztd 4 [.ref ztdq, .long tk], aJ G ztdq 16 (rkF tk), ob zc 3 [.ref zcl, .ref zcr], ob zcl 4 [.ref zclq, .long kl], aJ G zclq 16 (rkF kl), ob zcr 4 [.ref zcrq, .long kr], aJ G zcrq 16 (rkF kr), aJ G zpb 5 (lk_poke_f bf (xs (9 * i + 1)) (lw2 xs (9 * i + 2))), aJ G zpm 8 mg, ob zm 5 [.ref zmp, .ref zm1, .ref zm2, .ref zmx, .int (g_M_poke_zm_4 (xs (9 * i + 1))), .ref zmh, .ref zmt, .int hm, .long ml, .long mr, .ref zmu, .ref zme, .ref zma, .ref zmb, .ref zmk, .ref zmc, .ref zmd, .ref zmi, .ref zmo, .ref zmf, .ref zmg, .ref zmn, .long yp, .long yq, .int yw, .long yx], aI G zmp 32 tb_perm, aI G zm1 56 tb_c1, aI G zm2 48 tb_c2, aI G zmx 512 tb_box, aJ G zmh 6 hv, aZ G zmt 6 ht, aI G zmu 16 yu, aZ G zme 16 ye, aJ G zma 16 ya, aJ G zmb 16 yb, aZ G zmk 8 md, aJ G zmc 8 yc, aJ G zmd 8 yd, aJ G zmi 8 yi, aI G zmo 8 yo, aJ G zmf 5 (g_M_poke_zmf bf (xs (9 * i + 1)) (lw2 xs (9 * i + 2))), aJ G zmg 8 mg, aJ G zmn 16 yn, aJ G zo 1 lo]) [0, 1, 2, 3, 4, 5, 6, 7, 8, 9, 10, 11, 12, 13, 14, 15, 16, 17, 18, 19, 20, 21, 22, 24, 25, 26, 27, 28, 29, 30, 31, 32, 33, 34, 35, 36, 37, 38, 39, 40, 41, 42, 23] rfl rfl ?_
  refine pv_widen (k2 := 43 + i + 1) (n2 := 1035 + 6 * i + 6) (Nat.le_refl _) (Nat.le_refl _) ?_
  refine pv_iload X 0 d_L_law_334 rfl ?_
  refine pv_icmp_eq X 341 d_L_law_336 rfl (fun _ => ?_) (fun h => absurd hs.1 h)
  refine pv_goto X 1258 d_L_law_341 rfl ?_
  refine pv_lpick (ll2 := [(4, .int (nI (9 * i))), (0, .ref b), (1, .ref zp), (2, .ref zm), (3, .ref zo)]) [1, 2, 3, 4, 5] rfl ?_
  refine pv_eqw (ws2 := [ob zp 0 [.ref zph, .ref zpt, .int hm, .long ml, .long mr, .ref zs, .ref zt, .ref zc, .ref zpb, .ref zpm], aJ G zph 6 hv, aZ G zpt 6 ht, ob zs 1 [.ref zsf, .ref zsu, .ref zse, .ref zsl, .ref zsr], aZ G zsf 16 fi, aI G zsu 16 us, aZ G zse 16 ex, aJ G zsl 16 lf, aJ G zsr 16 rg, ob zt 2 [.ref ztm, .ref ztr, .ref ztl, .ref ztf, .ref ztd, .long cu, .long cv], aZ G ztm 8 md, aJ G ztr 8 re, aJ G ztl 8 fl, aJ G ztf 8 fr, ob ztd 4 [.ref ztdq, .long tk], aJ G ztdq 16 (rkF tk), ob zc 3 [.ref zcl, .ref zcr], ob zcl 4 [.ref zclq, .long kl], aJ G zclq 16 (rkF kl), ob zcr 4 [.ref zcrq, .long kr], aJ G zcrq 16 (rkF kr), aJ G zpb 5 (lk_poke_f bf (xs (9 * i + 1)) (lw2 xs (9 * i + 2))), aJ G zpm 8 mg, ob zm 5 [.ref zmp, .ref zm1, .ref zm2, .ref zmx, .int (g_M_poke_zm_4 (xs (9 * i + 1))), .ref zmh, .ref zmt, .int hm, .long ml, .long mr, .ref zmu, .ref zme, .ref zma, .ref zmb, .ref zmk, .ref zmc, .ref zmd, .ref zmi, .ref zmo, .ref zmf, .ref zmg, .ref zmn, .long yp, .long yq, .int yw, .long yx], aI G zmp 32 tb_perm, aI G zm1 56 tb_c1, aI G zm2 48 tb_c2, aI G zmx 512 tb_box, aJ G zmh 6 hv, aZ G zmt 6 ht, aI G zmu 16 yu, aZ G zme 16 ye, aJ G zma 16 ya, aJ G zmb 16 yb, aZ G zmk 8 md, aJ G zmc 8 yc, aJ G zmd 8 yd, aJ G zmi 8 yi, aI G zmo 8 yo, aJ G zmf 5 (lk_poke_f bf (xs (9 * i + 1)) (lw2 xs (9 * i + 2))), aJ G zmg 8 mg, aJ G zmn 16 yn, aJ G zo 1 lo]) (by rw [hs.2]) ?_
  exact law_back X hX hbl hE hfl hL hi ih hR (by omega) (by omega)
