theorem d_L_law_128 : decode b_L_law 128 = .ok (.aload_n 1, 1) := by decide +kernel
theorem d_L_law_129 : decode b_L_law 129 = .ok (.aload_n 0, 1) := by decide +kernel
theorem d_L_law_130 : decode b_L_law 130 = .ok (.iload 4, 2) := by decide +kernel
theorem d_L_law_132 : decode b_L_law 132 = .ok (.iconst 1, 1) := by decide +kernel
theorem d_L_law_133 : decode b_L_law 133 = .ok (.iadd, 1) := by decide +kernel
theorem d_L_law_134 : decode b_L_law 134 = .ok (.iaload, 1) := by decide +kernel
theorem d_L_law_135 : decode b_L_law 135 = .ok (.aload_n 0, 1) := by decide +kernel
theorem d_L_law_136 : decode b_L_law 136 = .ok (.iload 4, 2) := by decide +kernel
theorem d_L_law_138 : decode b_L_law 138 = .ok (.iconst 2, 1) := by decide +kernel
theorem d_L_law_139 : decode b_L_law 139 = .ok (.iadd, 1) := by decide +kernel
theorem d_L_law_140 : decode b_L_law 140 = .ok (.iaload, 1) := by decide +kernel
theorem d_L_law_141 : decode b_L_law 141 = .ok (.aload_n 0, 1) := by decide +kernel
theorem d_L_law_142 : decode b_L_law 142 = .ok (.iload 4, 2) := by decide +kernel
theorem d_L_law_144 : decode b_L_law 144 = .ok (.iconst 3, 1) := by decide +kernel
theorem d_L_law_145 : decode b_L_law 145 = .ok (.iadd, 1) := by decide +kernel
theorem d_L_law_146 : decode b_L_law 146 = .ok (.iaload, 1) := by decide +kernel
theorem d_L_law_147 : decode b_L_law 147 = .ok (.i2l, 1) := by decide +kernel
theorem d_L_law_148 : decode b_L_law 148 = .ok (.bipush 32, 2) := by decide +kernel
theorem d_L_law_150 : decode b_L_law 150 = .ok (.lshl, 1) := by decide +kernel
theorem d_L_law_151 : decode b_L_law 151 = .ok (.aload_n 0, 1) := by decide +kernel
theorem d_L_law_152 : decode b_L_law 152 = .ok (.iload 4, 2) := by decide +kernel
theorem d_L_law_154 : decode b_L_law 154 = .ok (.iconst 4, 1) := by decide +kernel
theorem d_L_law_155 : decode b_L_law 155 = .ok (.iadd, 1) := by decide +kernel
theorem d_L_law_156 : decode b_L_law 156 = .ok (.iaload, 1) := by decide +kernel
theorem d_L_law_157 : decode b_L_law 157 = .ok (.i2l, 1) := by decide +kernel
theorem d_L_law_158 : decode b_L_law 158 = .ok (.ldc2_w 36, 3) := by decide +kernel
theorem d_L_law_161 : decode b_L_law 161 = .ok (.land, 1) := by decide +kernel
theorem d_L_law_162 : decode b_L_law 162 = .ok (.lor, 1) := by decide +kernel
theorem d_L_law_163 : decode b_L_law 163 = .ok (.invokestatic 38, 3) := by decide +kernel
theorem d_L_law_166 : decode b_L_law 166 = .ok (.istore 5, 2) := by decide +kernel
theorem d_L_law_168 : decode b_L_law 168 = .ok (.aload_n 2, 1) := by decide +kernel
theorem d_L_law_169 : decode b_L_law 169 = .ok (.aload_n 0, 1) := by decide +kernel
theorem d_L_law_170 : decode b_L_law 170 = .ok (.iload 4, 2) := by decide +kernel
theorem d_L_law_172 : decode b_L_law 172 = .ok (.iconst 1, 1) := by decide +kernel
theorem d_L_law_173 : decode b_L_law 173 = .ok (.iadd, 1) := by decide +kernel
theorem d_L_law_174 : decode b_L_law 174 = .ok (.iaload, 1) := by decide +kernel
theorem d_L_law_175 : decode b_L_law 175 = .ok (.aload_n 0, 1) := by decide +kernel
theorem d_L_law_176 : decode b_L_law 176 = .ok (.iload 4, 2) := by decide +kernel
theorem d_L_law_178 : decode b_L_law 178 = .ok (.iconst 2, 1) := by decide +kernel
theorem d_L_law_179 : decode b_L_law 179 = .ok (.iadd, 1) := by decide +kernel
theorem d_L_law_180 : decode b_L_law 180 = .ok (.iaload, 1) := by decide +kernel
theorem d_L_law_181 : decode b_L_law 181 = .ok (.aload_n 0, 1) := by decide +kernel
theorem d_L_law_182 : decode b_L_law 182 = .ok (.iload 4, 2) := by decide +kernel
theorem d_L_law_184 : decode b_L_law 184 = .ok (.iconst 3, 1) := by decide +kernel
theorem d_L_law_185 : decode b_L_law 185 = .ok (.iadd, 1) := by decide +kernel
theorem d_L_law_186 : decode b_L_law 186 = .ok (.iaload, 1) := by decide +kernel
theorem d_L_law_187 : decode b_L_law 187 = .ok (.i2l, 1) := by decide +kernel
theorem d_L_law_188 : decode b_L_law 188 = .ok (.bipush 32, 2) := by decide +kernel
theorem d_L_law_190 : decode b_L_law 190 = .ok (.lshl, 1) := by decide +kernel
theorem d_L_law_191 : decode b_L_law 191 = .ok (.aload_n 0, 1) := by decide +kernel
theorem d_L_law_192 : decode b_L_law 192 = .ok (.iload 4, 2) := by decide +kernel
theorem d_L_law_194 : decode b_L_law 194 = .ok (.iconst 4, 1) := by decide +kernel
theorem d_L_law_195 : decode b_L_law 195 = .ok (.iadd, 1) := by decide +kernel
theorem d_L_law_196 : decode b_L_law 196 = .ok (.iaload, 1) := by decide +kernel
theorem d_L_law_197 : decode b_L_law 197 = .ok (.i2l, 1) := by decide +kernel
theorem d_L_law_198 : decode b_L_law 198 = .ok (.ldc2_w 36, 3) := by decide +kernel
theorem d_L_law_201 : decode b_L_law 201 = .ok (.land, 1) := by decide +kernel
theorem d_L_law_202 : decode b_L_law 202 = .ok (.lor, 1) := by decide +kernel
theorem d_L_law_203 : decode b_L_law 203 = .ok (.invokevirtual 43, 3) := by decide +kernel
theorem d_L_law_206 : decode b_L_law 206 = .ok (.aload_n 2, 1) := by decide +kernel
theorem d_L_law_207 : decode b_L_law 207 = .ok (.invokevirtual 44, 3) := by decide +kernel
theorem d_L_law_210 : decode b_L_law 210 = .ok (.iload 5, 2) := by decide +kernel
theorem d_L_law_212 : decode b_L_law 212 = .ok (.if_icmp .eq 5, 3) := by decide +kernel
theorem d_L_law_217 : decode b_L_law 217 = .ok (.goto 1041, 3) := by decide +kernel
set_option maxRecDepth 100000 in
set_option maxHeartbeats 4000000 in
theorem law_component {p : Program} {l : Launch} {e : Env} {s : State} {m : MethodId} {below : List Frame} {meth : Method} {c : Code} {G : Gt} {b L : Nat} {xs : Nat → Int32} {zp zph zpt zs zsf zsu zse zsl zsr zt ztm ztr ztl ztf ztd ztdq zc zcl zclq zcr zcrq zpb zpm zm zmp zm1 zm2 zmx zmh zmt zmu zme zma zmb zmk zmc zmd zmi zmo zmf zmg zmn zo : Nat} {hv : Nat → Int64} {ht : Nat → Int32} {hm : Int32} {ml mr : Int64} {fi us ex : Nat → Int32} {lf rg : Nat → Int64} {md : Nat → Int32} {re fl fr : Nat → Int64} {tk cu cv kl kr : Int64} {bf mg : Nat → Int64} {th : Int32} {yu ye : Nat → Int32} {ya yb : Nat → Int64} {yc yd yi : Nat → Int64} {yo : Nat → Int32} {yn : Nat → Int64} {yp yq : Int64} {yw : Int32} {yx : Int64} {lo : Nat → Int64} (X : Cx G (LA s) p s m #[Value.ref b] c b_L_law 8 "PinModuleLaw") (hX : va_X b L xs s s.heap) (hbl : b < s.heap.size) (hE : Eh (LA s) s) (hfl : l.flags = pinnedFlags ++ [noTraceFlag]) (hL : L ≤ 4608) {i : Nat} (hi : 9 * i + 9 ≤ L) (ih : LawAt p l e s m below meth c G b zp zph zpt zs zsf zsu zse zsl zsr zt ztm ztr ztl ztf ztd ztdq zc zcl zclq zcr zcrq zpb zpm zm zmp zm1 zm2 zmx zmh zmt zmu zme zma zmb zmk zmc zmd zmi zmo zmf zmg zmn zo (i + 1)) (hR : R2 hm fi us ex lf rg md re fl fr yu ye ya yb yc yd yi yo) : Vw G (LA s) p l e room_1 s m #[Value.ref b] below meth c (lw_Z below #[Value.ref b] s) 8 (43 + i) (1035 + 6 * i) [ob zp 0 [.ref zph, .ref zpt, .int hm, .long ml, .long mr, .ref zs, .ref zt, .ref zc, .ref zpb, .ref zpm], aJ G zph 6 hv, aZ G zpt 6 ht, ob zs 1 [.ref zsf, .ref zsu, .ref zse, .ref zsl, .ref zsr], aZ G zsf 16 fi, aI G zsu 16 us, aZ G zse 16 ex, aJ G zsl 16 lf, aJ G zsr 16 rg, ob zt 2 [.ref ztm, .ref ztr, .ref ztl, .ref ztf, .ref ztd, .long cu, .long cv], aZ G ztm 8 md, aJ G ztr 8 re, aJ G ztl 8 fl, aJ G ztf 8 fr, ob ztd 4 [.ref ztdq, .long tk], aJ G ztdq 16 (rkF tk), ob zc 3 [.ref zcl, .ref zcr], ob zcl 4 [.ref zclq, .long kl], aJ G zclq 16 (rkF kl), ob zcr 4 [.ref zcrq, .long kr], aJ G zcrq 16 (rkF kr), aJ G zpb 5 bf, aJ G zpm 8 mg, ob zm 5 [.ref zmp, .ref zm1, .ref zm2, .ref zmx, .int th, .ref zmh, .ref zmt, .int hm, .long ml, .long mr, .ref zmu, .ref zme, .ref zma, .ref zmb, .ref zmk, .ref zmc, .ref zmd, .ref zmi, .ref zmo, .ref zmf, .ref zmg, .ref zmn, .long yp, .long yq, .int yw, .long yx], aI G zmp 32 tb_perm, aI G zm1 56 tb_c1, aI G zm2 48 tb_c2, aI G zmx 512 tb_box, aJ G zmh 6 hv, aZ G zmt 6 ht, aI G zmu 16 yu, aZ G zme 16 ye, aJ G zma 16 ya, aJ G zmb 16 yb, aZ G zmk 8 md, aJ G zmc 8 yc, aJ G zmd 8 yd, aJ G zmi 8 yi, aI G zmo 8 yo, aJ G zmf 5 bf, aJ G zmg 8 mg, aJ G zmn 16 yn, aJ G zo 1 lo] [(4, .int (nI (9 * i))), (0, .ref b), (1, .ref zp), (2, .ref zm), (3, .ref zo)] 128 [] := by
  refine pv_aload_n X 2 d_L_law_128 rfl ?_
  refine pv_aload_n X 1 d_L_law_129 rfl ?_
  refine pv_iload X 0 d_L_law_130 rfl ?_
  refine pv_iconst X 1 d_L_law_132 (by decide) ?_
  refine pv_iadd X d_L_law_133 ?_
  refine pv_topi (nI (9 * i + 1)) (nI_add (9 * i) 1) ?_
  refine pv_sld X hX hbl (Nat.not_le.mpr hbl) (vp_in_nI (by omega) (by omega)) d_L_law_134 ?_
  refine pv_topi (xs (9 * i + 1)) (congrArg xs (nI_clamp (by omega))) ?_
  refine pv_aload_n X 1 d_L_law_135 rfl ?_
  refine pv_iload X 0 d_L_law_136 rfl ?_
  refine pv_iconst X 2 d_L_law_138 (by decide) ?_
  refine pv_iadd X d_L_law_139 ?_
  refine pv_topi (nI (9 * i + 2)) (nI_add (9 * i) 2) ?_
  refine pv_sld X hX hbl (Nat.not_le.mpr hbl) (vp_in_nI (by omega) (by omega)) d_L_law_140 ?_
  refine pv_topi (xs (9 * i + 2)) (congrArg xs (nI_clamp (by omega))) ?_
  refine pv_aload_n X 1 d_L_law_141 rfl ?_
  refine pv_iload X 0 d_L_law_142 rfl ?_
  refine pv_iconst X 3 d_L_law_144 (by decide) ?_
  refine pv_iadd X d_L_law_145 ?_
  refine pv_topi (nI (9 * i + 3)) (nI_add (9 * i) 3) ?_
  refine pv_sld X hX hbl (Nat.not_le.mpr hbl) (vp_in_nI (by omega) (by omega)) d_L_law_146 ?_
  refine pv_topi (xs (9 * i + 3)) (congrArg xs (nI_clamp (by omega))) ?_
  refine pv_i2l X d_L_law_147 ?_
  refine pv_bipush X 32 d_L_law_148 (by decide) ?_
  refine pv_lshl X d_L_law_150 ?_
  refine pv_aload_n X 1 d_L_law_151 rfl ?_
  refine pv_iload X 0 d_L_law_152 rfl ?_
  refine pv_iconst X 4 d_L_law_154 (by decide) ?_
  refine pv_iadd X d_L_law_155 ?_
  refine pv_topi (nI (9 * i + 4)) (nI_add (9 * i) 4) ?_
  refine pv_sld X hX hbl (Nat.not_le.mpr hbl) (vp_in_nI (by omega) (by omega)) d_L_law_156 ?_
  refine pv_topi (xs (9 * i + 4)) (congrArg xs (nI_clamp (by omega))) ?_
  refine pv_i2l X d_L_law_157 ?_
  refine pv_ldc2_w X m_861 d_L_law_158 ?_
  refine pv_land X d_L_law_161 ?_
  refine pv_lor X d_L_law_162 ?_
  refine pv_topl (lw2 xs (9 * i + 3)) rfl ?_
  have hs := sim_component (ml := ml) (mr := mr) (tk := tk) (cu := cu) (cv := cv) (kl := kl) (kr := kr) (hv := hv) (ht := ht) (bf := bf) (mg := mg) (lo := lo) (th := th) (yn := yn) (yp := yp) (yq := yq) (yw := yw) (yx := yx) (xs (9 * i + 1)) (xs (9 * i + 2)) (lw2 xs (9 * i + 3)) hR 
  refine pv_calliE X (Cut.mk (w0 := [ob zp 0 [.ref zph, .ref zpt, .int hm, .long ml, .long mr, .ref zs, .ref zt, .ref zc, .ref zpb, .ref zpm], aJ G zph 6 hv, aZ G zpt 6 ht, ob zs 1 [.ref zsf, .ref zsu, .ref zse, .ref zsl, .ref zsr], aZ G zsf 16 fi, aI G zsu 16 us, aZ G zse 16 ex, aJ G zsl 16 lf, aJ G zsr 16 rg, ob zt 2 [.ref ztm, .ref ztr, .ref ztl, .ref ztf, .ref ztd, .long cu, .long cv], aZ G ztm 8 md, aJ G ztr 8 re, aJ G ztl 8 fl, aJ G ztf 8 fr, ob ztd 4 [.ref ztdq, .long tk], aJ G ztdq 16 (rkF tk), ob zc 3 [.ref zcl, .ref zcr], ob zcl 4 [.ref zclq, .long kl], aJ G zclq 16 (rkF kl), ob zcr 4 [.ref zcrq, .long kr], aJ G zcrq 16 (rkF kr), aJ G zpb 5 bf, aJ G zpm 8 mg]) (wr := [ob zm 5 [.ref zmp, .ref zm1, .ref zm2, .ref zmx, .int th, .ref zmh, .ref zmt, .int hm, .long ml, .long mr, .ref zmu, .ref zme, .ref zma, .ref zmb, .ref zmk, .ref zmc, .ref zmd, .ref zmi, .ref zmo, .ref zmf, .ref zmg, .ref zmn, .long yp, .long yq, .int yw, .long yx], aI G zmp 32 tb_perm, aI G zm1 56 tb_c1, aI G zm2 48 tb_c2, aI G zmx 512 tb_box, aJ G zmh 6 hv, aZ G zmt 6 ht, aI G zmu 16 yu, aZ G zme 16 ye, aJ G zma 16 ya, aJ G zmb 16 yb, aZ G zmk 8 md, aJ G zmc 8 yc, aJ G zmd 8 yd, aJ G zmi 8 yi, aI G zmo 8 yo, aJ G zmf 5 bf, aJ G zmg 8 mg, aJ G zmn 16 yn, aJ G zo 1 lo]) [0, 1, 2, 3, 4, 5, 6, 7, 8, 9, 10, 11, 12, 13, 14, 15, 16, 17, 18, 19, 20, 21, 22] [23, 24, 25, 26, 27, 28, 29, 30, 31, 32, 33, 34, 35, 36, 37, 38, 39, 40, 41, 42] rfl rfl rfl rfl rfl) (rn_SW (n := 4) X (c_L_component l hfl G zp zph zpt zs zsf zsu zse zsl zsr zt ztm ztr ztl ztf ztd ztdq zc zcl zclq zcr zcrq zpb zpm hv ht hm ml mr fi us ex lf rg md re fl fr tk cu cv kl kr bf mg  (xs (9 * i + 1)) (xs (9 * i + 2)) (lw2 xs (9 * i + 3))) hE m_443 m_0 ⟨by decide, by decide, by decide +kernel⟩ m_441 m_442 rfl (by decide) ⟨show 43 + i + 1 ≤ 1073 by omega, show 1035 + 6 * i + 6 ≤ 9263 by omega⟩ rfl (Nat.le_of_ble_eq_true rfl) d_L_law_163) (fun x0 => ?_)
  refine pv_widen (k2 := 43 + i + 1) (n2 := 1035 + 6 * i + 6) (Nat.le_refl _) (Nat.le_refl _) ?_
  refine pv_ord (ws2 := [ob zp 0 [.ref zph, .ref zpt, .int hm, .long ml, .long mr, .ref zs, .ref zt, .ref zc, .ref zpb, .ref zpm], aJ G zph 6 (lc_v hv hm (xs (9 * i + 1)) (xs (9 * i + 2)) (lw2 xs (9 * i + 3))), aZ G zpt 6 (lc_t ht hm (xs (9 * i + 1)) (xs (9 * i + 2))), ob zs 1 [.ref zsf, .ref zsu, .ref zse, .ref zsl, .ref zsr], aZ G zsf 16 fi, aI G zsu 16 us, aZ G zse 16 ex, aJ G zsl 16 lf, aJ G zsr 16 rg, ob zt 2 [.ref ztm, .ref ztr, .ref ztl, .ref ztf, .ref ztd, .long cu, .long cv], aZ G ztm 8 md, aJ G ztr 8 re, aJ G ztl 8 fl, aJ G ztf 8 fr, ob ztd 4 [.ref ztdq, .long tk], aJ G ztdq 16 (rkF tk), ob zc 3 [.ref zcl, .ref zcr], ob zcl 4 [.ref zclq, .long kl], aJ G zclq 16 (rkF kl), ob zcr 4 [.ref zcrq, .long kr], aJ G zcrq 16 (rkF kr), aJ G zpb 5 bf, aJ G zpm 8 mg, ob zm 5 [.ref zmp, .ref zm1, .ref zm2, .ref zmx, .int th, .ref zmh, .ref zmt, .int hm, .long ml, .long mr, .ref zmu, .ref zme, .ref zma, .ref zmb, .ref zmk, .ref zmc, .ref zmd, .ref zmi, .ref zmo, .ref zmf, .ref zmg, .ref zmn, .long yp, .long yq, .int yw, .long yx], aI G zmp 32 tb_perm, aI G zm1 56 tb_c1, aI G zm2 48 tb_c2, aI G zmx 512 tb_box, aJ G zmh 6 hv, aZ G zmt 6 ht, aI G zmu 16 yu, aZ G zme 16 ye, aJ G zma 16 ya, aJ G zmb 16 yb, aZ G zmk 8 md, aJ G zmc 8 yc, aJ G zmd 8 yd, aJ G zmi 8 yi, aI G zmo 8 yo, aJ G zmf 5 bf, aJ G zmg 8 mg, aJ G zmn 16 yn, aJ G zo 1 lo]) [20, 21, 22, 23, 24, 25, 26, 27, 28, 29, 30, 31, 32, 33, 34, 35, 36, 37, 38, 39, 40, 41, 42, 0, 1, 2, 3, 4, 5, 6, 7, 8, 9, 10, 11, 12, 13, 14, 15, 16, 17, 18, 19] rfl rfl ?_
  refine pv_istore (ll2 := [(5, .int (lc_r hm (xs (9 * i + 1)) (xs (9 * i + 2)))), (4, .int (nI (9 * i))), (0, .ref b), (1, .ref zp), (2, .ref zm), (3, .ref zo)]) X d_L_law_166 (by decide) rfl ?_
  refine pv_aload_n X 4 d_L_law_168 rfl ?_
  refine pv_aload_n X 2 d_L_law_169 rfl ?_
  refine pv_iload X 1 d_L_law_170 rfl ?_
  refine pv_iconst X 1 d_L_law_172 (by decide) ?_
  refine pv_iadd X d_L_law_173 ?_
  refine pv_topi (nI (9 * i + 1)) (nI_add (9 * i) 1) ?_
  refine pv_sld X hX hbl (Nat.not_le.mpr hbl) (vp_in_nI (by omega) (by omega)) d_L_law_174 ?_
  refine pv_topi (xs (9 * i + 1)) (congrArg xs (nI_clamp (by omega))) ?_
  refine pv_aload_n X 2 d_L_law_175 rfl ?_
  refine pv_iload X 1 d_L_law_176 rfl ?_
  refine pv_iconst X 2 d_L_law_178 (by decide) ?_
  refine pv_iadd X d_L_law_179 ?_
  refine pv_topi (nI (9 * i + 2)) (nI_add (9 * i) 2) ?_
  refine pv_sld X hX hbl (Nat.not_le.mpr hbl) (vp_in_nI (by omega) (by omega)) d_L_law_180 ?_
  refine pv_topi (xs (9 * i + 2)) (congrArg xs (nI_clamp (by omega))) ?_
  refine pv_aload_n X 2 d_L_law_181 rfl ?_
  refine pv_iload X 1 d_L_law_182 rfl ?_
  refine pv_iconst X 3 d_L_law_184 (by decide) ?_
  refine pv_iadd X d_L_law_185 ?_
  refine pv_topi (nI (9 * i + 3)) (nI_add (9 * i) 3) ?_
  refine pv_sld X hX hbl (Nat.not_le.mpr hbl) (vp_in_nI (by omega) (by omega)) d_L_law_186 ?_
  refine pv_topi (xs (9 * i + 3)) (congrArg xs (nI_clamp (by omega))) ?_
  refine pv_i2l X d_L_law_187 ?_
  refine pv_bipush X 32 d_L_law_188 (by decide) ?_
  refine pv_lshl X d_L_law_190 ?_
  refine pv_aload_n X 2 d_L_law_191 rfl ?_
  refine pv_iload X 1 d_L_law_192 rfl ?_
  refine pv_iconst X 4 d_L_law_194 (by decide) ?_
  refine pv_iadd X d_L_law_195 ?_
  refine pv_topi (nI (9 * i + 4)) (nI_add (9 * i) 4) ?_
  refine pv_sld X hX hbl (Nat.not_le.mpr hbl) (vp_in_nI (by omega) (by omega)) d_L_law_196 ?_
  refine pv_topi (xs (9 * i + 4)) (congrArg xs (nI_clamp (by omega))) ?_
  refine pv_i2l X d_L_law_197 ?_
  refine pv_ldc2_w X m_861 d_L_law_198 ?_
  refine pv_land X d_L_law_201 ?_
  refine pv_lor X d_L_law_202 ?_
  refine pv_topl (lw2 xs (9 * i + 3)) rfl ?_
  refine pv_callv X (Cut.mk (w0 := [ob zm 5 [.ref zmp, .ref zm1, .ref zm2, .ref zmx, .int th, .ref zmh, .ref zmt, .int hm, .long ml, .long mr, .ref zmu, .ref zme, .ref zma, .ref zmb, .ref zmk, .ref zmc, .ref zmd, .ref zmi, .ref zmo, .ref zmf, .ref zmg, .ref zmn, .long yp, .long yq, .int yw, .long yx], aI G zmp 32 tb_perm, aI G zm1 56 tb_c1, aI G zm2 48 tb_c2, aI G zmx 512 tb_box, aJ G zmh 6 hv, aZ G zmt 6 ht, aI G zmu 16 yu, aZ G zme 16 ye, aJ G zma 16 ya, aJ G zmb 16 yb, aZ G zmk 8 md, aJ G zmc 8 yc, aJ G zmd 8 yd, aJ G zmi 8 yi, aI G zmo 8 yo, aJ G zmf 5 bf, aJ G zmg 8 mg, aJ G zmn 16 yn]) (wr := [ob zp 0 [.ref zph, .ref zpt, .int hm, .long ml, .long mr, .ref zs, .ref zt, .ref zc, .ref zpb, .ref zpm], aJ G zph 6 (lc_v hv hm (xs (9 * i + 1)) (xs (9 * i + 2)) (lw2 xs (9 * i + 3))), aZ G zpt 6 (lc_t ht hm (xs (9 * i + 1)) (xs (9 * i + 2))), ob zs 1 [.ref zsf, .ref zsu, .ref zse, .ref zsl, .ref zsr], aZ G zsf 16 fi, aI G zsu 16 us, aZ G zse 16 ex, aJ G zsl 16 lf, aJ G zsr 16 rg, ob zt 2 [.ref ztm, .ref ztr, .ref ztl, .ref ztf, .ref ztd, .long cu, .long cv], aZ G ztm 8 md, aJ G ztr 8 re, aJ G ztl 8 fl, aJ G ztf 8 fr, ob ztd 4 [.ref ztdq, .long tk], aJ G ztdq 16 (rkF tk), ob zc 3 [.ref zcl, .ref zcr], ob zcl 4 [.ref zclq, .long kl], aJ G zclq 16 (rkF kl), ob zcr 4 [.ref zcrq, .long kr], aJ G zcrq 16 (rkF kr), aJ G zpb 5 bf, aJ G zpm 8 mg, aJ G zo 1 lo]) [23, 24, 25, 26, 27, 28, 29, 30, 31, 32, 33, 34, 35, 36, 37, 38, 39, 40, 41] [0, 1, 2, 3, 4, 5, 6, 7, 8, 9, 10, 11, 12, 13, 14, 15, 16, 17, 18, 19, 20, 21, 22, 42] rfl rfl rfl rfl rfl) (rn_V X (c_M_component l G zm zmp zm1 zm2 zmx zmh zmt zmu zme zma zmb zmk zmc zmd zmi zmo zmf zmg zmn th hm ml mr hv ht yu ye ya yb md yc yd yi yo bf mg yn yp yq yw yx (xs (9 * i + 1)) (xs (9 * i + 2)) (lw2 xs (9 * i + 3)) ) trivial mf_M_component m_657 m_658 m_659 rfl 0 rfl rfl rfl (by decide) ⟨show 43 + i + 1 + 0 ≤ 1073 by omega, show 1035 + 6 * i + 6 + 0 ≤ 9263 by omega⟩ rfl (Nat.le_of_ble_eq_true rfl) d_L_law_203) (fun x1 e1 => ?_)
  refine pv_ord (ws2 := [ob zp 0 [.ref zph, .ref zpt, .int hm, .long ml, .long mr, .ref zs, .ref zt, .ref zc, .ref zpb, .ref zpm], aJ G zph 6 (lc_v hv hm (xs (9 * i + 1)) (xs (9 * i + 2)) (lw2 xs (9 * i + 3))), aZ G zpt 6 (lc_t ht hm (xs (9 * i + 1)) (xs (9 * i + 2))), ob zs 1 [.ref zsf, .ref zsu, .ref zse, .ref zsl, .ref zsr], aZ G zsf 16 fi, aI G zsu 16 us, aZ G zse 16 ex, aJ G zsl 16 lf, aJ G zsr 16 rg, ob zt 2 [.ref ztm, .ref ztr, .ref ztl, .ref ztf, .ref ztd, .long cu, .long cv], aZ G ztm 8 md, aJ G ztr 8 re, aJ G ztl 8 fl, aJ G ztf 8 fr, ob ztd 4 [.ref ztdq, .long tk], aJ G ztdq 16 (rkF tk), ob zc 3 [.ref zcl, .ref zcr], ob zcl 4 [.ref zclq, .long kl], aJ G zclq 16 (rkF kl), ob zcr 4 [.ref zcrq, .long kr], aJ G zcrq 16 (rkF kr), aJ G zpb 5 bf, aJ G zpm 8 mg, ob zm 5 [.ref zmp, .ref zm1, .ref zm2, .ref zmx, .int (g_M_component_zm_4 hm (xs (9 * i + 1)) (xs (9 * i + 2))), .ref zmh, .ref zmt, .int hm, .long ml, .long mr, .ref zmu, .ref zme, .ref zma, .ref zmb, .ref zmk, .ref zmc, .ref zmd, .ref zmi, .ref zmo, .ref zmf, .ref zmg, .ref zmn, .long yp, .long yq, .int yw, .long yx], aI G zmp 32 tb_perm, aI G zm1 56 tb_c1, aI G zm2 48 tb_c2, aI G zmx 512 tb_box, aJ G zmh 6 (g_M_component_zmh hm hv (xs (9 * i + 1)) (xs (9 * i + 2)) (lw2 xs (9 * i + 3))), aZ G zmt 6 (g_M_component_zmt hm ht (xs (9 * i + 1)) (xs (9 * i + 2))), aI G zmu 16 yu, aZ G zme 16 ye, aJ G zma 16 ya, aJ G zmb 16 yb, aZ G zmk 8 md, aJ G zmc 8 yc, aJ G zmd 8 yd, aJ G zmi 8 yi, aI G zmo 8 yo, aJ G zmf 5 bf, aJ G zmg 8 mg, aJ G zmn 16 yn, aJ G zo 1 lo]) [0, 1, 2, 3, 4, 5, 6, 7, 8, 9, 10, 11, 12, 13, 14, 15, 16, 17, 18, 19, 20, 21, 22, 24, 25, 26, 27, 28, 29, 30, 31, 32, 33, 34, 35, 36, 37, 38, 39, 40, 41, 42, 23] rfl rfl ?_
  refine pv_widen (k2 := 43 + i + 1) (n2 := 1035 + 6 * i + 6) (Nat.le_refl _) (Nat.le_refl _) ?_
  refine pv_aload_n X 4 d_L_law_206 rfl ?_
  refine pv_calliE X (Cut.mk (w0 := [ob zm 5 [.ref zmp, .ref zm1, .ref zm2, .ref zmx, .int (g_M_component_zm_4 hm (xs (9 * i + 1)) (xs (9 * i + 2))), .ref zmh, .ref zmt, .int hm, .long ml, .long mr, .ref zmu, .ref zme, .ref zma, .ref zmb, .ref zmk, .ref zmc, .ref zmd, .ref zmi, .ref zmo, .ref zmf, .ref zmg, .ref zmn, .long yp, .long yq, .int yw, .long yx], aI G zmp 32 tb_perm, aI G zm1 56 tb_c1, aI G zm2 48 tb_c2, aI G zmx 512 tb_box, aJ G zmh 6 (g_M_component_zmh hm hv (xs (9 * i + 1)) (xs (9 * i + 2)) (lw2 xs (9 * i + 3))), aZ G zmt 6 (g_M_component_zmt hm ht (xs (9 * i + 1)) (xs (9 * i + 2))), aI G zmu 16 yu, aZ G zme 16 ye, aJ G zma 16 ya, aJ G zmb 16 yb, aZ G zmk 8 md, aJ G zmc 8 yc, aJ G zmd 8 yd, aJ G zmi 8 yi, aI G zmo 8 yo, aJ G zmf 5 bf, aJ G zmg 8 mg, aJ G zmn 16 yn]) (wr := [ob zp 0 [.ref zph, .ref zpt, .int hm, .long ml, .long mr, .ref zs, .ref zt, .ref zc, .ref zpb, .ref zpm], aJ G zph 6 (lc_v hv hm (xs (9 * i + 1)) (xs (9 * i + 2)) (lw2 xs (9 * i + 3))), aZ G zpt 6 (lc_t ht hm (xs (9 * i + 1)) (xs (9 * i + 2))), ob zs 1 [.ref zsf, .ref zsu, .ref zse, .ref zsl, .ref zsr], aZ G zsf 16 fi, aI G zsu 16 us, aZ G zse 16 ex, aJ G zsl 16 lf, aJ G zsr 16 rg, ob zt 2 [.ref ztm, .ref ztr, .ref ztl, .ref ztf, .ref ztd, .long cu, .long cv], aZ G ztm 8 md, aJ G ztr 8 re, aJ G ztl 8 fl, aJ G ztf 8 fr, ob ztd 4 [.ref ztdq, .long tk], aJ G ztdq 16 (rkF tk), ob zc 3 [.ref zcl, .ref zcr], ob zcl 4 [.ref zclq, .long kl], aJ G zclq 16 (rkF kl), ob zcr 4 [.ref zcrq, .long kr], aJ G zcrq 16 (rkF kr), aJ G zpb 5 bf, aJ G zpm 8 mg, aJ G zo 1 lo]) [23, 24, 25, 26, 27, 28, 29, 30, 31, 32, 33, 34, 35, 36, 37, 38, 39, 40, 41] [0, 1, 2, 3, 4, 5, 6, 7, 8, 9, 10, 11, 12, 13, 14, 15, 16, 17, 18, 19, 20, 21, 22, 42] rfl rfl rfl rfl rfl) (rn_V X (c_M_thrown l G zm zmp zm1 zm2 zmx zmh zmt zmu zme zma zmb zmk zmc zmd zmi zmo zmf zmg zmn (g_M_component_zm_4 hm (xs (9 * i + 1)) (xs (9 * i + 2))) hm ml mr (g_M_component_zmh hm hv (xs (9 * i + 1)) (xs (9 * i + 2)) (lw2 xs (9 * i + 3))) (g_M_component_zmt hm ht (xs (9 * i + 1)) (xs (9 * i + 2))) yu ye ya yb md yc yd yi yo bf mg yn yp yq yw yx ) trivial mf_M_thrown m_653 m_654 m_655 rfl 0 rfl rfl rfl (by decide) ⟨show 43 + i + 1 + 0 ≤ 1073 by omega, show 1035 + 6 * i + 6 + 0 ≤ 9263 by omega⟩ rfl (Nat.le_of_ble_eq_true rfl) d_L_law_207) (fun x2 => ?_)
  refine pv_ord (ws2 := [ob zp 0 [.ref zph, .ref zpt, .int hm, .long ml, .long mr, .ref zs, .ref zt, .ref zc, .ref zpb, .ref zpm], aJ G zph 6 (lc_v hv hm (xs (9 * i + 1)) (xs (9 * i + 2)) (lw2 xs (9 * i + 3))), aZ G zpt 6 (lc_t ht hm (xs (9 * i + 1)) (xs (9 * i + 2))), ob zs 1 [.ref zsf, .ref zsu, .ref zse, .ref zsl, .ref zsr], aZ G zsf 16 fi, aI G zsu 16 us, aZ G zse 16 ex, aJ G zsl 16 lf, aJ G zsr 16 rg, ob zt 2 [.ref ztm, .ref ztr, .ref ztl, .ref ztf, .ref ztd, .long cu, .long cv], aZ G ztm 8 md, aJ G ztr 8 re, aJ G ztl 8 fl, aJ G ztf 8 fr, ob ztd 4 [.ref ztdq, .long tk], aJ G ztdq 16 (rkF tk), ob zc 3 [.ref zcl, .ref zcr], ob zcl 4 [.ref zclq, .long kl], aJ G zclq 16 (rkF kl), ob zcr 4 [.ref zcrq, .long kr], aJ G zcrq 16 (rkF kr), aJ G zpb 5 bf, aJ G zpm 8 mg, ob zm 5 [.ref zmp, .ref zm1, .ref zm2, .ref zmx, .int (g_M_component_zm_4 hm (xs (9 * i + 1)) (xs (9 * i + 2))), .ref zmh, .ref zmt, .int hm, .long ml, .long mr, .ref zmu, .ref zme, .ref zma, .ref zmb, .ref zmk, .ref zmc, .ref zmd, .ref zmi, .ref zmo, .ref zmf, .ref zmg, .ref zmn, .long yp, .long yq, .int yw, .long yx], aI G zmp 32 tb_perm, aI G zm1 56 tb_c1, aI G zm2 48 tb_c2, aI G zmx 512 tb_box, aJ G zmh 6 (g_M_component_zmh hm hv (xs (9 * i + 1)) (xs (9 * i + 2)) (lw2 xs (9 * i + 3))), aZ G zmt 6 (g_M_component_zmt hm ht (xs (9 * i + 1)) (xs (9 * i + 2))), aI G zmu 16 yu, aZ G zme 16 ye, aJ G zma 16 ya, aJ G zmb 16 yb, aZ G zmk 8 md, aJ G zmc 8 yc, aJ G zmd 8 yd, aJ G zmi 8 yi, aI G zmo 8 yo, aJ G zmf 5 bf, aJ G zmg 8 mg, aJ G zmn 16 yn, aJ G zo 1 lo]) [0, 1, 2, 3, 4, 5, 6, 7, 8, 9, 10, 11, 12, 13, 14, 15, 16, 17, 18, 19, 20, 21, 22, 24, 25, 26, 27, 28, 29, 30, 31, 32, 33, 34, 35, 36, 37, 38, 39, 40, 41, 42, 23] rfl rfl ?_
  refine pv_widen (k2 := 43 + i + 1) (n2 := 1035 + 6 * i + 6) (Nat.le_refl _) (Nat.le_refl _) ?_
  refine pv_iload X 0 d_L_law_210 rfl ?_
  refine pv_icmp_eq X 217 d_L_law_212 rfl (fun _ => ?_) (fun h => absurd hs.1 h)
  refine pv_goto X 1258 d_L_law_217 rfl ?_
  refine pv_lpick (ll2 := [(4, .int (nI (9 * i))), (0, .ref b), (1, .ref zp), (2, .ref zm), (3, .ref zo)]) [1, 2, 3, 4, 5] rfl ?_
  refine pv_eqw (ws2 := [ob zp 0 [.ref zph, .ref zpt, .int hm, .long ml, .long mr, .ref zs, .ref zt, .ref zc, .ref zpb, .ref zpm], aJ G zph 6 (lc_v hv hm (xs (9 * i + 1)) (xs (9 * i + 2)) (lw2 xs (9 * i + 3))), aZ G zpt 6 (lc_t ht hm (xs (9 * i + 1)) (xs (9 * i + 2))), ob zs 1 [.ref zsf, .ref zsu, .ref zse, .ref zsl, .ref zsr], aZ G zsf 16 fi, aI G zsu 16 us, aZ G zse 16 ex, aJ G zsl 16 lf, aJ G zsr 16 rg, ob zt 2 [.ref ztm, .ref ztr, .ref ztl, .ref ztf, .ref ztd, .long cu, .long cv], aZ G ztm 8 md, aJ G ztr 8 re, aJ G ztl 8 fl, aJ G ztf 8 fr, ob ztd 4 [.ref ztdq, .long tk], aJ G ztdq 16 (rkF tk), ob zc 3 [.ref zcl, .ref zcr], ob zcl 4 [.ref zclq, .long kl], aJ G zclq 16 (rkF kl), ob zcr 4 [.ref zcrq, .long kr], aJ G zcrq 16 (rkF kr), aJ G zpb 5 bf, aJ G zpm 8 mg, ob zm 5 [.ref zmp, .ref zm1, .ref zm2, .ref zmx, .int (g_M_component_zm_4 hm (xs (9 * i + 1)) (xs (9 * i + 2))), .ref zmh, .ref zmt, .int hm, .long ml, .long mr, .ref zmu, .ref zme, .ref zma, .ref zmb, .ref zmk, .ref zmc, .ref zmd, .ref zmi, .ref zmo, .ref zmf, .ref zmg, .ref zmn, .long yp, .long yq, .int yw, .long yx], aI G zmp 32 tb_perm, aI G zm1 56 tb_c1, aI G zm2 48 tb_c2, aI G zmx 512 tb_box, aJ G zmh 6 (lc_v hv hm (xs (9 * i + 1)) (xs (9 * i + 2)) (lw2 xs (9 * i + 3))), aZ G zmt 6 (lc_t ht hm (xs (9 * i + 1)) (xs (9 * i + 2))), aI G zmu 16 yu, aZ G zme 16 ye, aJ G zma 16 ya, aJ G zmb 16 yb, aZ G zmk 8 md, aJ G zmc 8 yc, aJ G zmd 8 yd, aJ G zmi 8 yi, aI G zmo 8 yo, aJ G zmf 5 bf, aJ G zmg 8 mg, aJ G zmn 16 yn, aJ G zo 1 lo]) (by rw [hs.2.1, hs.2.2]) ?_
  exact law_back X hX hbl hE hfl hL hi ih hR (by omega) (by omega)
