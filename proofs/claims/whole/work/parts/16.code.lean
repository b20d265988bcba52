theorem pl_in1 {i n : Nat} (hn : n ≤ 64) (h : ¬ nI (n / 8) ≤ nI i) (hi : i ≤ 64) : vp_in (nI i) 8 := by
  rw [nI_leI (by omega) (by omega)] at h
  exact vp_in_nI (by omega) (by decide)
theorem pl_in2 {i n : Nat} (hn : n ≤ 64) (hi : i ≤ n / 8) (h : ¬ nI (n % 8) = 0) : vp_in (nI i) 8 := by
  have h : ¬ nI (n % 8) = nI 0 := h
  rw [nI_eq (by omega) (by decide)] at h
  exact vp_in_nI (by omega) (by decide)
theorem rng_in {k : Int32} {n : Nat} {M : Int32} (hM : M.toInt = n) (h1 : ¬ k < 0) (h2 : ¬ M ≤ k) : vp_in k n := by
  rw [vp_in_iff]; rw [i32_lt] at h1; rw [i32_le, hM] at h2
  have e1 : (0 : Int32).toInt = 0 := rfl
  omega
theorem rng_in2 {k : Int32} {n : Nat} {M : Int32} (hM : M.toInt = n) (h1 : ¬ k < 0) (h2 : k < M) : vp_in k n := by
  rw [vp_in_iff]; rw [i32_lt] at h1; rw [i32_lt, hM] at h2
  have e1 : (0 : Int32).toInt = 0 := rfl
  omega
theorem comp_in {k h : Int32} (h1 : ¬ k < 0) (h2 : ¬ 3 ≤ k) (h3 : ¬ h < 0) (h4 : h ≤ 1) : vp_in (2 * k + h) 6 := by
  obtain ⟨a, ha, rfl⟩ := vp_in_of (rng_in (n := 3) rfl h1 h2) (by decide)
  obtain ⟨b, hb, rfl⟩ := nI_of2 (n := 1) rfl h3 h4
  rw [show (2 : Int32) = nI 2 from rfl, pk_mul, nI_add]
  exact vp_in_nI (by omega) (by decide)
def f_P_paddedLong (mg : Nat → Int64) (i : Nat) (n : Nat) : Int64 := if (nI (n / 8)) ≤ (nI i) then (if (nI (n % 8)) = 0 then ((128 : Int64) <<< ((56 - (8 * (nI (n % 8)))).toInt64 &&& 63)) else (((mg i) &&& ((-1 : Int64) <<< ((64 - (8 * (nI (n % 8)))).toInt64 &&& 63))) ||| ((128 : Int64) <<< ((56 - (8 * (nI (n % 8)))).toInt64 &&& 63)))) else (mg i)
abbrev rm_P_paddedLong : Room := { frames := 0, cells := 0, slots := 0, locals := 0 }
theorem mf_P_paddedLong : MF y_P_paddedLong b_P_paddedLong 6 (some .long) 2 := ⟨m_436, m_1, by decide, by decide, by decide +kernel⟩
theorem d_P_paddedLong_0 : decode b_P_paddedLong 0 = .ok (.iload_n 1, 1) := by decide +kernel
theorem d_P_paddedLong_1 : decode b_P_paddedLong 1 = .ok (.iload_n 2, 1) := by decide +kernel
theorem d_P_paddedLong_2 : decode b_P_paddedLong 2 = .ok (.bipush 8, 2) := by decide +kernel
theorem d_P_paddedLong_4 : decode b_P_paddedLong 4 = .ok (.idiv, 1) := by decide +kernel
theorem d_P_paddedLong_5 : decode b_P_paddedLong 5 = .ok (.if_icmp .ge 10, 3) := by decide +kernel
theorem d_P_paddedLong_8 : decode b_P_paddedLong 8 = .ok (.aload_n 0, 1) := by decide +kernel
theorem d_P_paddedLong_9 : decode b_P_paddedLong 9 = .ok (.getfield 41, 3) := by decide +kernel
theorem d_P_paddedLong_12 : decode b_P_paddedLong 12 = .ok (.iload_n 1, 1) := by decide +kernel
theorem d_P_paddedLong_13 : decode b_P_paddedLong 13 = .ok (.laload, 1) := by decide +kernel
theorem d_P_paddedLong_14 : decode b_P_paddedLong 14 = .ok (.lreturn, 1) := by decide +kernel
theorem d_P_paddedLong_15 : decode b_P_paddedLong 15 = .ok (.iload_n 2, 1) := by decide +kernel
theorem d_P_paddedLong_16 : decode b_P_paddedLong 16 = .ok (.bipush 8, 2) := by decide +kernel
theorem d_P_paddedLong_18 : decode b_P_paddedLong 18 = .ok (.irem, 1) := by decide +kernel
theorem d_P_paddedLong_19 : decode b_P_paddedLong 19 = .ok (.istore_n 3, 1) := by decide +kernel
theorem d_P_paddedLong_20 : decode b_P_paddedLong 20 = .ok (.ldc2_w 270, 3) := by decide +kernel
theorem d_P_paddedLong_23 : decode b_P_paddedLong 23 = .ok (.bipush 56, 2) := by decide +kernel
theorem d_P_paddedLong_25 : decode b_P_paddedLong 25 = .ok (.bipush 8, 2) := by decide +kernel
theorem d_P_paddedLong_27 : decode b_P_paddedLong 27 = .ok (.iload_n 3, 1) := by decide +kernel
theorem d_P_paddedLong_28 : decode b_P_paddedLong 28 = .ok (.imul, 1) := by decide +kernel
theorem d_P_paddedLong_29 : decode b_P_paddedLong 29 = .ok (.isub, 1) := by decide +kernel
theorem d_P_paddedLong_30 : decode b_P_paddedLong 30 = .ok (.lshl, 1) := by decide +kernel
theorem d_P_paddedLong_31 : decode b_P_paddedLong 31 = .ok (.lstore 4, 2) := by decide +kernel
theorem d_P_paddedLong_33 : decode b_P_paddedLong 33 = .ok (.iload_n 3, 1) := by decide +kernel
theorem d_P_paddedLong_34 : decode b_P_paddedLong 34 = .ok (.ifCond .ne 8, 3) := by decide +kernel
theorem d_P_paddedLong_37 : decode b_P_paddedLong 37 = .ok (.lload 4, 2) := by decide +kernel
theorem d_P_paddedLong_39 : decode b_P_paddedLong 39 = .ok (.goto 24, 3) := by decide +kernel
theorem d_P_paddedLong_42 : decode b_P_paddedLong 42 = .ok (.aload_n 0, 1) := by decide +kernel
theorem d_P_paddedLong_43 : decode b_P_paddedLong 43 = .ok (.getfield 41, 3) := by decide +kernel
theorem d_P_paddedLong_46 : decode b_P_paddedLong 46 = .ok (.iload_n 1, 1) := by decide +kernel
theorem d_P_paddedLong_47 : decode b_P_paddedLong 47 = .ok (.laload, 1) := by decide +kernel
theorem d_P_paddedLong_48 : decode b_P_paddedLong 48 = .ok (.ldc2_w 272, 3) := by decide +kernel
theorem d_P_paddedLong_51 : decode b_P_paddedLong 51 = .ok (.bipush 64, 2) := by decide +kernel
theorem d_P_paddedLong_53 : decode b_P_paddedLong 53 = .ok (.bipush 8, 2) := by decide +kernel
theorem d_P_paddedLong_55 : decode b_P_paddedLong 55 = .ok (.iload_n 3, 1) := by decide +kernel
theorem d_P_paddedLong_56 : decode b_P_paddedLong 56 = .ok (.imul, 1) := by decide +kernel
theorem d_P_paddedLong_57 : decode b_P_paddedLong 57 = .ok (.isub, 1) := by decide +kernel
theorem d_P_paddedLong_58 : decode b_P_paddedLong 58 = .ok (.lshl, 1) := by decide +kernel
theorem d_P_paddedLong_59 : decode b_P_paddedLong 59 = .ok (.land, 1) := by decide +kernel
theorem d_P_paddedLong_60 : decode b_P_paddedLong 60 = .ok (.lload 4, 2) := by decide +kernel
theorem d_P_paddedLong_62 : decode b_P_paddedLong 62 = .ok (.lor, 1) := by decide +kernel
theorem d_P_paddedLong_63 : decode b_P_paddedLong 63 = .ok (.lreturn, 1) := by decide +kernel
set_option maxRecDepth 100000 in
set_option maxHeartbeats 4000000 in
theorem c_P_paddedLong (l : Launch) (G : Gt) (zp zph zpt zs zsf zsu zse zsl zsr zt ztm ztr ztl ztf ztd ztdq zc zcl zclq zcr zcrq zpb zpm : Nat) (hv : Nat → Int64) (ht : Nat → Int32) (hm : Int32) (ml mr : Int64) (fi us ex : Nat → Int32) (lf rg : Nat → Int64) (md : Nat → Int32) (re fl fr : Nat → Int64) (tk cu cv kl kr : Int64) (bf mg : Nat → Int64) (i n : Nat) (hi : i ≤ n / 8) (hn : n ≤ 64) : CtL l G y_P_paddedLong b_P_paddedLong 6 (some .long) rm_P_paddedLong Sx [.ref zp, .int (nI i), .int (nI n)] [ob zp 0 [.ref zph, .ref zpt, .int hm, .long ml, .long mr, .ref zs, .ref zt, .ref zc, .ref zpb, .ref zpm], aJ G zph 6 hv, aZ G zpt 6 ht, ob zs 1 [.ref zsf, .ref zsu, .ref zse, .ref zsl, .ref zsr], aZ G zsf 16 fi, aI G zsu 16 us, aZ G zse 16 ex, aJ G zsl 16 lf, aJ G zsr 16 rg, ob zt 2 [.ref ztm, .ref ztr, .ref ztl, .ref ztf, .ref ztd, .long cu, .long cv], aZ G ztm 8 md, aJ G ztr 8 re, aJ G ztl 8 fl, aJ G ztf 8 fr, ob ztd 4 [.ref ztdq, .long tk], aJ G ztdq 16 (rkF tk), ob zc 3 [.ref zcl, .ref zcr], ob zcl 4 [.ref zclq, .long kl], aJ G zclq 16 (rkF kl), ob zcr 4 [.ref zcrq, .long kr], aJ G zcrq 16 (rkF kr), aJ G zpb 5 bf, aJ G zpm 8 mg] (fun r (_ : Unit) => r = f_P_paddedLong mg i n) (fun _ => [ob zp 0 [.ref zph, .ref zpt, .int hm, .long ml, .long mr, .ref zs, .ref zt, .ref zc, .ref zpb, .ref zpm], aJ G zph 6 hv, aZ G zpt 6 ht, ob zs 1 [.ref zsf, .ref zsu, .ref zse, .ref zsl, .ref zsr], aZ G zsf 16 fi, aI G zsu 16 us, aZ G zse 16 ex, aJ G zsl 16 lf, aJ G zsr 16 rg, ob zt 2 [.ref ztm, .ref ztr, .ref ztl, .ref ztf, .ref ztd, .long cu, .long cv], aZ G ztm 8 md, aJ G ztr 8 re, aJ G ztl 8 fl, aJ G ztf 8 fr, ob ztd 4 [.ref ztdq, .long tk], aJ G ztdq 16 (rkF tk), ob zc 3 [.ref zcl, .ref zcr], ob zcl 4 [.ref zclq, .long kl], aJ G zclq 16 (rkF kl), ob zcr 4 [.ref zcrq, .long kr], aJ G zcrq 16 (rkF kr), aJ G zpb 5 bf, aJ G zpm 8 mg]) 0 0 := by
  refine Ct.of (Qp := fun A => va_Ql _ (qB G A _) A) Sx_stb (by decide) (Nat.le_of_ble_eq_true rfl) ?_
  intro p e s m args below meth c A X hE hr hlk hini
  refine pv_eql (ll2 := [(0, .ref zp), (1, .int (nI i)), (2, .int (nI n))]) rfl ?_
  refine pv_iload_n X 1 d_P_paddedLong_0 rfl ?_
  refine pv_iload_n X 2 d_P_paddedLong_1 rfl ?_
  refine pv_bipush X 8 d_P_paddedLong_2 (by decide) ?_
  refine pv_idiv X d_P_paddedLong_4 (by decide) ?_
  refine pv_topi (nI (n / 8)) (pk_div (a := n) (d := 8) (by omega) (by decide) (by decide)) ?_
  refine pv_icmp_ge X 15 d_P_paddedLong_5 rfl (fun h1 => ?_) (fun h1n => ?_)
  · skip
    refine pv_iload_n X 2 d_P_paddedLong_15 rfl ?_
    refine pv_bipush X 8 d_P_paddedLong_16 (by decide) ?_
    refine pv_irem X d_P_paddedLong_18 (by decide) ?_
    refine pv_topi (nI (n % 8)) (pk_rem (a := n) (d := 8) (by omega) (by decide) (by decide)) ?_
    refine pv_istore_n (ll2 := [(3, .int (nI (n % 8))), (0, .ref zp), (1, .int (nI i)), (2, .int (nI n))]) X d_P_paddedLong_19 (by decide) rfl ?_
    refine pv_ldc2_w X m_437 d_P_paddedLong_20 ?_
    refine pv_bipush X 56 d_P_paddedLong_23 (by decide) ?_
    refine pv_bipush X 8 d_P_paddedLong_25 (by decide) ?_
    refine pv_iload_n X 0 d_P_paddedLong_27 rfl ?_
    refine pv_imul X d_P_paddedLong_28 ?_
    refine pv_isub X d_P_paddedLong_29 ?_
    refine pv_lshl X d_P_paddedLong_30 ?_
    refine pv_lstore (ll2 := [(4, .long ((128 : Int64) <<< ((56 - (8 * (nI (n % 8)))).toInt64 &&& 63))), (3, .int (nI (n % 8))), (0, .ref zp), (1, .int (nI i)), (2, .int (nI n))]) X d_P_paddedLong_31 (by decide) rfl ?_
    refine pv_iload_n X 1 d_P_paddedLong_33 rfl ?_
    refine pv_if_ne X 42 d_P_paddedLong_34 rfl (fun h2 => ?_) (fun h2n => ?_)
    · skip
      refine pv_aload_n X 2 d_P_paddedLong_42 rfl ?_
      refine pv_get X 0 9 u_P_in m_124 rfl rfl (by decide) ⟨rfl, rfl, rfl⟩ rfl d_P_paddedLong_43 ?_
      refine pv_iload_n X 3 d_P_paddedLong_46 rfl ?_
      refine pv_lald X 22 rfl (pl_in2 hn hi h2) d_P_paddedLong_47 ?_
      refine pv_topl (mg i) (congrArg mg (nI_clamp (by omega))) ?_
      refine pv_ldc2_w X m_438 d_P_paddedLong_48 ?_
      refine pv_bipush X 64 d_P_paddedLong_51 (by decide) ?_
      refine pv_bipush X 8 d_P_paddedLong_53 (by decide) ?_
      refine pv_iload_n X 1 d_P_paddedLong_55 rfl ?_
      refine pv_imul X d_P_paddedLong_56 ?_
      refine pv_isub X d_P_paddedLong_57 ?_
      refine pv_lshl X d_P_paddedLong_58 ?_
      refine pv_land X d_P_paddedLong_59 ?_
      refine pv_lload X 0 d_P_paddedLong_60 rfl ?_
      refine pv_lor X d_P_paddedLong_62 ?_
      exact pv_lret X hr hlk () (by show _ = f_P_paddedLong mg i n; simp only [f_P_paddedLong, if_pos h1, if_neg h2]) rfl d_P_paddedLong_63
    · skip
      refine pv_lload X 0 d_P_paddedLong_37 rfl ?_
      refine pv_goto X 63 d_P_paddedLong_39 rfl ?_
      exact pv_lret X hr hlk () (by show _ = f_P_paddedLong mg i n; simp only [f_P_paddedLong, if_pos h1, if_pos h2n]) rfl d_P_paddedLong_63
  · skip
    refine pv_aload_n X 0 d_P_paddedLong_8 rfl ?_
    refine pv_get X 0 9 u_P_in m_124 rfl rfl (by decide) ⟨rfl, rfl, rfl⟩ rfl d_P_paddedLong_9 ?_
    refine pv_iload_n X 1 d_P_paddedLong_12 rfl ?_
    refine pv_lald X 22 rfl (pl_in1 hn h1n (by omega)) d_P_paddedLong_13 ?_
    refine pv_topl (mg i) (congrArg mg (nI_clamp (by omega))) ?_
    exact pv_lret X hr hlk () (by show _ = f_P_paddedLong mg i n; simp only [f_P_paddedLong, if_neg h1n]) rfl d_P_paddedLong_14
def cdc (lf : Int64) (mg : Nat → Int64) (n : Nat) : Nat → Int64
  | 0 => 0
  | i + 1 => enc lf (cdc lf mg n i ^^^ f_P_paddedLong mg i n)
def f_P_code (hm : Int32) (fi us : Nat → Int32) (k n : Int32) : Int32 := if hm = 0 then -1 else if f_S_isNumber k = 0 then -2 else if n < 0 then -2 else if n ≤ 64 then (if fi k.toNatClampNeg = 0 then -3 else if us k.toNatClampNeg = 1 then 0 else -4) else -2
def g_P_code_zpb (hm : Int32) (fi us : Nat → Int32) (lf rg bf mg : Nat → Int64) (k n : Int32) : Nat → Int64 := if f_P_code hm fi us k n = 0 then vp_updL bf 0 (enc (lf k.toNatClampNeg) (dec (rg k.toNatClampNeg) (cdc (lf k.toNatClampNeg) mg n.toNatClampNeg (n.toNatClampNeg / 8 + 1)))) else bf
abbrev rm_P_code : Room := { frames := 3, cells := 0, slots := 0, locals := 79 }
theorem mf_P_code : MF y_P_code b_P_code 6 (some .int) 2 := ⟨m_432, m_1, by decide, by decide, by decide +kernel⟩
theorem d_P_code_0 : decode b_P_code 0 = .ok (.aload_n 0, 1) := by decide +kernel
theorem d_P_code_1 : decode b_P_code 1 = .ok (.getfield 51, 3) := by decide +kernel
theorem d_P_code_4 : decode b_P_code 4 = .ok (.ifCond .ne 5, 3) := by decide +kernel
theorem d_P_code_7 : decode b_P_code 7 = .ok (.iconst (-1), 1) := by decide +kernel
theorem d_P_code_8 : decode b_P_code 8 = .ok (.ireturn, 1) := by decide +kernel
theorem d_P_code_9 : decode b_P_code 9 = .ok (.iload_n 1, 1) := by decide +kernel
theorem d_P_code_10 : decode b_P_code 10 = .ok (.invokestatic 89, 3) := by decide +kernel
theorem d_P_code_13 : decode b_P_code 13 = .ok (.ifCond .eq 13, 3) := by decide +kernel
theorem d_P_code_16 : decode b_P_code 16 = .ok (.iload_n 2, 1) := by decide +kernel
theorem d_P_code_17 : decode b_P_code 17 = .ok (.ifCond .lt 9, 3) := by decide +kernel
theorem d_P_code_20 : decode b_P_code 20 = .ok (.iload_n 2, 1) := by decide +kernel
theorem d_P_code_21 : decode b_P_code 21 = .ok (.bipush 64, 2) := by decide +kernel
theorem d_P_code_23 : decode b_P_code 23 = .ok (.if_icmp .le 6, 3) := by decide +kernel
theorem d_P_code_26 : decode b_P_code 26 = .ok (.bipush (-2), 2) := by decide +kernel
theorem d_P_code_28 : decode b_P_code 28 = .ok (.ireturn, 1) := by decide +kernel
theorem d_P_code_29 : decode b_P_code 29 = .ok (.aload_n 0, 1) := by decide +kernel
theorem d_P_code_30 : decode b_P_code 30 = .ok (.getfield 20, 3) := by decide +kernel
theorem d_P_code_33 : decode b_P_code 33 = .ok (.getfield 93, 3) := by decide +kernel
theorem d_P_code_36 : decode b_P_code 36 = .ok (.iload_n 1, 1) := by decide +kernel
theorem d_P_code_37 : decode b_P_code 37 = .ok (.baload, 1) := by decide +kernel
theorem d_P_code_38 : decode b_P_code 38 = .ok (.ifCond .ne 6, 3) := by decide +kernel
theorem d_P_code_41 : decode b_P_code 41 = .ok (.bipush (-3), 2) := by decide +kernel
theorem d_P_code_43 : decode b_P_code 43 = .ok (.ireturn, 1) := by decide +kernel
theorem d_P_code_44 : decode b_P_code 44 = .ok (.aload_n 0, 1) := by decide +kernel
theorem d_P_code_45 : decode b_P_code 45 = .ok (.getfield 20, 3) := by decide +kernel
theorem d_P_code_48 : decode b_P_code 48 = .ok (.getfield 114, 3) := by decide +kernel
theorem d_P_code_51 : decode b_P_code 51 = .ok (.iload_n 1, 1) := by decide +kernel
theorem d_P_code_52 : decode b_P_code 52 = .ok (.iaload, 1) := by decide +kernel
theorem d_P_code_53 : decode b_P_code 53 = .ok (.iconst 1, 1) := by decide +kernel
theorem d_P_code_54 : decode b_P_code 54 = .ok (.if_icmp .eq 6, 3) := by decide +kernel
theorem d_P_code_57 : decode b_P_code 57 = .ok (.bipush (-4), 2) := by decide +kernel
theorem d_P_code_59 : decode b_P_code 59 = .ok (.ireturn, 1) := by decide +kernel
theorem d_P_code_60 : decode b_P_code 60 = .ok (.aload_n 0, 1) := by decide +kernel
theorem d_P_code_61 : decode b_P_code 61 = .ok (.getfield 34, 3) := by decide +kernel
theorem d_P_code_64 : decode b_P_code 64 = .ok (.aload_n 0, 1) := by decide +kernel
theorem d_P_code_65 : decode b_P_code 65 = .ok (.getfield 20, 3) := by decide +kernel
theorem d_P_code_68 : decode b_P_code 68 = .ok (.getfield 100, 3) := by decide +kernel
theorem d_P_code_71 : decode b_P_code 71 = .ok (.iload_n 1, 1) := by decide +kernel
theorem d_P_code_72 : decode b_P_code 72 = .ok (.laload, 1) := by decide +kernel
theorem d_P_code_73 : decode b_P_code 73 = .ok (.aload_n 0, 1) := by decide +kernel
theorem d_P_code_74 : decode b_P_code 74 = .ok (.getfield 20, 3) := by decide +kernel
theorem d_P_code_77 : decode b_P_code 77 = .ok (.getfield 103, 3) := by decide +kernel
theorem d_P_code_80 : decode b_P_code 80 = .ok (.iload_n 1, 1) := by decide +kernel
theorem d_P_code_81 : decode b_P_code 81 = .ok (.laload, 1) := by decide +kernel
theorem d_P_code_82 : decode b_P_code 82 = .ok (.invokevirtual 77, 3) := by decide +kernel
theorem d_P_code_85 : decode b_P_code 85 = .ok (.lconst 0, 1) := by decide +kernel
theorem d_P_code_86 : decode b_P_code 86 = .ok (.lstore_n 3, 1) := by decide +kernel
theorem d_P_code_87 : decode b_P_code 87 = .ok (.iconst 0, 1) := by decide +kernel
theorem d_P_code_88 : decode b_P_code 88 = .ok (.istore 5, 2) := by decide +kernel
theorem d_P_code_90 : decode b_P_code 90 = .ok (.iload 5, 2) := by decide +kernel
theorem d_P_code_92 : decode b_P_code 92 = .ok (.iload_n 2, 1) := by decide +kernel
theorem d_P_code_93 : decode b_P_code 93 = .ok (.bipush 8, 2) := by decide +kernel
theorem d_P_code_95 : decode b_P_code 95 = .ok (.idiv, 1) := by decide +kernel
theorem d_P_code_96 : decode b_P_code 96 = .ok (.if_icmp .gt 29, 3) := by decide +kernel
theorem d_P_code_99 : decode b_P_code 99 = .ok (.aload_n 0, 1) := by decide +kernel
theorem d_P_code_100 : decode b_P_code 100 = .ok (.getfield 34, 3) := by decide +kernel
theorem d_P_code_103 : decode b_P_code 103 = .ok (.getfield 237, 3) := by decide +kernel
theorem d_P_code_106 : decode b_P_code 106 = .ok (.lload_n 3, 1) := by decide +kernel
theorem d_P_code_107 : decode b_P_code 107 = .ok (.aload_n 0, 1) := by decide +kernel
theorem d_P_code_108 : decode b_P_code 108 = .ok (.iload 5, 2) := by decide +kernel
theorem d_P_code_110 : decode b_P_code 110 = .ok (.iload_n 2, 1) := by decide +kernel
theorem d_P_code_111 : decode b_P_code 111 = .ok (.invokevirtual 241, 3) := by decide +kernel
theorem d_P_code_114 : decode b_P_code 114 = .ok (.lxor, 1) := by decide +kernel
theorem d_P_code_115 : decode b_P_code 115 = .ok (.invokevirtual 245, 3) := by decide +kernel
theorem d_P_code_118 : decode b_P_code 118 = .ok (.lstore_n 3, 1) := by decide +kernel
theorem d_P_code_119 : decode b_P_code 119 = .ok (.iinc 5 1, 3) := by decide +kernel
theorem d_P_code_122 : decode b_P_code 122 = .ok (.goto (-32), 3) := by decide +kernel
theorem d_P_code_125 : decode b_P_code 125 = .ok (.aload_n 0, 1) := by decide +kernel
theorem d_P_code_126 : decode b_P_code 126 = .ok (.getfield 38, 3) := by decide +kernel
theorem d_P_code_129 : decode b_P_code 129 = .ok (.iconst 0, 1) := by decide +kernel
theorem d_P_code_130 : decode b_P_code 130 = .ok (.aload_n 0, 1) := by decide +kernel
theorem d_P_code_131 : decode b_P_code 131 = .ok (.getfield 34, 3) := by decide +kernel
theorem d_P_code_134 : decode b_P_code 134 = .ok (.getfield 237, 3) := by decide +kernel
theorem d_P_code_137 : decode b_P_code 137 = .ok (.aload_n 0, 1) := by decide +kernel
theorem d_P_code_138 : decode b_P_code 138 = .ok (.getfield 34, 3) := by decide +kernel
theorem d_P_code_141 : decode b_P_code 141 = .ok (.getfield 250, 3) := by decide +kernel
theorem d_P_code_144 : decode b_P_code 144 = .ok (.lload_n 3, 1) := by decide +kernel
theorem d_P_code_145 : decode b_P_code 145 = .ok (.invokevirtual 253, 3) := by decide +kernel
theorem d_P_code_148 : decode b_P_code 148 = .ok (.invokevirtual 245, 3) := by decide +kernel
theorem d_P_code_151 : decode b_P_code 151 = .ok (.lastore, 1) := by decide +kernel
theorem d_P_code_152 : decode b_P_code 152 = .ok (.iconst 0, 1) := by decide +kernel
theorem d_P_code_153 : decode b_P_code 153 = .ok (.ireturn, 1) := by decide +kernel
set_option maxRecDepth 100000 in
set_option maxHeartbeats 4000000 in
theorem c_P_code (l : Launch) (G : Gt) (zp zph zpt zs zsf zsu zse zsl zsr zt ztm ztr ztl ztf ztd ztdq zc zcl zclq zcr zcrq zpb zpm : Nat) (hv : Nat → Int64) (ht : Nat → Int32) (hm : Int32) (ml mr : Int64) (fi us ex : Nat → Int32) (lf rg : Nat → Int64) (md : Nat → Int32) (re fl fr : Nat → Int64) (tk cu cv kl kr : Int64) (bf mg : Nat → Int64) (k n : Int32) : CtI l G y_P_code b_P_code 6 (some .int) rm_P_code Sx [.ref zp, .int k, .int n] [ob zp 0 [.ref zph, .ref zpt, .int hm, .long ml, .long mr, .ref zs, .ref zt, .ref zc, .ref zpb, .ref zpm], aJ G zph 6 hv, aZ G zpt 6 ht, ob zs 1 [.ref zsf, .ref zsu, .ref zse, .ref zsl, .ref zsr], aZ G zsf 16 fi, aI G zsu 16 us, aZ G zse 16 ex, aJ G zsl 16 lf, aJ G zsr 16 rg, ob zt 2 [.ref ztm, .ref ztr, .ref ztl, .ref ztf, .ref ztd, .long cu, .long cv], aZ G ztm 8 md, aJ G ztr 8 re, aJ G ztl 8 fl, aJ G ztf 8 fr, ob ztd 4 [.ref ztdq, .long tk], aJ G ztdq 16 (rkF tk), ob zc 3 [.ref zcl, .ref zcr], ob zcl 4 [.ref zclq, .long kl], aJ G zclq 16 (rkF kl), ob zcr 4 [.ref zcrq, .long kr], aJ G zcrq 16 (rkF kr), aJ G zpb 5 bf, aJ G zpm 8 mg] (fun r (_ : Int64 × Int64) => r = f_P_code hm fi us k n) (fun x => [ob zp 0 [.ref zph, .ref zpt, .int hm, .long ml, .long mr, .ref zs, .ref zt, .ref zc, .ref zpb, .ref zpm], aJ G zph 6 hv, aZ G zpt 6 ht, ob zs 1 [.ref zsf, .ref zsu, .ref zse, .ref zsl, .ref zsr], aZ G zsf 16 fi, aI G zsu 16 us, aZ G zse 16 ex, aJ G zsl 16 lf, aJ G zsr 16 rg, ob zt 2 [.ref ztm, .ref ztr, .ref ztl, .ref ztf, .ref ztd, .long cu, .long cv], aZ G ztm 8 md, aJ G ztr 8 re, aJ G ztl 8 fl, aJ G ztf 8 fr, ob ztd 4 [.ref ztdq, .long tk], aJ G ztdq 16 (rkF tk), ob zc 3 [.ref zcl, .ref zcr], ob zcl 4 [.ref zclq, .long x.1], aJ G zclq 16 (rkF x.1), ob zcr 4 [.ref zcrq, .long x.2], aJ G zcrq 16 (rkF x.2), aJ G zpb 5 (g_P_code_zpb hm fi us lf rg bf mg k n), aJ G zpm 8 mg]) 0 0 := by
  refine Ct.of (Qp := fun A => va_Qi _ (qB G A _) A) Sx_stb (by decide) (Nat.le_of_ble_eq_true rfl) ?_
  intro p e s m args below meth c A X hE hr hlk hini
  refine pv_eql (ll2 := [(0, .ref zp), (1, .int k), (2, .int n)]) rfl ?_
  refine pv_aload_n X 0 d_P_code_0 rfl ?_
  refine pv_get X 0 2 u_P_in m_117 rfl rfl (by decide) ⟨rfl, rfl, rfl⟩ rfl d_P_code_1 ?_
  refine pv_if_ne X 9 d_P_code_4 rfl (fun h1 => ?_) (fun h1n => ?_)
  · skip
    refine pv_iload_n X 1 d_P_code_9 rfl ?_
    refine pv_calli0 X (rn_S X (c_S_isNumber l G k) trivial mf_S_isNumber m_150 m_151 rfl (by decide) (by decide) rfl (Nat.le_of_ble_eq_true rfl) d_P_code_10) ?_
    refine pv_if_eq X 26 d_P_code_13 rfl (fun h3 => ?_) (fun h3n => ?_)
    · skip
      refine pv_bipush X (-2) d_P_code_26 (by decide) ?_
      exact pv_iret X hr hlk (kl, kr) (by show _ = f_P_code hm fi us k n; simp only [f_P_code, if_neg h1, if_pos h3]) (by rw [g_P_code_zpb, if_neg (by simp only [f_P_code, if_neg h1, if_pos h3]; decide)]) d_P_code_28
    · skip
      refine pv_iload_n X 2 d_P_code_16 rfl ?_
      refine pv_if_lt X 26 d_P_code_17 rfl (fun h4 => ?_) (fun h4n => ?_)
      · skip
        refine pv_bipush X (-2) d_P_code_26 (by decide) ?_
        exact pv_iret X hr hlk (kl, kr) (by show _ = f_P_code hm fi us k n; simp only [f_P_code, if_neg h1, if_neg h3n, if_pos h4]) (by rw [g_P_code_zpb, if_neg (by simp only [f_P_code, if_neg h1, if_neg h3n, if_pos h4]; decide)]) d_P_code_28
      · skip
        refine pv_iload_n X 2 d_P_code_20 rfl ?_
        refine pv_bipush X 64 d_P_code_21 (by decide) ?_
        refine pv_icmp_le X 29 d_P_code_23 rfl (fun h5 => ?_) (fun h5n => ?_)
        · skip
          refine pv_aload_n X 0 d_P_code_29 rfl ?_
          refine pv_get X 0 5 u_P_in m_120 rfl rfl (by decide) ⟨rfl, rfl, rfl⟩ rfl d_P_code_30 ?_
          refine pv_get X 3 0 u_S_in m_31 rfl rfl (by decide) ⟨rfl, rfl, rfl⟩ rfl d_P_code_33 ?_
          refine pv_iload_n X 1 d_P_code_36 rfl ?_
          refine pv_zald X 4 rfl (S_in h3n) d_P_code_37 ?_
          refine pv_if_ne X 44 d_P_code_38 rfl (fun h6 => ?_) (fun h6n => ?_)
          · skip
            refine pv_aload_n X 0 d_P_code_44 rfl ?_
            refine pv_get X 0 5 u_P_in m_120 rfl rfl (by decide) ⟨rfl, rfl, rfl⟩ rfl d_P_code_45 ?_
            refine pv_get X 3 1 u_S_in m_33 rfl rfl (by decide) ⟨rfl, rfl, rfl⟩ rfl d_P_code_48 ?_
            refine pv_iload_n X 1 d_P_code_51 rfl ?_
            refine pv_iald X 5 rfl (S_in h3n) d_P_code_52 ?_
            refine pv_iconst X 1 d_P_code_53 (by decide) ?_
            refine pv_icmp_eq X 60 d_P_code_54 rfl (fun h7 => ?_) (fun h7n => ?_)
            · skip
              refine pv_aload_n X 0 d_P_code_60 rfl ?_
              refine pv_get X 0 7 u_P_in m_122 rfl rfl (by decide) ⟨rfl, rfl, rfl⟩ rfl d_P_code_61 ?_
              refine pv_aload_n X 0 d_P_code_64 rfl ?_
              refine pv_get X 0 5 u_P_in m_120 rfl rfl (by decide) ⟨rfl, rfl, rfl⟩ rfl d_P_code_65 ?_
              refine pv_get X 3 3 u_S_in m_37 rfl rfl (by decide) ⟨rfl, rfl, rfl⟩ rfl d_P_code_68 ?_
              refine pv_iload_n X 1 d_P_code_71 rfl ?_
              refine pv_lald X 7 rfl (S_in h3n) d_P_code_72 ?_
              refine pv_aload_n X 0 d_P_code_73 rfl ?_
              refine pv_get X 0 5 u_P_in m_120 rfl rfl (by decide) ⟨rfl, rfl, rfl⟩ rfl d_P_code_74 ?_
              refine pv_get X 3 4 u_S_in m_39 rfl rfl (by decide) ⟨rfl, rfl, rfl⟩ rfl d_P_code_77 ?_
              refine pv_iload_n X 1 d_P_code_80 rfl ?_
              refine pv_lald X 8 rfl (S_in h3n) d_P_code_81 ?_
              refine pv_callv X (Cut.mk (w0 := [ob zc 3 [.ref zcl, .ref zcr], ob zcl 4 [.ref zclq, .long kl], aJ G zclq 16 (rkF kl), ob zcr 4 [.ref zcrq, .long kr], aJ G zcrq 16 (rkF kr)]) (wr := [ob zp 0 [.ref zph, .ref zpt, .int hm, .long ml, .long mr, .ref zs, .ref zt, .ref zc, .ref zpb, .ref zpm], aJ G zph 6 hv, aZ G zpt 6 ht, ob zs 1 [.ref zsf, .ref zsu, .ref zse, .ref zsl, .ref zsr], aZ G zsf 16 fi, aI G zsu 16 us, aZ G zse 16 ex, aJ G zsl 16 lf, aJ G zsr 16 rg, ob zt 2 [.ref ztm, .ref ztr, .ref ztl, .ref ztf, .ref ztd, .long cu, .long cv], aZ G ztm 8 md, aJ G ztr 8 re, aJ G ztl 8 fl, aJ G ztf 8 fr, ob ztd 4 [.ref ztdq, .long tk], aJ G ztdq 16 (rkF tk), aJ G zpb 5 bf, aJ G zpm 8 mg]) [16, 17, 18, 19, 20] [0, 1, 2, 3, 4, 5, 6, 7, 8, 9, 10, 11, 12, 13, 14, 15, 21, 22] rfl rfl rfl rfl rfl) (rn_V X (c_C_take l G zc zcl zclq zcr zcrq kl kr (lf k.toNatClampNeg) (rg k.toNatClampNeg)) hE mf_C_take m_167 m_168 m_169 rfl 0 rfl rfl rfl (by decide) (by decide) rfl (Nat.le_of_ble_eq_true rfl) d_P_code_82) (fun x8 e8 => ?_)
              refine pv_ord (ws2 := [ob zp 0 [.ref zph, .ref zpt, .int hm, .long ml, .long mr, .ref zs, .ref zt, .ref zc, .ref zpb, .ref zpm], aJ G zph 6 hv, aZ G zpt 6 ht, ob zs 1 [.ref zsf, .ref zsu, .ref zse, .ref zsl, .ref zsr], aZ G zsf 16 fi, aI G zsu 16 us, aZ G zse 16 ex, aJ G zsl 16 lf, aJ G zsr 16 rg, ob zt 2 [.ref ztm, .ref ztr, .ref ztl, .ref ztf, .ref ztd, .long cu, .long cv], aZ G ztm 8 md, aJ G ztr 8 re, aJ G ztl 8 fl, aJ G ztf 8 fr, ob ztd 4 [.ref ztdq, .long tk], aJ G ztdq 16 (rkF tk), ob zc 3 [.ref zcl, .ref zcr], ob zcl 4 [.ref zclq, .long (lf k.toNatClampNeg)], aJ G zclq 16 (rkF (lf k.toNatClampNeg)), ob zcr 4 [.ref zcrq, .long (rg k.toNatClampNeg)], aJ G zcrq 16 (rkF (rg k.toNatClampNeg)), aJ G zpb 5 bf, aJ G zpm 8 mg]) [0, 1, 2, 3, 4, 5, 6, 7, 8, 9, 10, 11, 12, 13, 14, 15, 18, 19, 20, 21, 22, 16, 17] rfl rfl ?_
              refine pv_lconst X 0 d_P_code_85 (by decide) ?_
              refine pv_lstore_n (ll2 := [(3, .long (0 : Int64)), (0, .ref zp), (1, .int k), (2, .int n)]) X d_P_code_86 (by decide) rfl ?_
              refine pv_iconst X 0 d_P_code_87 (by decide) ?_
              refine pv_istore (ll2 := [(5, .int 0), (3, .long (0 : Int64)), (0, .ref zp), (1, .int k), (2, .int n)]) X d_P_code_88 (by decide) rfl ?_
              obtain ⟨n, hn, rfl⟩ := nI_of2 (n := 64) rfl h4n h5
              refine pv_lpick (ll2 := [(5, .int (nI 0)), (3, .long (cdc (lf k.toNatClampNeg) mg n 0)), (0, .ref zp), (1, .int k), (2, .int (nI n))]) [0, 1, 2, 3, 4] rfl ?_
              refine pv_eqw (ws2 := [ob zp 0 [.ref zph, .ref zpt, .int hm, .long ml, .long mr, .ref zs, .ref zt, .ref zc, .ref zpb, .ref zpm], aJ G zph 6 hv, aZ G zpt 6 ht, ob zs 1 [.ref zsf, .ref zsu, .ref zse, .ref zsl, .ref zsr], aZ G zsf 16 fi, aI G zsu 16 us, aZ G zse 16 ex, aJ G zsl 16 lf, aJ G zsr 16 rg, ob zt 2 [.ref ztm, .ref ztr, .ref ztl, .ref ztf, .ref ztd, .long cu, .long cv], aZ G ztm 8 md, aJ G ztr 8 re, aJ G ztl 8 fl, aJ G ztf 8 fr, ob ztd 4 [.ref ztdq, .long tk], aJ G ztdq 16 (rkF tk), ob zc 3 [.ref zcl, .ref zcr], ob zcl 4 [.ref zclq, .long (lf k.toNatClampNeg)], aJ G zclq 16 (rkF (lf k.toNatClampNeg)), ob zcr 4 [.ref zcrq, .long (rg k.toNatClampNeg)], aJ G zcrq 16 (rkF (rg k.toNatClampNeg)), aJ G zpb 5 bf, aJ G zpm 8 mg]) rfl ?_
              refine pv_loop (n / 8 + 1) (fun i => True) (fun i => [ob zp 0 [.ref zph, .ref zpt, .int hm, .long ml, .long mr, .ref zs, .ref zt, .ref zc, .ref zpb, .ref zpm], aJ G zph 6 hv, aZ G zpt 6 ht, ob zs 1 [.ref zsf, .ref zsu, .ref zse, .ref zsl, .ref zsr], aZ G zsf 16 fi, aI G zsu 16 us, aZ G zse 16 ex, aJ G zsl 16 lf, aJ G zsr 16 rg, ob zt 2 [.ref ztm, .ref ztr, .ref ztl, .ref ztf, .ref ztd, .long cu, .long cv], aZ G ztm 8 md, aJ G ztr 8 re, aJ G ztl 8 fl, aJ G ztf 8 fr, ob ztd 4 [.ref ztdq, .long tk], aJ G ztdq 16 (rkF tk), ob zc 3 [.ref zcl, .ref zcr], ob zcl 4 [.ref zclq, .long (lf k.toNatClampNeg)], aJ G zclq 16 (rkF (lf k.toNatClampNeg)), ob zcr 4 [.ref zcrq, .long (rg k.toNatClampNeg)], aJ G zcrq 16 (rkF (rg k.toNatClampNeg)), aJ G zpb 5 bf, aJ G zpm 8 mg]) (fun i => [(5, .int (nI i)), (3, .long (cdc (lf k.toNatClampNeg) mg n i)), (0, .ref zp), (1, .int k), (2, .int (nI n))]) 0 (by omega) trivial (fun hI_i => ?_) (fun i h_i hI_i ih_i => ?_)
              · skip
                refine pv_iload X 0 d_P_code_90 rfl ?_
                refine pv_iload_n X 4 d_P_code_92 rfl ?_
                refine pv_bipush X 8 d_P_code_93 (by decide) ?_
                refine pv_idiv X d_P_code_95 (by decide) ?_
                refine pv_topi (nI (n / 8)) (pk_div (a := n) (d := 8) (by omega) (by decide) (by decide)) ?_
                refine pv_icmp_gt X 125 d_P_code_96 rfl (fun _ => ?_) (fun h => absurd (nI_lt (by omega) (by omega)) h)
                refine pv_aload_n X 2 d_P_code_125 rfl ?_
                refine pv_get X 0 8 u_P_in m_123 rfl rfl (by decide) ⟨rfl, rfl, rfl⟩ rfl d_P_code_126 ?_
                refine pv_iconst X 0 d_P_code_129 (by decide) ?_
                refine pv_aload_n X 2 d_P_code_130 rfl ?_
                refine pv_get X 0 7 u_P_in m_122 rfl rfl (by decide) ⟨rfl, rfl, rfl⟩ rfl d_P_code_131 ?_
                refine pv_get X 16 0 u_C_in m_107 rfl rfl (by decide) ⟨rfl, rfl, rfl⟩ rfl d_P_code_134 ?_
                refine pv_aload_n X 2 d_P_code_137 rfl ?_
                refine pv_get X 0 7 u_P_in m_122 rfl rfl (by decide) ⟨rfl, rfl, rfl⟩ rfl d_P_code_138 ?_
                refine pv_get X 16 1 u_C_in m_109 rfl rfl (by decide) ⟨rfl, rfl, rfl⟩ rfl d_P_code_141 ?_
                refine pv_lload_n X 1 d_P_code_144 rfl ?_
                refine pv_calllE X (Cut.mk (w0 := [ob zcr 4 [.ref zcrq, .long (rg k.toNatClampNeg)], aJ G zcrq 16 (rkF (rg k.toNatClampNeg))]) (wr := [ob zp 0 [.ref zph, .ref zpt, .int hm, .long ml, .long mr, .ref zs, .ref zt, .ref zc, .ref zpb, .ref zpm], aJ G zph 6 hv, aZ G zpt 6 ht, ob zs 1 [.ref zsf, .ref zsu, .ref zse, .ref zsl, .ref zsr], aZ G zsf 16 fi, aI G zsu 16 us, aZ G zse 16 ex, aJ G zsl 16 lf, aJ G zsr 16 rg, ob zt 2 [.ref ztm, .ref ztr, .ref ztl, .ref ztf, .ref ztd, .long cu, .long cv], aZ G ztm 8 md, aJ G ztr 8 re, aJ G ztl 8 fl, aJ G ztf 8 fr, ob ztd 4 [.ref ztdq, .long tk], aJ G ztdq 16 (rkF tk), ob zc 3 [.ref zcl, .ref zcr], ob zcl 4 [.ref zclq, .long (lf k.toNatClampNeg)], aJ G zclq 16 (rkF (lf k.toNatClampNeg)), aJ G zpb 5 bf, aJ G zpm 8 mg]) [19, 20] [0, 1, 2, 3, 4, 5, 6, 7, 8, 9, 10, 11, 12, 13, 14, 15, 16, 17, 18, 21, 22] rfl rfl rfl rfl rfl) (rn_V X (c_D_decrypted l G zcr zcrq (rg k.toNatClampNeg) (cdc (lf k.toNatClampNeg) mg n (n / 8 + 1))) hE mf_D_decrypted m_440 m_215 m_216 rfl 0 rfl rfl rfl (by decide) (by decide) rfl (Nat.le_of_ble_eq_true rfl) d_P_code_145) (fun x9 => ?_)
                refine pv_ord (ws2 := [ob zp 0 [.ref zph, .ref zpt, .int hm, .long ml, .long mr, .ref zs, .ref zt, .ref zc, .ref zpb, .ref zpm], aJ G zph 6 hv, aZ G zpt 6 ht, ob zs 1 [.ref zsf, .ref zsu, .ref zse, .ref zsl, .ref zsr], aZ G zsf 16 fi, aI G zsu 16 us, aZ G zse 16 ex, aJ G zsl 16 lf, aJ G zsr 16 rg, ob zt 2 [.ref ztm, .ref ztr, .ref ztl, .ref ztf, .ref ztd, .long cu, .long cv], aZ G ztm 8 md, aJ G ztr 8 re, aJ G ztl 8 fl, aJ G ztf 8 fr, ob ztd 4 [.ref ztdq, .long tk], aJ G ztdq 16 (rkF tk), ob zc 3 [.ref zcl, .ref zcr], ob zcl 4 [.ref zclq, .long (lf k.toNatClampNeg)], aJ G zclq 16 (rkF (lf k.toNatClampNeg)), ob zcr 4 [.ref zcrq, .long (rg k.toNatClampNeg)], aJ G zcrq 16 (rkF (rg k.toNatClampNeg)), aJ G zpb 5 bf, aJ G zpm 8 mg]) [0, 1, 2, 3, 4, 5, 6, 7, 8, 9, 10, 11, 12, 13, 14, 15, 16, 17, 18, 21, 22, 19, 20] rfl rfl ?_
                refine pv_calllE X (Cut.mk (w0 := [ob zcl 4 [.ref zclq, .long (lf k.toNatClampNeg)], aJ G zclq 16 (rkF (lf k.toNatClampNeg))]) (wr := [ob zp 0 [.ref zph, .ref zpt, .int hm, .long ml, .long mr, .ref zs, .ref zt, .ref zc, .ref zpb, .ref zpm], aJ G zph 6 hv, aZ G zpt 6 ht, ob zs 1 [.ref zsf, .ref zsu, .ref zse, .ref zsl, .ref zsr], aZ G zsf 16 fi, aI G zsu 16 us, aZ G zse 16 ex, aJ G zsl 16 lf, aJ G zsr 16 rg, ob zt 2 [.ref ztm, .ref ztr, .ref ztl, .ref ztf, .ref ztd, .long cu, .long cv], aZ G ztm 8 md, aJ G ztr 8 re, aJ G ztl 8 fl, aJ G ztf 8 fr, ob ztd 4 [.ref ztdq, .long tk], aJ G ztdq 16 (rkF tk), ob zc 3 [.ref zcl, .ref zcr], ob zcr 4 [.ref zcrq, .long (rg k.toNatClampNeg)], aJ G zcrq 16 (rkF (rg k.toNatClampNeg)), aJ G zpb 5 bf, aJ G zpm 8 mg]) [17, 18] [0, 1, 2, 3, 4, 5, 6, 7, 8, 9, 10, 11, 12, 13, 14, 15, 16, 19, 20, 21, 22] rfl rfl rfl rfl rfl) (rn_V X (c_D_encrypted l G zcl zclq (lf k.toNatClampNeg) (dec (rg k.toNatClampNeg) (cdc (lf k.toNatClampNeg) mg n (n / 8 + 1)))) hE mf_D_encrypted m_439 m_197 m_198 rfl 0 rfl rfl rfl (by decide) (by decide) rfl (Nat.le_of_ble_eq_true rfl) d_P_code_148) (fun x10 => ?_)
                refine pv_ord (ws2 := [ob zp 0 [.ref zph, .ref zpt, .int hm, .long ml, .long mr, .ref zs, .ref zt, .ref zc, .ref zpb, .ref zpm], aJ G zph 6 hv, aZ G zpt 6 ht, ob zs 1 [.ref zsf, .ref zsu, .ref zse, .ref zsl, .ref zsr], aZ G zsf 16 fi, aI G zsu 16 us, aZ G zse 16 ex, aJ G zsl 16 lf, aJ G zsr 16 rg, ob zt 2 [.ref ztm, .ref ztr, .ref ztl, .ref ztf, .ref ztd, .long cu, .long cv], aZ G ztm 8 md, aJ G ztr 8 re, aJ G ztl 8 fl, aJ G ztf 8 fr, ob ztd 4 [.ref ztdq, .long tk], aJ G ztdq 16 (rkF tk), ob zc 3 [.ref zcl, .ref zcr], ob zcl 4 [.ref zclq, .long (lf k.toNatClampNeg)], aJ G zclq 16 (rkF (lf k.toNatClampNeg)), ob zcr 4 [.ref zcrq, .long (rg k.toNatClampNeg)], aJ G zcrq 16 (rkF (rg k.toNatClampNeg)), aJ G zpb 5 bf, aJ G zpm 8 mg]) [0, 1, 2, 3, 4, 5, 6, 7, 8, 9, 10, 11, 12, 13, 14, 15, 16, 21, 22, 17, 18, 19, 20] rfl rfl ?_
                refine pv_last (ws2 := [ob zp 0 [.ref zph, .ref zpt, .int hm, .long ml, .long mr, .ref zs, .ref zt, .ref zc, .ref zpb, .ref zpm], aJ G zph 6 hv, aZ G zpt 6 ht, ob zs 1 [.ref zsf, .ref zsu, .ref zse, .ref zsl, .ref zsr], aZ G zsf 16 fi, aI G zsu 16 us, aZ G zse 16 ex, aJ G zsl 16 lf, aJ G zsr 16 rg, ob zt 2 [.ref ztm, .ref ztr, .ref ztl, .ref ztf, .ref ztd, .long cu, .long cv], aZ G ztm 8 md, aJ G ztr 8 re, aJ G ztl 8 fl, aJ G ztf 8 fr, ob ztd 4 [.ref ztdq, .long tk], aJ G ztdq 16 (rkF tk), ob zc 3 [.ref zcl, .ref zcr], ob zcl 4 [.ref zclq, .long (lf k.toNatClampNeg)], aJ G zclq 16 (rkF (lf k.toNatClampNeg)), ob zcr 4 [.ref zcrq, .long (rg k.toNatClampNeg)], aJ G zcrq 16 (rkF (rg k.toNatClampNeg)), aJ G zpb 5 (vp_updL bf 0 (enc (lf k.toNatClampNeg) (dec (rg k.toNatClampNeg) (cdc (lf k.toNatClampNeg) mg n (n / 8 + 1))))), aJ G zpm 8 mg]) X 21 rfl (by unfold vp_in; decide) rfl d_P_code_151 ?_
                refine pv_iconst X 0 d_P_code_152 (by decide) ?_
                exact pv_iret X hr hlk (lf k.toNatClampNeg, rg k.toNatClampNeg) (by show _ = f_P_code hm fi us k (nI n); simp only [f_P_code, if_neg h1, if_neg h3n, if_neg h4n, if_pos h5, if_neg h6, if_pos h7]) (by rw [g_P_code_zpb, if_pos (by simp only [f_P_code, if_neg h1, if_neg h3n, if_neg h4n, if_pos h5, if_neg h6, if_pos h7]), nI_clamp (by omega)]) d_P_code_153
              · skip
                refine pv_iload X 0 d_P_code_90 rfl ?_
                refine pv_iload_n X 4 d_P_code_92 rfl ?_
                refine pv_bipush X 8 d_P_code_93 (by decide) ?_
                refine pv_idiv X d_P_code_95 (by decide) ?_
                refine pv_topi (nI (n / 8)) (pk_div (a := n) (d := 8) (by omega) (by decide) (by decide)) ?_
                refine pv_icmp_gt X 125 d_P_code_96 rfl (fun h => absurd h (nI_nlt (by omega) (by omega))) (fun _ => ?_)
                refine pv_aload_n X 2 d_P_code_99 rfl ?_
                refine pv_get X 0 7 u_P_in m_122 rfl rfl (by decide) ⟨rfl, rfl, rfl⟩ rfl d_P_code_100 ?_
                refine pv_get X 16 0 u_C_in m_107 rfl rfl (by decide) ⟨rfl, rfl, rfl⟩ rfl d_P_code_103 ?_
                refine pv_lload_n X 1 d_P_code_106 rfl ?_
                refine pv_aload_n X 2 d_P_code_107 rfl ?_
                refine pv_iload X 0 d_P_code_108 rfl ?_
                refine pv_iload_n X 4 d_P_code_110 rfl ?_
                refine pv_calllE X (Cut.all _) (rn_V X (c_P_paddedLong l G zp zph zpt zs zsf zsu zse zsl zsr zt ztm ztr ztl ztf ztd ztdq zc zcl zclq zcr zcrq zpb zpm hv ht hm ml mr fi us ex lf rg md re fl fr tk cu cv (lf k.toNatClampNeg) (rg k.toNatClampNeg) bf mg i n (by omega) (by omega)) hE mf_P_paddedLong m_433 m_435 ms_9 rfl 0 rfl rfl rfl (by decide) (by decide) rfl (Nat.le_of_ble_eq_true rfl) d_P_code_111) (fun x11 => ?_)
                refine pv_eqw (ws2 := [ob zp 0 [.ref zph, .ref zpt, .int hm, .long ml, .long mr, .ref zs, .ref zt, .ref zc, .ref zpb, .ref zpm], aJ G zph 6 hv, aZ G zpt 6 ht, ob zs 1 [.ref zsf, .ref zsu, .ref zse, .ref zsl, .ref zsr], aZ G zsf 16 fi, aI G zsu 16 us, aZ G zse 16 ex, aJ G zsl 16 lf, aJ G zsr 16 rg, ob zt 2 [.ref ztm, .ref ztr, .ref ztl, .ref ztf, .ref ztd, .long cu, .long cv], aZ G ztm 8 md, aJ G ztr 8 re, aJ G ztl 8 fl, aJ G ztf 8 fr, ob ztd 4 [.ref ztdq, .long tk], aJ G ztdq 16 (rkF tk), ob zc 3 [.ref zcl, .ref zcr], ob zcl 4 [.ref zclq, .long (lf k.toNatClampNeg)], aJ G zclq 16 (rkF (lf k.toNatClampNeg)), ob zcr 4 [.ref zcrq, .long (rg k.toNatClampNeg)], aJ G zcrq 16 (rkF (rg k.toNatClampNeg)), aJ G zpb 5 bf, aJ G zpm 8 mg]) rfl ?_
                refine pv_lxor X d_P_code_114 ?_
                refine pv_calllE X (Cut.mk (w0 := [ob zcl 4 [.ref zclq, .long (lf k.toNatClampNeg)], aJ G zclq 16 (rkF (lf k.toNatClampNeg))]) (wr := [ob zp 0 [.ref zph, .ref zpt, .int hm, .long ml, .long mr, .ref zs, .ref zt, .ref zc, .ref zpb, .ref zpm], aJ G zph 6 hv, aZ G zpt 6 ht, ob zs 1 [.ref zsf, .ref zsu, .ref zse, .ref zsl, .ref zsr], aZ G zsf 16 fi, aI G zsu 16 us, aZ G zse 16 ex, aJ G zsl 16 lf, aJ G zsr 16 rg, ob zt 2 [.ref ztm, .ref ztr, .ref ztl, .ref ztf, .ref ztd, .long cu, .long cv], aZ G ztm 8 md, aJ G ztr 8 re, aJ G ztl 8 fl, aJ G ztf 8 fr, ob ztd 4 [.ref ztdq, .long tk], aJ G ztdq 16 (rkF tk), ob zc 3 [.ref zcl, .ref zcr], ob zcr 4 [.ref zcrq, .long (rg k.toNatClampNeg)], aJ G zcrq 16 (rkF (rg k.toNatClampNeg)), aJ G zpb 5 bf, aJ G zpm 8 mg]) [17, 18] [0, 1, 2, 3, 4, 5, 6, 7, 8, 9, 10, 11, 12, 13, 14, 15, 16, 19, 20, 21, 22] rfl rfl rfl rfl rfl) (rn_V X (c_D_encrypted l G zcl zclq (lf k.toNatClampNeg) ((cdc (lf k.toNatClampNeg) mg n i) ^^^ (f_P_paddedLong mg i n))) hE mf_D_encrypted m_439 m_197 m_198 rfl 0 rfl rfl rfl (by decide) (by decide) rfl (Nat.le_of_ble_eq_true rfl) d_P_code_115) (fun x12 => ?_)
                refine pv_ord (ws2 := [ob zp 0 [.ref zph, .ref zpt, .int hm, .long ml, .long mr, .ref zs, .ref zt, .ref zc, .ref zpb, .ref zpm], aJ G zph 6 hv, aZ G zpt 6 ht, ob zs 1 [.ref zsf, .ref zsu, .ref zse, .ref zsl, .ref zsr], aZ G zsf 16 fi, aI G zsu 16 us, aZ G zse 16 ex, aJ G zsl 16 lf, aJ G zsr 16 rg, ob zt 2 [.ref ztm, .ref ztr, .ref ztl, .ref ztf, .ref ztd, .long cu, .long cv], aZ G ztm 8 md, aJ G ztr 8 re, aJ G ztl 8 fl, aJ G ztf 8 fr, ob ztd 4 [.ref ztdq, .long tk], aJ G ztdq 16 (rkF tk), ob zc 3 [.ref zcl, .ref zcr], ob zcl 4 [.ref zclq, .long (lf k.toNatClampNeg)], aJ G zclq 16 (rkF (lf k.toNatClampNeg)), ob zcr 4 [.ref zcrq, .long (rg k.toNatClampNeg)], aJ G zcrq 16 (rkF (rg k.toNatClampNeg)), aJ G zpb 5 bf, aJ G zpm 8 mg]) [0, 1, 2, 3, 4, 5, 6, 7, 8, 9, 10, 11, 12, 13, 14, 15, 16, 21, 22, 17, 18, 19, 20] rfl rfl ?_
                refine pv_lstore_n (ll2 := [(3, .long (enc (lf k.toNatClampNeg) ((cdc (lf k.toNatClampNeg) mg n i) ^^^ (f_P_paddedLong mg i n)))), (5, .int (nI i)), (0, .ref zp), (1, .int k), (2, .int (nI n))]) X d_P_code_118 (by decide) rfl ?_
                refine pv_iinc (ll2 := [(5, .int (nI (i + 1))), (3, .long (enc (lf k.toNatClampNeg) ((cdc (lf k.toNatClampNeg) mg n i) ^^^ (f_P_paddedLong mg i n)))), (0, .ref zp), (1, .int k), (2, .int (nI n))]) X 1 (nI (i + 1)) d_P_code_119 rfl (nI_1 _) (by decide) rfl ?_
                refine pv_goto X 90 d_P_code_122 rfl ?_
                refine pv_lpick (ll2 := [(5, .int (nI (i + 1))), (3, .long (cdc (lf k.toNatClampNeg) mg n (i + 1))), (0, .ref zp), (1, .int k), (2, .int (nI n))]) [0, 1, 2, 3, 4] rfl ?_
                refine pv_eqw (ws2 := [ob zp 0 [.ref zph, .ref zpt, .int hm, .long ml, .long mr, .ref zs, .ref zt, .ref zc, .ref zpb, .ref zpm], aJ G zph 6 hv, aZ G zpt 6 ht, ob zs 1 [.ref zsf, .ref zsu, .ref zse, .ref zsl, .ref zsr], aZ G zsf 16 fi, aI G zsu 16 us, aZ G zse 16 ex, aJ G zsl 16 lf, aJ G zsr 16 rg, ob zt 2 [.ref ztm, .ref ztr, .ref ztl, .ref ztf, .ref ztd, .long cu, .long cv], aZ G ztm 8 md, aJ G ztr 8 re, aJ G ztl 8 fl, aJ G ztf 8 fr, ob ztd 4 [.ref ztdq, .long tk], aJ G ztdq 16 (rkF tk), ob zc 3 [.ref zcl, .ref zcr], ob zcl 4 [.ref zclq, .long (lf k.toNatClampNeg)], aJ G zclq 16 (rkF (lf k.toNatClampNeg)), ob zcr 4 [.ref zcrq, .long (rg k.toNatClampNeg)], aJ G zcrq 16 (rkF (rg k.toNatClampNeg)), aJ G zpb 5 bf, aJ G zpm 8 mg]) rfl ?_
                exact ih_i trivial
            · skip
              refine pv_bipush X (-4) d_P_code_57 (by decide) ?_
              exact pv_iret X hr hlk (kl, kr) (by show _ = f_P_code hm fi us k n; simp only [f_P_code, if_neg h1, if_neg h3n, if_neg h4n, if_pos h5, if_neg h6, if_neg h7n]) (by rw [g_P_code_zpb, if_neg (by simp only [f_P_code, if_neg h1, if_neg h3n, if_neg h4n, if_pos h5, if_neg h6, if_neg h7n]; decide)]) d_P_code_59
          · skip
            refine pv_bipush X (-3) d_P_code_41 (by decide) ?_
            exact pv_iret X hr hlk (kl, kr) (by show _ = f_P_code hm fi us k n; simp only [f_P_code, if_neg h1, if_neg h3n, if_neg h4n, if_pos h5, if_pos h6n]) (by rw [g_P_code_zpb, if_neg (by simp only [f_P_code, if_neg h1, if_neg h3n, if_neg h4n, if_pos h5, if_pos h6n]; decide)]) d_P_code_43
        · skip
          refine pv_bipush X (-2) d_P_code_26 (by decide) ?_
          exact pv_iret X hr hlk (kl, kr) (by show _ = f_P_code hm fi us k n; simp only [f_P_code, if_neg h1, if_neg h3n, if_neg h4n, if_neg h5n]) (by rw [g_P_code_zpb, if_neg (by simp only [f_P_code, if_neg h1, if_neg h3n, if_neg h4n, if_neg h5n]; decide)]) d_P_code_28
  · skip
    refine pv_iconst X (-1) d_P_code_7 (by decide) ?_
    exact pv_iret X hr hlk (kl, kr) (by show _ = f_P_code hm fi us k n; simp only [f_P_code, if_pos h1n]) (by rw [g_P_code_zpb, if_neg (by simp only [f_P_code, if_pos h1n]; decide)]) d_P_code_8
def g_P_component_zph (hv : Nat → Int64) (k : Int32) (h : Int32) (v : Int64) : Nat → Int64 := vp_updL hv (((2 * k) + h).toNatClampNeg) v
def g_P_component_zpt (ht : Nat → Int32) (k : Int32) (h : Int32) : Nat → Int32 := upd ht (((2 * k) + h).toNatClampNeg) 1
abbrev rm_P_component : Room := { frames := 6, cells := 0, slots := 0, locals := 144 }
theorem mf_P_component : MF y_P_component b_P_component 5 none 3 := ⟨m_449, m_1, by decide, by decide, by decide +kernel⟩
theorem d_P_component_0 : decode b_P_component 0 = .ok (.iload_n 1, 1) := by decide +kernel
theorem d_P_component_1 : decode b_P_component 1 = .ok (.ifCond .lt 17, 3) := by decide +kernel
theorem d_P_component_4 : decode b_P_component 4 = .ok (.iload_n 1, 1) := by decide +kernel
theorem d_P_component_5 : decode b_P_component 5 = .ok (.iconst 3, 1) := by decide +kernel
theorem d_P_component_6 : decode b_P_component 6 = .ok (.if_icmp .ge 12, 3) := by decide +kernel
theorem d_P_component_9 : decode b_P_component 9 = .ok (.iload_n 2, 1) := by decide +kernel
theorem d_P_component_10 : decode b_P_component 10 = .ok (.ifCond .lt 8, 3) := by decide +kernel
theorem d_P_component_13 : decode b_P_component 13 = .ok (.iload_n 2, 1) := by decide +kernel
theorem d_P_component_14 : decode b_P_component 14 = .ok (.iconst 1, 1) := by decide +kernel
theorem d_P_component_15 : decode b_P_component 15 = .ok (.if_icmp .le 13, 3) := by decide +kernel
theorem d_P_component_28 : decode b_P_component 28 = .ok (.aload_n 0, 1) := by decide +kernel
theorem d_P_component_29 : decode b_P_component 29 = .ok (.getfield 51, 3) := by decide +kernel
theorem d_P_component_32 : decode b_P_component 32 = .ok (.ifCond .eq 13, 3) := by decide +kernel
theorem d_P_component_45 : decode b_P_component 45 = .ok (.aload_n 0, 1) := by decide +kernel
theorem d_P_component_46 : decode b_P_component 46 = .ok (.getfield 11, 3) := by decide +kernel
theorem d_P_component_49 : decode b_P_component 49 = .ok (.iconst 2, 1) := by decide +kernel
theorem d_P_component_50 : decode b_P_component 50 = .ok (.iload_n 1, 1) := by decide +kernel
theorem d_P_component_51 : decode b_P_component 51 = .ok (.imul, 1) := by decide +kernel
theorem d_P_component_52 : decode b_P_component 52 = .ok (.iload_n 2, 1) := by decide +kernel
theorem d_P_component_53 : decode b_P_component 53 = .ok (.iadd, 1) := by decide +kernel
theorem d_P_component_54 : decode b_P_component 54 = .ok (.lload_n 3, 1) := by decide +kernel
theorem d_P_component_55 : decode b_P_component 55 = .ok (.lastore, 1) := by decide +kernel
theorem d_P_component_56 : decode b_P_component 56 = .ok (.aload_n 0, 1) := by decide +kernel
theorem d_P_component_57 : decode b_P_component 57 = .ok (.getfield 15, 3) := by decide +kernel
theorem d_P_component_60 : decode b_P_component 60 = .ok (.iconst 2, 1) := by decide +kernel
theorem d_P_component_61 : decode b_P_component 61 = .ok (.iload_n 1, 1) := by decide +kernel
theorem d_P_component_62 : decode b_P_component 62 = .ok (.imul, 1) := by decide +kernel
theorem d_P_component_63 : decode b_P_component 63 = .ok (.iload_n 2, 1) := by decide +kernel
theorem d_P_component_64 : decode b_P_component 64 = .ok (.iadd, 1) := by decide +kernel
theorem d_P_component_65 : decode b_P_component 65 = .ok (.iconst 1, 1) := by decide +kernel
theorem d_P_component_66 : decode b_P_component 66 = .ok (.bastore, 1) := by decide +kernel
theorem d_P_component_67 : decode b_P_component 67 = .ok (.return_, 1) := by decide +kernel
set_option maxRecDepth 100000 in
set_option maxHeartbeats 4000000 in
theorem c_P_component (l : Launch) (G : Gt) (zp zph zpt zs zsf zsu zse zsl zsr zt ztm ztr ztl ztf ztd ztdq zc zcl zclq zcr zcrq zpb zpm : Nat) (hv : Nat → Int64) (ht : Nat → Int32) (hm : Int32) (ml mr : Int64) (fi us ex : Nat → Int32) (lf rg : Nat → Int64) (md : Nat → Int32) (re fl fr : Nat → Int64) (tk cu cv kl kr : Int64) (bf mg : Nat → Int64) (k h : Int32) (v : Int64) (hk : ¬ k < 0) (hk3 : ¬ 3 ≤ k) (hh : ¬ h < 0) (hh1 : h ≤ 1) (h0 : hm = 0) : CtV l G y_P_component b_P_component 5 none rm_P_component Sx [.ref zp, .int k, .int h, .long v] [ob zp 0 [.ref zph, .ref zpt, .int hm, .long ml, .long mr, .ref zs, .ref zt, .ref zc, .ref zpb, .ref zpm], aJ G zph 6 hv, aZ G zpt 6 ht, ob zs 1 [.ref zsf, .ref zsu, .ref zse, .ref zsl, .ref zsr], aZ G zsf 16 fi, aI G zsu 16 us, aZ G zse 16 ex, aJ G zsl 16 lf, aJ G zsr 16 rg, ob zt 2 [.ref ztm, .ref ztr, .ref ztl, .ref ztf, .ref ztd, .long cu, .long cv], aZ G ztm 8 md, aJ G ztr 8 re, aJ G ztl 8 fl, aJ G ztf 8 fr, ob ztd 4 [.ref ztdq, .long tk], aJ G ztdq 16 (rkF tk), ob zc 3 [.ref zcl, .ref zcr], ob zcl 4 [.ref zclq, .long kl], aJ G zclq 16 (rkF kl), ob zcr 4 [.ref zcrq, .long kr], aJ G zcrq 16 (rkF kr), aJ G zpb 5 bf, aJ G zpm 8 mg] (fun (_ : Unit) => True) (fun _ => [ob zp 0 [.ref zph, .ref zpt, .int hm, .long ml, .long mr, .ref zs, .ref zt, .ref zc, .ref zpb, .ref zpm], aJ G zph 6 (g_P_component_zph hv k h v), aZ G zpt 6 (g_P_component_zpt ht k h), ob zs 1 [.ref zsf, .ref zsu, .ref zse, .ref zsl, .ref zsr], aZ G zsf 16 fi, aI G zsu 16 us, aZ G zse 16 ex, aJ G zsl 16 lf, aJ G zsr 16 rg, ob zt 2 [.ref ztm, .ref ztr, .ref ztl, .ref ztf, .ref ztd, .long cu, .long cv], aZ G ztm 8 md, aJ G ztr 8 re, aJ G ztl 8 fl, aJ G ztf 8 fr, ob ztd 4 [.ref ztdq, .long tk], aJ G ztdq 16 (rkF tk), ob zc 3 [.ref zcl, .ref zcr], ob zcl 4 [.ref zclq, .long kl], aJ G zclq 16 (rkF kl), ob zcr 4 [.ref zcrq, .long kr], aJ G zcrq 16 (rkF kr), aJ G zpb 5 bf, aJ G zpm 8 mg]) 0 0 := by
  refine Ct.of (Qp := fun A => va_Qv _ (qB G A _) A) Sx_stb (by decide) (Nat.le_of_ble_eq_true rfl) ?_
  intro p e s m args below meth c A X hE hr hlk hini
  refine pv_eql (ll2 := [(0, .ref zp), (1, .int k), (2, .int h), (3, .long v)]) rfl ?_
  refine pv_iload_n X 1 d_P_component_0 rfl ?_
  refine pv_if_lt X 18 d_P_component_1 rfl (fun h => absurd h hk) (fun _ => ?_)
  refine pv_iload_n X 1 d_P_component_4 rfl ?_
  refine pv_iconst X 3 d_P_component_5 (by decide) ?_
  refine pv_icmp_ge X 18 d_P_component_6 rfl (fun h => absurd h hk3) (fun _ => ?_)
  refine pv_iload_n X 2 d_P_component_9 rfl ?_
  refine pv_if_lt X 18 d_P_component_10 rfl (fun h => absurd h hh) (fun _ => ?_)
  refine pv_iload_n X 2 d_P_component_13 rfl ?_
  refine pv_iconst X 1 d_P_component_14 (by decide) ?_
  refine pv_icmp_le X 28 d_P_component_15 rfl (fun _ => ?_) (fun h => absurd hh1 h)
  refine pv_aload_n X 0 d_P_component_28 rfl ?_
  refine pv_get X 0 2 u_P_in m_117 rfl rfl (by decide) ⟨rfl, rfl, rfl⟩ rfl d_P_component_29 ?_
  refine pv_if_eq X 45 d_P_component_32 rfl (fun _ => ?_) (fun h => absurd h0 h)
  refine pv_aload_n X 0 d_P_component_45 rfl ?_
  refine pv_get X 0 0 u_P_in m_115 rfl rfl (by decide) ⟨rfl, rfl, rfl⟩ rfl d_P_component_46 ?_
  refine pv_iconst X 2 d_P_component_49 (by decide) ?_
  refine pv_iload_n X 1 d_P_component_50 rfl ?_
  refine pv_imul X d_P_component_51 ?_
  refine pv_iload_n X 2 d_P_component_52 rfl ?_
  refine pv_iadd X d_P_component_53 ?_
  refine pv_lload_n X 3 d_P_component_54 rfl ?_
  refine pv_last (ws2 := [ob zp 0 [.ref zph, .ref zpt, .int hm, .long ml, .long mr, .ref zs, .ref zt, .ref zc, .ref zpb, .ref zpm], aJ G zph 6 (vp_updL hv (((2 * k) + h).toNatClampNeg) v), aZ G zpt 6 ht, ob zs 1 [.ref zsf, .ref zsu, .ref zse, .ref zsl, .ref zsr], aZ G zsf 16 fi, aI G zsu 16 us, aZ G zse 16 ex, aJ G zsl 16 lf, aJ G zsr 16 rg, ob zt 2 [.ref ztm, .ref ztr, .ref ztl, .ref ztf, .ref ztd, .long cu, .long cv], aZ G ztm 8 md, aJ G ztr 8 re, aJ G ztl 8 fl, aJ G ztf 8 fr, ob ztd 4 [.ref ztdq, .long tk], aJ G ztdq 16 (rkF tk), ob zc 3 [.ref zcl, .ref zcr], ob zcl 4 [.ref zclq, .long kl], aJ G zclq 16 (rkF kl), ob zcr 4 [.ref zcrq, .long kr], aJ G zcrq 16 (rkF kr), aJ G zpb 5 bf, aJ G zpm 8 mg]) X 1 rfl (comp_in hk hk3 hh hh1) rfl d_P_component_55 ?_
  refine pv_aload_n X 0 d_P_component_56 rfl ?_
  refine pv_get X 0 1 u_P_in m_116 rfl rfl (by decide) ⟨rfl, rfl, rfl⟩ rfl d_P_component_57 ?_
  refine pv_iconst X 2 d_P_component_60 (by decide) ?_
  refine pv_iload_n X 1 d_P_component_61 rfl ?_
  refine pv_imul X d_P_component_62 ?_
  refine pv_iload_n X 2 d_P_component_63 rfl ?_
  refine pv_iadd X d_P_component_64 ?_
  refine pv_iconst X 1 d_P_component_65 (by decide) ?_
  refine pv_zast (ws2 := [ob zp 0 [.ref zph, .ref zpt, .int hm, .long ml, .long mr, .ref zs, .ref zt, .ref zc, .ref zpb, .ref zpm], aJ G zph 6 (vp_updL hv (((2 * k) + h).toNatClampNeg) v), aZ G zpt 6 (upd ht (((2 * k) + h).toNatClampNeg) 1), ob zs 1 [.ref zsf, .ref zsu, .ref zse, .ref zsl, .ref zsr], aZ G zsf 16 fi, aI G zsu 16 us, aZ G zse 16 ex, aJ G zsl 16 lf, aJ G zsr 16 rg, ob zt 2 [.ref ztm, .ref ztr, .ref ztl, .ref ztf, .ref ztd, .long cu, .long cv], aZ G ztm 8 md, aJ G ztr 8 re, aJ G ztl 8 fl, aJ G ztf 8 fr, ob ztd 4 [.ref ztdq, .long tk], aJ G ztdq 16 (rkF tk), ob zc 3 [.ref zcl, .ref zcr], ob zcl 4 [.ref zclq, .long kl], aJ G zclq 16 (rkF kl), ob zcr 4 [.ref zcrq, .long kr], aJ G zcrq 16 (rkF kr), aJ G zpb 5 bf, aJ G zpm 8 mg]) X 2 rfl (comp_in hk hk3 hh hh1) rfl d_P_component_66 ?_
  exact pv_vret X hr hlk () trivial (by simp only [g_P_component_zph, g_P_component_zpt]) d_P_component_67
def f_P_seal (hv : Nat → Int64) : Int32 := chkV (f_P_withOddParity (((hv 0) ^^^ (hv 2)) ^^^ (hv 4))) (f_P_withOddParity (((hv 1) ^^^ (hv 3)) ^^^ (hv 5))) 
def g_P_seal_zp_2  : Int32 := 1
def g_P_seal_zp_3 (hv : Nat → Int64) : Int64 := f_P_withOddParity (((hv 0) ^^^ (hv 2)) ^^^ (hv 4))
def g_P_seal_zp_4 (hv : Nat → Int64) : Int64 := f_P_withOddParity (((hv 1) ^^^ (hv 3)) ^^^ (hv 5))
abbrev rm_P_seal : Room := { frames := 6, cells := 0, slots := 0, locals := 144 }
theorem mf_P_seal : MF y_P_seal b_P_seal 1 (some .int) 0 := ⟨m_539, m_1, by decide, by decide, by decide +kernel⟩
theorem d_P_seal_0 : decode b_P_seal 0 = .ok (.aload_n 0, 1) := by decide +kernel
theorem d_P_seal_1 : decode b_P_seal 1 = .ok (.getfield 51, 3) := by decide +kernel
theorem d_P_seal_4 : decode b_P_seal 4 = .ok (.ifCond .ne 10, 3) := by decide +kernel
theorem d_P_seal_7 : decode b_P_seal 7 = .ok (.aload_n 0, 1) := by decide +kernel
theorem d_P_seal_8 : decode b_P_seal 8 = .ok (.invokevirtual 60, 3) := by decide +kernel
theorem d_P_seal_11 : decode b_P_seal 11 = .ok (.ifCond .ne 13, 3) := by decide +kernel
theorem d_P_seal_24 : decode b_P_seal 24 = .ok (.aload_n 0, 1) := by decide +kernel
theorem d_P_seal_25 : decode b_P_seal 25 = .ok (.aload_n 0, 1) := by decide +kernel
theorem d_P_seal_26 : decode b_P_seal 26 = .ok (.getfield 11, 3) := by decide +kernel
theorem d_P_seal_29 : decode b_P_seal 29 = .ok (.iconst 0, 1) := by decide +kernel
theorem d_P_seal_30 : decode b_P_seal 30 = .ok (.laload, 1) := by decide +kernel
theorem d_P_seal_31 : decode b_P_seal 31 = .ok (.aload_n 0, 1) := by decide +kernel
theorem d_P_seal_32 : decode b_P_seal 32 = .ok (.getfield 11, 3) := by decide +kernel
theorem d_P_seal_35 : decode b_P_seal 35 = .ok (.iconst 2, 1) := by decide +kernel
theorem d_P_seal_36 : decode b_P_seal 36 = .ok (.laload, 1) := by decide +kernel
theorem d_P_seal_37 : decode b_P_seal 37 = .ok (.lxor, 1) := by decide +kernel
theorem d_P_seal_38 : decode b_P_seal 38 = .ok (.aload_n 0, 1) := by decide +kernel
theorem d_P_seal_39 : decode b_P_seal 39 = .ok (.getfield 11, 3) := by decide +kernel
theorem d_P_seal_42 : decode b_P_seal 42 = .ok (.iconst 4, 1) := by decide +kernel
theorem d_P_seal_43 : decode b_P_seal 43 = .ok (.laload, 1) := by decide +kernel
theorem d_P_seal_44 : decode b_P_seal 44 = .ok (.lxor, 1) := by decide +kernel
theorem d_P_seal_45 : decode b_P_seal 45 = .ok (.invokestatic 66, 3) := by decide +kernel
theorem d_P_seal_48 : decode b_P_seal 48 = .ok (.putfield 70, 3) := by decide +kernel
theorem d_P_seal_51 : decode b_P_seal 51 = .ok (.aload_n 0, 1) := by decide +kernel
theorem d_P_seal_52 : decode b_P_seal 52 = .ok (.aload_n 0, 1) := by decide +kernel
theorem d_P_seal_53 : decode b_P_seal 53 = .ok (.getfield 11, 3) := by decide +kernel
theorem d_P_seal_56 : decode b_P_seal 56 = .ok (.iconst 1, 1) := by decide +kernel
theorem d_P_seal_57 : decode b_P_seal 57 = .ok (.laload, 1) := by decide +kernel
theorem d_P_seal_58 : decode b_P_seal 58 = .ok (.aload_n 0, 1) := by decide +kernel
theorem d_P_seal_59 : decode b_P_seal 59 = .ok (.getfield 11, 3) := by decide +kernel
theorem d_P_seal_62 : decode b_P_seal 62 = .ok (.iconst 3, 1) := by decide +kernel
theorem d_P_seal_63 : decode b_P_seal 63 = .ok (.laload, 1) := by decide +kernel
theorem d_P_seal_64 : decode b_P_seal 64 = .ok (.lxor, 1) := by decide +kernel
theorem d_P_seal_65 : decode b_P_seal 65 = .ok (.aload_n 0, 1) := by decide +kernel
theorem d_P_seal_66 : decode b_P_seal 66 = .ok (.getfield 11, 3) := by decide +kernel
theorem d_P_seal_69 : decode b_P_seal 69 = .ok (.iconst 5, 1) := by decide +kernel
theorem d_P_seal_70 : decode b_P_seal 70 = .ok (.laload, 1) := by decide +kernel
theorem d_P_seal_71 : decode b_P_seal 71 = .ok (.lxor, 1) := by decide +kernel
theorem d_P_seal_72 : decode b_P_seal 72 = .ok (.invokestatic 66, 3) := by decide +kernel
theorem d_P_seal_75 : decode b_P_seal 75 = .ok (.putfield 74, 3) := by decide +kernel
theorem d_P_seal_78 : decode b_P_seal 78 = .ok (.aload_n 0, 1) := by decide +kernel
theorem d_P_seal_79 : decode b_P_seal 79 = .ok (.iconst 1, 1) := by decide +kernel
theorem d_P_seal_80 : decode b_P_seal 80 = .ok (.putfield 51, 3) := by decide +kernel
theorem d_P_seal_83 : decode b_P_seal 83 = .ok (.aload_n 0, 1) := by decide +kernel
theorem d_P_seal_84 : decode b_P_seal 84 = .ok (.getfield 34, 3) := by decide +kernel
theorem d_P_seal_87 : decode b_P_seal 87 = .ok (.aload_n 0, 1) := by decide +kernel
theorem d_P_seal_88 : decode b_P_seal 88 = .ok (.getfield 70, 3) := by decide +kernel
theorem d_P_seal_91 : decode b_P_seal 91 = .ok (.aload_n 0, 1) := by decide +kernel
theorem d_P_seal_92 : decode b_P_seal 92 = .ok (.getfield 74, 3) := by decide +kernel
theorem d_P_seal_95 : decode b_P_seal 95 = .ok (.invokevirtual 77, 3) := by decide +kernel
theorem d_P_seal_98 : decode b_P_seal 98 = .ok (.aload_n 0, 1) := by decide +kernel
theorem d_P_seal_99 : decode b_P_seal 99 = .ok (.getfield 34, 3) := by decide +kernel
theorem d_P_seal_102 : decode b_P_seal 102 = .ok (.invokevirtual 81, 3) := by decide +kernel
theorem d_P_seal_105 : decode b_P_seal 105 = .ok (.ireturn, 1) := by decide +kernel
set_option maxRecDepth 100000 in
set_option maxHeartbeats 4000000 in
theorem c_P_seal (l : Launch) (G : Gt) (zp zph zpt zs zsf zsu zse zsl zsr zt ztm ztr ztl ztf ztd ztdq zc zcl zclq zcr zcrq zpb zpm : Nat) (hv : Nat → Int64) (ht : Nat → Int32) (hm : Int32) (ml mr : Int64) (fi us ex : Nat → Int32) (lf rg : Nat → Int64) (md : Nat → Int32) (re fl fr : Nat → Int64) (tk cu cv kl kr : Int64) (bf mg : Nat → Int64)  (h0 : hm = 0) (hall : ¬ f_P_allHalvesTold ht = 0) : CtI l G y_P_seal b_P_seal 1 (some .int) rm_P_seal Sx [.ref zp] [ob zp 0 [.ref zph, .ref zpt, .int hm, .long ml, .long mr, .ref zs, .ref zt, .ref zc, .ref zpb, .ref zpm], aJ G zph 6 hv, aZ G zpt 6 ht, ob zs 1 [.ref zsf, .ref zsu, .ref zse, .ref zsl, .ref zsr], aZ G zsf 16 fi, aI G zsu 16 us, aZ G zse 16 ex, aJ G zsl 16 lf, aJ G zsr 16 rg, ob zt 2 [.ref ztm, .ref ztr, .ref ztl, .ref ztf, .ref ztd, .long cu, .long cv], aZ G ztm 8 md, aJ G ztr 8 re, aJ G ztl 8 fl, aJ G ztf 8 fr, ob ztd 4 [.ref ztdq, .long tk], aJ G ztdq 16 (rkF tk), ob zc 3 [.ref zcl, .ref zcr], ob zcl 4 [.ref zclq, .long kl], aJ G zclq 16 (rkF kl), ob zcr 4 [.ref zcrq, .long kr], aJ G zcrq 16 (rkF kr), aJ G zpb 5 bf, aJ G zpm 8 mg] (fun r (_ : Int64 × Int64) => r = f_P_seal hv) (fun x => [ob zp 0 [.ref zph, .ref zpt, .int g_P_seal_zp_2, .long (g_P_seal_zp_3 hv), .long (g_P_seal_zp_4 hv), .ref zs, .ref zt, .ref zc, .ref zpb, .ref zpm], aJ G zph 6 hv, aZ G zpt 6 ht, ob zs 1 [.ref zsf, .ref zsu, .ref zse, .ref zsl, .ref zsr], aZ G zsf 16 fi, aI G zsu 16 us, aZ G zse 16 ex, aJ G zsl 16 lf, aJ G zsr 16 rg, ob zt 2 [.ref ztm, .ref ztr, .ref ztl, .ref ztf, .ref ztd, .long cu, .long cv], aZ G ztm 8 md, aJ G ztr 8 re, aJ G ztl 8 fl, aJ G ztf 8 fr, ob ztd 4 [.ref ztdq, .long tk], aJ G ztdq 16 (rkF tk), ob zc 3 [.ref zcl, .ref zcr], ob zcl 4 [.ref zclq, .long x.1], aJ G zclq 16 (rkF x.1), ob zcr 4 [.ref zcrq, .long x.2], aJ G zcrq 16 (rkF x.2), aJ G zpb 5 bf, aJ G zpm 8 mg]) 0 0 := by
  refine Ct.of (Qp := fun A => va_Qi _ (qB G A _) A) Sx_stb (by decide) (Nat.le_of_ble_eq_true rfl) ?_
  intro p e s m args below meth c A X hE hr hlk hini
  refine pv_eql (ll2 := [(0, .ref zp)]) rfl ?_
  refine pv_aload_n X 0 d_P_seal_0 rfl ?_
  refine pv_get X 0 2 u_P_in m_117 rfl rfl (by decide) ⟨rfl, rfl, rfl⟩ rfl d_P_seal_1 ?_
  refine pv_if_ne X 14 d_P_seal_4 rfl (fun h => absurd h0 h) (fun _ => ?_)
  refine pv_aload_n X 0 d_P_seal_7 rfl ?_
  refine pv_calliE X (Cut.all _) (rn_V X (c_P_allHalvesTold l G zp zph zpt zs zsf zsu zse zsl zsr zt ztm ztr ztl ztf ztd ztdq zc zcl zclq zcr zcrq zpb zpm hv ht hm ml mr fi us ex lf rg md re fl fr tk cu cv kl kr bf mg ) hE mf_P_allHalvesTold m_540 m_542 ms_11 rfl 0 rfl rfl rfl (by decide) (by decide) rfl (Nat.le_of_ble_eq_true rfl) d_P_seal_8) (fun x1 => ?_)
  refine pv_eqw (ws2 := [ob zp 0 [.ref zph, .ref zpt, .int hm, .long ml, .long mr, .ref zs, .ref zt, .ref zc, .ref zpb, .ref zpm], aJ G zph 6 hv, aZ G zpt 6 ht, ob zs 1 [.ref zsf, .ref zsu, .ref zse, .ref zsl, .ref zsr], aZ G zsf 16 fi, aI G zsu 16 us, aZ G zse 16 ex, aJ G zsl 16 lf, aJ G zsr 16 rg, ob zt 2 [.ref ztm, .ref ztr, .ref ztl, .ref ztf, .ref ztd, .long cu, .long cv], aZ G ztm 8 md, aJ G ztr 8 re, aJ G ztl 8 fl, aJ G ztf 8 fr, ob ztd 4 [.ref ztdq, .long tk], aJ G ztdq 16 (rkF tk), ob zc 3 [.ref zcl, .ref zcr], ob zcl 4 [.ref zclq, .long kl], aJ G zclq 16 (rkF kl), ob zcr 4 [.ref zcrq, .long kr], aJ G zcrq 16 (rkF kr), aJ G zpb 5 bf, aJ G zpm 8 mg]) rfl ?_
  refine pv_if_ne X 24 d_P_seal_11 rfl (fun _ => ?_) (fun h => absurd h hall)
  refine pv_aload_n X 0 d_P_seal_24 rfl ?_
  refine pv_aload_n X 0 d_P_seal_25 rfl ?_
  refine pv_get X 0 0 u_P_in m_115 rfl rfl (by decide) ⟨rfl, rfl, rfl⟩ rfl d_P_seal_26 ?_
  refine pv_iconst X 0 d_P_seal_29 (by decide) ?_
  refine pv_lald X 1 rfl (by unfold vp_in; decide) d_P_seal_30 ?_
  refine pv_topl (hv 0) rfl ?_
  refine pv_aload_n X 0 d_P_seal_31 rfl ?_
  refine pv_get X 0 0 u_P_in m_115 rfl rfl (by decide) ⟨rfl, rfl, rfl⟩ rfl d_P_seal_32 ?_
  refine pv_iconst X 2 d_P_seal_35 (by decide) ?_
  refine pv_lald X 1 rfl (by unfold vp_in; decide) d_P_seal_36 ?_
  refine pv_topl (hv 2) rfl ?_
  refine pv_lxor X d_P_seal_37 ?_
  refine pv_aload_n X 0 d_P_seal_38 rfl ?_
  refine pv_get X 0 0 u_P_in m_115 rfl rfl (by decide) ⟨rfl, rfl, rfl⟩ rfl d_P_seal_39 ?_
  refine pv_iconst X 4 d_P_seal_42 (by decide) ?_
  refine pv_lald X 1 rfl (by unfold vp_in; decide) d_P_seal_43 ?_
  refine pv_topl (hv 4) rfl ?_
  refine pv_lxor X d_P_seal_44 ?_
  refine pv_calll0 X (rn_S X (c_P_withOddParity l G (((hv 0) ^^^ (hv 2)) ^^^ (hv 4))) trivial mf_P_withOddParity m_153 m_154 rfl (by decide) (by decide) rfl (Nat.le_of_ble_eq_true rfl) d_P_seal_45) ?_
  refine pv_put X (ty := .long) (ws2 := [ob zp 0 [.ref zph, .ref zpt, .int hm, .long (f_P_withOddParity (((hv 0) ^^^ (hv 2)) ^^^ (hv 4))), .long mr, .ref zs, .ref zt, .ref zc, .ref zpb, .ref zpm], aJ G zph 6 hv, aZ G zpt 6 ht, ob zs 1 [.ref zsf, .ref zsu, .ref zse, .ref zsl, .ref zsr], aZ G zsf 16 fi, aI G zsu 16 us, aZ G zse 16 ex, aJ G zsl 16 lf, aJ G zsr 16 rg, ob zt 2 [.ref ztm, .ref ztr, .ref ztl, .ref ztf, .ref ztd, .long cu, .long cv], aZ G ztm 8 md, aJ G ztr 8 re, aJ G ztl 8 fl, aJ G ztf 8 fr, ob ztd 4 [.ref ztdq, .long tk], aJ G ztdq 16 (rkF tk), ob zc 3 [.ref zcl, .ref zcr], ob zcl 4 [.ref zclq, .long kl], aJ G zclq 16 (rkF kl), ob zcr 4 [.ref zcrq, .long kr], aJ G zcrq 16 (rkF kr), aJ G zpb 5 bf, aJ G zpm 8 mg]) 0 3 ty_P ty_P_ok n_P u_P_in m_118 rfl rfl (by decide) ⟨rfl, rfl, rfl⟩ rfl (by decide +kernel) rfl rfl (Nat.le_of_ble_eq_true rfl) rfl d_P_seal_48 ?_
  refine pv_aload_n X 0 d_P_seal_51 rfl ?_
  refine pv_aload_n X 0 d_P_seal_52 rfl ?_
  refine pv_get X 0 0 u_P_in m_115 rfl rfl (by decide) ⟨rfl, rfl, rfl⟩ rfl d_P_seal_53 ?_
  refine pv_iconst X 1 d_P_seal_56 (by decide) ?_
  refine pv_lald X 1 rfl (by unfold vp_in; decide) d_P_seal_57 ?_
  refine pv_topl (hv 1) rfl ?_
  refine pv_aload_n X 0 d_P_seal_58 rfl ?_
  refine pv_get X 0 0 u_P_in m_115 rfl rfl (by decide) ⟨rfl, rfl, rfl⟩ rfl d_P_seal_59 ?_
  refine pv_iconst X 3 d_P_seal_62 (by decide) ?_
  refine pv_lald X 1 rfl (by unfold vp_in; decide) d_P_seal_63 ?_
  refine pv_topl (hv 3) rfl ?_
  refine pv_lxor X d_P_seal_64 ?_
  refine pv_aload_n X 0 d_P_seal_65 rfl ?_
  refine pv_get X 0 0 u_P_in m_115 rfl rfl (by decide) ⟨rfl, rfl, rfl⟩ rfl d_P_seal_66 ?_
  refine pv_iconst X 5 d_P_seal_69 (by decide) ?_
  refine pv_lald X 1 rfl (by unfold vp_in; decide) d_P_seal_70 ?_
  refine pv_topl (hv 5) rfl ?_
  refine pv_lxor X d_P_seal_71 ?_
  refine pv_calll0 X (rn_S X (c_P_withOddParity l G (((hv 1) ^^^ (hv 3)) ^^^ (hv 5))) trivial mf_P_withOddParity m_153 m_154 rfl (by decide) (by decide) rfl (Nat.le_of_ble_eq_true rfl) d_P_seal_72) ?_
  refine pv_put X (ty := .long) (ws2 := [ob zp 0 [.ref zph, .ref zpt, .int hm, .long (f_P_withOddParity (((hv 0) ^^^ (hv 2)) ^^^ (hv 4))), .long (f_P_withOddParity (((hv 1) ^^^ (hv 3)) ^^^ (hv 5))), .ref zs, .ref zt, .ref zc, .ref zpb, .ref zpm], aJ G zph 6 hv, aZ G zpt 6 ht, ob zs 1 [.ref zsf, .ref zsu, .ref zse, .ref zsl, .ref zsr], aZ G zsf 16 fi, aI G zsu 16 us, aZ G zse 16 ex, aJ G zsl 16 lf, aJ G zsr 16 rg, ob zt 2 [.ref ztm, .ref ztr, .ref ztl, .ref ztf, .ref ztd, .long cu, .long cv], aZ G ztm 8 md, aJ G ztr 8 re, aJ G ztl 8 fl, aJ G ztf 8 fr, ob ztd 4 [.ref ztdq, .long tk], aJ G ztdq 16 (rkF tk), ob zc 3 [.ref zcl, .ref zcr], ob zcl 4 [.ref zclq, .long kl], aJ G zclq 16 (rkF kl), ob zcr 4 [.ref zcrq, .long kr], aJ G zcrq 16 (rkF kr), aJ G zpb 5 bf, aJ G zpm 8 mg]) 0 4 ty_P ty_P_ok n_P u_P_in m_119 rfl rfl (by decide) ⟨rfl, rfl, rfl⟩ rfl (by decide +kernel) rfl rfl (Nat.le_of_ble_eq_true rfl) rfl d_P_seal_75 ?_
  refine pv_aload_n X 0 d_P_seal_78 rfl ?_
  refine pv_iconst X 1 d_P_seal_79 (by decide) ?_
  refine pv_put X (ty := .boolean) (ws2 := [ob zp 0 [.ref zph, .ref zpt, .int 1, .long (f_P_withOddParity (((hv 0) ^^^ (hv 2)) ^^^ (hv 4))), .long (f_P_withOddParity (((hv 1) ^^^ (hv 3)) ^^^ (hv 5))), .ref zs, .ref zt, .ref zc, .ref zpb, .ref zpm], aJ G zph 6 hv, aZ G zpt 6 ht, ob zs 1 [.ref zsf, .ref zsu, .ref zse, .ref zsl, .ref zsr], aZ G zsf 16 fi, aI G zsu 16 us, aZ G zse 16 ex, aJ G zsl 16 lf, aJ G zsr 16 rg, ob zt 2 [.ref ztm, .ref ztr, .ref ztl, .ref ztf, .ref ztd, .long cu, .long cv], aZ G ztm 8 md, aJ G ztr 8 re, aJ G ztl 8 fl, aJ G ztf 8 fr, ob ztd 4 [.ref ztdq, .long tk], aJ G ztdq 16 (rkF tk), ob zc 3 [.ref zcl, .ref zcr], ob zcl 4 [.ref zclq, .long kl], aJ G zclq 16 (rkF kl), ob zcr 4 [.ref zcrq, .long kr], aJ G zcrq 16 (rkF kr), aJ G zpb 5 bf, aJ G zpm 8 mg]) 0 2 ty_P ty_P_ok n_P u_P_in m_117 rfl rfl (by decide) ⟨rfl, rfl, rfl⟩ rfl (by decide +kernel) rfl rfl (Nat.le_of_ble_eq_true rfl) rfl d_P_seal_80 ?_
  refine pv_aload_n X 0 d_P_seal_83 rfl ?_
  refine pv_get X 0 7 u_P_in m_122 rfl rfl (by decide) ⟨rfl, rfl, rfl⟩ rfl d_P_seal_84 ?_
  refine pv_aload_n X 0 d_P_seal_87 rfl ?_
  refine pv_get X 0 3 u_P_in m_118 rfl rfl (by decide) ⟨rfl, rfl, rfl⟩ rfl d_P_seal_88 ?_
  refine pv_aload_n X 0 d_P_seal_91 rfl ?_
  refine pv_get X 0 4 u_P_in m_119 rfl rfl (by decide) ⟨rfl, rfl, rfl⟩ rfl d_P_seal_92 ?_
  refine pv_callv X (Cut.mk (w0 := [ob zc 3 [.ref zcl, .ref zcr], ob zcl 4 [.ref zclq, .long kl], aJ G zclq 16 (rkF kl), ob zcr 4 [.ref zcrq, .long kr], aJ G zcrq 16 (rkF kr)]) (wr := [ob zp 0 [.ref zph, .ref zpt, .int 1, .long (f_P_withOddParity (((hv 0) ^^^ (hv 2)) ^^^ (hv 4))), .long (f_P_withOddParity (((hv 1) ^^^ (hv 3)) ^^^ (hv 5))), .ref zs, .ref zt, .ref zc, .ref zpb, .ref zpm], aJ G zph 6 hv, aZ G zpt 6 ht, ob zs 1 [.ref zsf, .ref zsu, .ref zse, .ref zsl, .ref zsr], aZ G zsf 16 fi, aI G zsu 16 us, aZ G zse 16 ex, aJ G zsl 16 lf, aJ G zsr 16 rg, ob zt 2 [.ref ztm, .ref ztr, .ref ztl, .ref ztf, .ref ztd, .long cu, .long cv], aZ G ztm 8 md, aJ G ztr 8 re, aJ G ztl 8 fl, aJ G ztf 8 fr, ob ztd 4 [.ref ztdq, .long tk], aJ G ztdq 16 (rkF tk), aJ G zpb 5 bf, aJ G zpm 8 mg]) [16, 17, 18, 19, 20] [0, 1, 2, 3, 4, 5, 6, 7, 8, 9, 10, 11, 12, 13, 14, 15, 21, 22] rfl rfl rfl rfl rfl) (rn_V X (c_C_take l G zc zcl zclq zcr zcrq kl kr (f_P_withOddParity (((hv 0) ^^^ (hv 2)) ^^^ (hv 4))) (f_P_withOddParity (((hv 1) ^^^ (hv 3)) ^^^ (hv 5)))) hE mf_C_take m_167 m_168 m_169 rfl 0 rfl rfl rfl (by decide) (by decide) rfl (Nat.le_of_ble_eq_true rfl) d_P_seal_95) (fun x4 e4 => ?_)
  refine pv_ord (ws2 := [ob zp 0 [.ref zph, .ref zpt, .int 1, .long (f_P_withOddParity (((hv 0) ^^^ (hv 2)) ^^^ (hv 4))), .long (f_P_withOddParity (((hv 1) ^^^ (hv 3)) ^^^ (hv 5))), .ref zs, .ref zt, .ref zc, .ref zpb, .ref zpm], aJ G zph 6 hv, aZ G zpt 6 ht, ob zs 1 [.ref zsf, .ref zsu, .ref zse, .ref zsl, .ref zsr], aZ G zsf 16 fi, aI G zsu 16 us, aZ G zse 16 ex, aJ G zsl 16 lf, aJ G zsr 16 rg, ob zt 2 [.ref ztm, .ref ztr, .ref ztl, .ref ztf, .ref ztd, .long cu, .long cv], aZ G ztm 8 md, aJ G ztr 8 re, aJ G ztl 8 fl, aJ G ztf 8 fr, ob ztd 4 [.ref ztdq, .long tk], aJ G ztdq 16 (rkF tk), ob zc 3 [.ref zcl, .ref zcr], ob zcl 4 [.ref zclq, .long (f_P_withOddParity (((hv 0) ^^^ (hv 2)) ^^^ (hv 4)))], aJ G zclq 16 (rkF (f_P_withOddParity (((hv 0) ^^^ (hv 2)) ^^^ (hv 4)))), ob zcr 4 [.ref zcrq, .long (f_P_withOddParity (((hv 1) ^^^ (hv 3)) ^^^ (hv 5)))], aJ G zcrq 16 (rkF (f_P_withOddParity (((hv 1) ^^^ (hv 3)) ^^^ (hv 5)))), aJ G zpb 5 bf, aJ G zpm 8 mg]) [0, 1, 2, 3, 4, 5, 6, 7, 8, 9, 10, 11, 12, 13, 14, 15, 18, 19, 20, 21, 22, 16, 17] rfl rfl ?_
  refine pv_aload_n X 0 d_P_seal_98 rfl ?_
  refine pv_get X 0 7 u_P_in m_122 rfl rfl (by decide) ⟨rfl, rfl, rfl⟩ rfl d_P_seal_99 ?_
  refine pv_calliE X (Cut.mk (w0 := [ob zc 3 [.ref zcl, .ref zcr], ob zcl 4 [.ref zclq, .long (f_P_withOddParity (((hv 0) ^^^ (hv 2)) ^^^ (hv 4)))], aJ G zclq 16 (rkF (f_P_withOddParity (((hv 0) ^^^ (hv 2)) ^^^ (hv 4)))), ob zcr 4 [.ref zcrq, .long (f_P_withOddParity (((hv 1) ^^^ (hv 3)) ^^^ (hv 5)))], aJ G zcrq 16 (rkF (f_P_withOddParity (((hv 1) ^^^ (hv 3)) ^^^ (hv 5))))]) (wr := [ob zp 0 [.ref zph, .ref zpt, .int 1, .long (f_P_withOddParity (((hv 0) ^^^ (hv 2)) ^^^ (hv 4))), .long (f_P_withOddParity (((hv 1) ^^^ (hv 3)) ^^^ (hv 5))), .ref zs, .ref zt, .ref zc, .ref zpb, .ref zpm], aJ G zph 6 hv, aZ G zpt 6 ht, ob zs 1 [.ref zsf, .ref zsu, .ref zse, .ref zsl, .ref zsr], aZ G zsf 16 fi, aI G zsu 16 us, aZ G zse 16 ex, aJ G zsl 16 lf, aJ G zsr 16 rg, ob zt 2 [.ref ztm, .ref ztr, .ref ztl, .ref ztf, .ref ztd, .long cu, .long cv], aZ G ztm 8 md, aJ G ztr 8 re, aJ G ztl 8 fl, aJ G ztf 8 fr, ob ztd 4 [.ref ztdq, .long tk], aJ G ztdq 16 (rkF tk), aJ G zpb 5 bf, aJ G zpm 8 mg]) [16, 17, 18, 19, 20] [0, 1, 2, 3, 4, 5, 6, 7, 8, 9, 10, 11, 12, 13, 14, 15, 21, 22] rfl rfl rfl rfl rfl) (rn_V X (c_C_checkValue l G zc zcl zclq zcr zcrq (f_P_withOddParity (((hv 0) ^^^ (hv 2)) ^^^ (hv 4))) (f_P_withOddParity (((hv 1) ^^^ (hv 3)) ^^^ (hv 5))) ) hE mf_C_checkValue m_188 m_189 m_190 rfl 0 rfl rfl rfl (by decide) (by decide) rfl (Nat.le_of_ble_eq_true rfl) d_P_seal_102) (fun x5 => ?_)
  refine pv_ord (ws2 := [ob zp 0 [.ref zph, .ref zpt, .int 1, .long (f_P_withOddParity (((hv 0) ^^^ (hv 2)) ^^^ (hv 4))), .long (f_P_withOddParity (((hv 1) ^^^ (hv 3)) ^^^ (hv 5))), .ref zs, .ref zt, .ref zc, .ref zpb, .ref zpm], aJ G zph 6 hv, aZ G zpt 6 ht, ob zs 1 [.ref zsf, .ref zsu, .ref zse, .ref zsl, .ref zsr], aZ G zsf 16 fi, aI G zsu 16 us, aZ G zse 16 ex, aJ G zsl 16 lf, aJ G zsr 16 rg, ob zt 2 [.ref ztm, .ref ztr, .ref ztl, .ref ztf, .ref ztd, .long cu, .long cv], aZ G ztm 8 md, aJ G ztr 8 re, aJ G ztl 8 fl, aJ G ztf 8 fr, ob ztd 4 [.ref ztdq, .long tk], aJ G ztdq 16 (rkF tk), ob zc 3 [.ref zcl, .ref zcr], ob zcl 4 [.ref zclq, .long (f_P_withOddParity (((hv 0) ^^^ (hv 2)) ^^^ (hv 4)))], aJ G zclq 16 (rkF (f_P_withOddParity (((hv 0) ^^^ (hv 2)) ^^^ (hv 4)))), ob zcr 4 [.ref zcrq, .long (f_P_withOddParity (((hv 1) ^^^ (hv 3)) ^^^ (hv 5)))], aJ G zcrq 16 (rkF (f_P_withOddParity (((hv 1) ^^^ (hv 3)) ^^^ (hv 5)))), aJ G zpb 5 bf, aJ G zpm 8 mg]) [0, 1, 2, 3, 4, 5, 6, 7, 8, 9, 10, 11, 12, 13, 14, 15, 18, 19, 20, 21, 22, 16, 17] rfl rfl ?_
  exact pv_iret X hr hlk (f_P_withOddParity (((hv 0) ^^^ (hv 2)) ^^^ (hv 4)), f_P_withOddParity (((hv 1) ^^^ (hv 3)) ^^^ (hv 5))) rfl (by simp only [g_P_seal_zp_2, g_P_seal_zp_3, g_P_seal_zp_4]) d_P_seal_105
def g_P_poke_zpb (bf : Nat → Int64) (k : Int32) (v : Int64) : Nat → Int64 := vp_updL bf k.toNatClampNeg v
abbrev rm_P_poke : Room := { frames := 6, cells := 0, slots := 0, locals := 144 }
theorem mf_P_poke : MF y_P_poke b_P_poke 4 none 2 := ⟨m_551, m_1, by decide, by decide, by decide +kernel⟩
theorem d_P_poke_0 : decode b_P_poke 0 = .ok (.iload_n 1, 1) := by decide +kernel
theorem d_P_poke_1 : decode b_P_poke 1 = .ok (.ifCond .lt 8, 3) := by decide +kernel
theorem d_P_poke_4 : decode b_P_poke 4 = .ok (.iload_n 1, 1) := by decide +kernel
theorem d_P_poke_5 : decode b_P_poke 5 = .ok (.iconst 5, 1) := by decide +kernel
theorem d_P_poke_6 : decode b_P_poke 6 = .ok (.if_icmp .lt 13, 3) := by decide +kernel
theorem d_P_poke_19 : decode b_P_poke 19 = .ok (.aload_n 0, 1) := by decide +kernel
theorem d_P_poke_20 : decode b_P_poke 20 = .ok (.getfield 38, 3) := by decide +kernel
theorem d_P_poke_23 : decode b_P_poke 23 = .ok (.iload_n 1, 1) := by decide +kernel
theorem d_P_poke_24 : decode b_P_poke 24 = .ok (.lload_n 2, 1) := by decide +kernel
theorem d_P_poke_25 : decode b_P_poke 25 = .ok (.lastore, 1) := by decide +kernel
theorem d_P_poke_26 : decode b_P_poke 26 = .ok (.return_, 1) := by decide +kernel
set_option maxRecDepth 100000 in
set_option maxHeartbeats 4000000 in
theorem c_P_poke (l : Launch) (G : Gt) (zp zph zpt zs zsf zsu zse zsl zsr zt ztm ztr ztl ztf ztd ztdq zc zcl zclq zcr zcrq zpb zpm : Nat) (hv : Nat → Int64) (ht : Nat → Int32) (hm : Int32) (ml mr : Int64) (fi us ex : Nat → Int32) (lf rg : Nat → Int64) (md : Nat → Int32) (re fl fr : Nat → Int64) (tk cu cv kl kr : Int64) (bf mg : Nat → Int64) (k : Int32) (v : Int64) (hk : ¬ k < 0) (hk5 : k < 5) : CtV l G y_P_poke b_P_poke 4 none rm_P_poke Sx [.ref zp, .int k, .long v] [ob zp 0 [.ref zph, .ref zpt, .int hm, .long ml, .long mr, .ref zs, .ref zt, .ref zc, .ref zpb, .ref zpm], aJ G zph 6 hv, aZ G zpt 6 ht, ob zs 1 [.ref zsf, .ref zsu, .ref zse, .ref zsl, .ref zsr], aZ G zsf 16 fi, aI G zsu 16 us, aZ G zse 16 ex, aJ G zsl 16 lf, aJ G zsr 16 rg, ob zt 2 [.ref ztm, .ref ztr, .ref ztl, .ref ztf, .ref ztd, .long cu, .long cv], aZ G ztm 8 md, aJ G ztr 8 re, aJ G ztl 8 fl, aJ G ztf 8 fr, ob ztd 4 [.ref ztdq, .long tk], aJ G ztdq 16 (rkF tk), ob zc 3 [.ref zcl, .ref zcr], ob zcl 4 [.ref zclq, .long kl], aJ G zclq 16 (rkF kl), ob zcr 4 [.ref zcrq, .long kr], aJ G zcrq 16 (rkF kr), aJ G zpb 5 bf, aJ G zpm 8 mg] (fun (_ : Unit) => True) (fun _ => [ob zp 0 [.ref zph, .ref zpt, .int hm, .long ml, .long mr, .ref zs, .ref zt, .ref zc, .ref zpb, .ref zpm], aJ G zph 6 hv, aZ G zpt 6 ht, ob zs 1 [.ref zsf, .ref zsu, .ref zse, .ref zsl, .ref zsr], aZ G zsf 16 fi, aI G zsu 16 us, aZ G zse 16 ex, aJ G zsl 16 lf, aJ G zsr 16 rg, ob zt 2 [.ref ztm, .ref ztr, .ref ztl, .ref ztf, .ref ztd, .long cu, .long cv], aZ G ztm 8 md, aJ G ztr 8 re, aJ G ztl 8 fl, aJ G ztf 8 fr, ob ztd 4 [.ref ztdq, .long tk], aJ G ztdq 16 (rkF tk), ob zc 3 [.ref zcl, .ref zcr], ob zcl 4 [.ref zclq, .long kl], aJ G zclq 16 (rkF kl), ob zcr 4 [.ref zcrq, .long kr], aJ G zcrq 16 (rkF kr), aJ G zpb 5 (g_P_poke_zpb bf k v), aJ G zpm 8 mg]) 0 0 := by
  refine Ct.of (Qp := fun A => va_Qv _ (qB G A _) A) Sx_stb (by decide) (Nat.le_of_ble_eq_true rfl) ?_
  intro p e s m args below meth c A X hE hr hlk hini
  refine pv_eql (ll2 := [(0, .ref zp), (1, .int k), (2, .long v)]) rfl ?_
  refine pv_iload_n X 1 d_P_poke_0 rfl ?_
  refine pv_if_lt X 9 d_P_poke_1 rfl (fun h => absurd h hk) (fun _ => ?_)
  refine pv_iload_n X 1 d_P_poke_4 rfl ?_
  refine pv_iconst X 5 d_P_poke_5 (by decide) ?_
  refine pv_icmp_lt X 19 d_P_poke_6 rfl (fun _ => ?_) (fun h => absurd hk5 h)
  refine pv_aload_n X 0 d_P_poke_19 rfl ?_
  refine pv_get X 0 8 u_P_in m_123 rfl rfl (by decide) ⟨rfl, rfl, rfl⟩ rfl d_P_poke_20 ?_
  refine pv_iload_n X 1 d_P_poke_23 rfl ?_
  refine pv_lload_n X 2 d_P_poke_24 rfl ?_
  refine pv_last (ws2 := [ob zp 0 [.ref zph, .ref zpt, .int hm, .long ml, .long mr, .ref zs, .ref zt, .ref zc, .ref zpb, .ref zpm], aJ G zph 6 hv, aZ G zpt 6 ht, ob zs 1 [.ref zsf, .ref zsu, .ref zse, .ref zsl, .ref zsr], aZ G zsf 16 fi, aI G zsu 16 us, aZ G zse 16 ex, aJ G zsl 16 lf, aJ G zsr 16 rg, ob zt 2 [.ref ztm, .ref ztr, .ref ztl, .ref ztf, .ref ztd, .long cu, .long cv], aZ G ztm 8 md, aJ G ztr 8 re, aJ G ztl 8 fl, aJ G ztf 8 fr, ob ztd 4 [.ref ztdq, .long tk], aJ G ztdq 16 (rkF tk), ob zc 3 [.ref zcl, .ref zcr], ob zcl 4 [.ref zclq, .long kl], aJ G zclq 16 (rkF kl), ob zcr 4 [.ref zcrq, .long kr], aJ G zcrq 16 (rkF kr), aJ G zpb 5 (vp_updL bf k.toNatClampNeg v), aJ G zpm 8 mg]) X 21 rfl (rng_in2 (n := 5) rfl hk hk5) rfl d_P_poke_25 ?_
  exact pv_vret X hr hlk () trivial (by simp only [g_P_poke_zpb]) d_P_poke_26
def f_P_peek (bf : Nat → Int64) (k : Int32) : Int64 := bf k.toNatClampNeg
abbrev rm_P_peek : Room := { frames := 6, cells := 0, slots := 0, locals := 144 }
theorem mf_P_peek : MF y_P_peek b_P_peek 2 (some .long) 1 := ⟨m_559, m_1, by decide, by decide, by decide +kernel⟩
theorem d_P_peek_0 : decode b_P_peek 0 = .ok (.iload_n 1, 1) := by decide +kernel
theorem d_P_peek_1 : decode b_P_peek 1 = .ok (.ifCond .lt 8, 3) := by decide +kernel
theorem d_P_peek_4 : decode b_P_peek 4 = .ok (.iload_n 1, 1) := by decide +kernel
theorem d_P_peek_5 : decode b_P_peek 5 = .ok (.iconst 5, 1) := by decide +kernel
theorem d_P_peek_6 : decode b_P_peek 6 = .ok (.if_icmp .lt 13, 3) := by decide +kernel
theorem d_P_peek_19 : decode b_P_peek 19 = .ok (.aload_n 0, 1) := by decide +kernel
theorem d_P_peek_20 : decode b_P_peek 20 = .ok (.getfield 38, 3) := by decide +kernel
theorem d_P_peek_23 : decode b_P_peek 23 = .ok (.iload_n 1, 1) := by decide +kernel
theorem d_P_peek_24 : decode b_P_peek 24 = .ok (.laload, 1) := by decide +kernel
theorem d_P_peek_25 : decode b_P_peek 25 = .ok (.lreturn, 1) := by decide +kernel
set_option maxRecDepth 100000 in
set_option maxHeartbeats 4000000 in
theorem c_P_peek (l : Launch) (G : Gt) (zp zph zpt zs zsf zsu zse zsl zsr zt ztm ztr ztl ztf ztd ztdq zc zcl zclq zcr zcrq zpb zpm : Nat) (hv : Nat → Int64) (ht : Nat → Int32) (hm : Int32) (ml mr : Int64) (fi us ex : Nat → Int32) (lf rg : Nat → Int64) (md : Nat → Int32) (re fl fr : Nat → Int64) (tk cu cv kl kr : Int64) (bf mg : Nat → Int64) (k : Int32) (hk : ¬ k < 0) (hk5 : k < 5) : CtL l G y_P_peek b_P_peek 2 (some .long) rm_P_peek Sx [.ref zp, .int k] [ob zp 0 [.ref zph, .ref zpt, .int hm, .long ml, .long mr, .ref zs, .ref zt, .ref zc, .ref zpb, .ref zpm], aJ G zph 6 hv, aZ G zpt 6 ht, ob zs 1 [.ref zsf, .ref zsu, .ref zse, .ref zsl, .ref zsr], aZ G zsf 16 fi, aI G zsu 16 us, aZ G zse 16 ex, aJ G zsl 16 lf, aJ G zsr 16 rg, ob zt 2 [.ref ztm, .ref ztr, .ref ztl, .ref ztf, .ref ztd, .long cu, .long cv], aZ G ztm 8 md, aJ G ztr 8 re, aJ G ztl 8 fl, aJ G ztf 8 fr, ob ztd 4 [.ref ztdq, .long tk], aJ G ztdq 16 (rkF tk), ob zc 3 [.ref zcl, .ref zcr], ob zcl 4 [.ref zclq, .long kl], aJ G zclq 16 (rkF kl), ob zcr 4 [.ref zcrq, .long kr], aJ G zcrq 16 (rkF kr), aJ G zpb 5 bf, aJ G zpm 8 mg] (fun r (_ : Unit) => r = f_P_peek bf k) (fun _ => [ob zp 0 [.ref zph, .ref zpt, .int hm, .long ml, .long mr, .ref zs, .ref zt, .ref zc, .ref zpb, .ref zpm], aJ G zph 6 hv, aZ G zpt 6 ht, ob zs 1 [.ref zsf, .ref zsu, .ref zse, .ref zsl, .ref zsr], aZ G zsf 16 fi, aI G zsu 16 us, aZ G zse 16 ex, aJ G zsl 16 lf, aJ G zsr 16 rg, ob zt 2 [.ref ztm, .ref ztr, .ref ztl, .ref ztf, .ref ztd, .long cu, .long cv], aZ G ztm 8 md, aJ G ztr 8 re, aJ G ztl 8 fl, aJ G ztf 8 fr, ob ztd 4 [.ref ztdq, .long tk], aJ G ztdq 16 (rkF tk), ob zc 3 [.ref zcl, .ref zcr], ob zcl 4 [.ref zclq, .long kl], aJ G zclq 16 (rkF kl), ob zcr 4 [.ref zcrq, .long kr], aJ G zcrq 16 (rkF kr), aJ G zpb 5 bf, aJ G zpm 8 mg]) 0 0 := by
  refine Ct.of (Qp := fun A => va_Ql _ (qB G A _) A) Sx_stb (by decide) (Nat.le_of_ble_eq_true rfl) ?_
  intro p e s m args below meth c A X hE hr hlk hini
  refine pv_eql (ll2 := [(0, .ref zp), (1, .int k)]) rfl ?_
  refine pv_iload_n X 1 d_P_peek_0 rfl ?_
  refine pv_if_lt X 9 d_P_peek_1 rfl (fun h => absurd h hk) (fun _ => ?_)
  refine pv_iload_n X 1 d_P_peek_4 rfl ?_
  refine pv_iconst X 5 d_P_peek_5 (by decide) ?_
  refine pv_icmp_lt X 19 d_P_peek_6 rfl (fun _ => ?_) (fun h => absurd hk5 h)
  refine pv_aload_n X 0 d_P_peek_19 rfl ?_
  refine pv_get X 0 8 u_P_in m_123 rfl rfl (by decide) ⟨rfl, rfl, rfl⟩ rfl d_P_peek_20 ?_
  refine pv_iload_n X 1 d_P_peek_23 rfl ?_
  refine pv_lald X 21 rfl (rng_in2 (n := 5) rfl hk hk5) d_P_peek_24 ?_
  exact pv_lret X hr hlk () rfl rfl d_P_peek_25
def g_P_message_zpm (mg : Nat → Int64) (k : Int32) (v : Int64) : Nat → Int64 := vp_updL mg k.toNatClampNeg v
abbrev rm_P_message : Room := { frames := 6, cells := 0, slots := 0, locals := 144 }
theorem mf_P_message : MF y_P_message b_P_message 4 none 2 := ⟨m_566, m_1, by decide, by decide, by decide +kernel⟩
theorem d_P_message_0 : decode b_P_message 0 = .ok (.iload_n 1, 1) := by decide +kernel
theorem d_P_message_1 : decode b_P_message 1 = .ok (.ifCond .lt 9, 3) := by decide +kernel
theorem d_P_message_4 : decode b_P_message 4 = .ok (.iload_n 1, 1) := by decide +kernel
theorem d_P_message_5 : decode b_P_message 5 = .ok (.bipush 8, 2) := by decide +kernel
theorem d_P_message_7 : decode b_P_message 7 = .ok (.if_icmp .lt 13, 3) := by decide +kernel
theorem d_P_message_20 : decode b_P_message 20 = .ok (.aload_n 0, 1) := by decide +kernel
theorem d_P_message_21 : decode b_P_message 21 = .ok (.getfield 41, 3) := by decide +kernel
theorem d_P_message_24 : decode b_P_message 24 = .ok (.iload_n 1, 1) := by decide +kernel
theorem d_P_message_25 : decode b_P_message 25 = .ok (.lload_n 2, 1) := by decide +kernel
theorem d_P_message_26 : decode b_P_message 26 = .ok (.lastore, 1) := by decide +kernel
theorem d_P_message_27 : decode b_P_message 27 = .ok (.return_, 1) := by decide +kernel
set_option maxRecDepth 100000 in
set_option maxHeartbeats 4000000 in
theorem c_P_message (l : Launch) (G : Gt) (zp zph zpt zs zsf zsu zse zsl zsr zt ztm ztr ztl ztf ztd ztdq zc zcl zclq zcr zcrq zpb zpm : Nat) (hv : Nat → Int64) (ht : Nat → Int32) (hm : Int32) (ml mr : Int64) (fi us ex : Nat → Int32) (lf rg : Nat → Int64) (md : Nat → Int32) (re fl fr : Nat → Int64) (tk cu cv kl kr : Int64) (bf mg : Nat → Int64) (k : Int32) (v : Int64) (hk : ¬ k < 0) (hk8 : k < 8) : CtV l G y_P_message b_P_message 4 none rm_P_message Sx [.ref zp, .int k, .long v] [ob zp 0 [.ref zph, .ref zpt, .int hm, .long ml, .long mr, .ref zs, .ref zt, .ref zc, .ref zpb, .ref zpm], aJ G zph 6 hv, aZ G zpt 6 ht, ob zs 1 [.ref zsf, .ref zsu, .ref zse, .ref zsl, .ref zsr], aZ G zsf 16 fi, aI G zsu 16 us, aZ G zse 16 ex, aJ G zsl 16 lf, aJ G zsr 16 rg, ob zt 2 [.ref ztm, .ref ztr, .ref ztl, .ref ztf, .ref ztd, .long cu, .long cv], aZ G ztm 8 md, aJ G ztr 8 re, aJ G ztl 8 fl, aJ G ztf 8 fr, ob ztd 4 [.ref ztdq, .long tk], aJ G ztdq 16 (rkF tk), ob zc 3 [.ref zcl, .ref zcr], ob zcl 4 [.ref zclq, .long kl], aJ G zclq 16 (rkF kl), ob zcr 4 [.ref zcrq, .long kr], aJ G zcrq 16 (rkF kr), aJ G zpb 5 bf, aJ G zpm 8 mg] (fun (_ : Unit) => True) (fun _ => [ob zp 0 [.ref zph, .ref zpt, .int hm, .long ml, .long mr, .ref zs, .ref zt, .ref zc, .ref zpb, .ref zpm], aJ G zph 6 hv, aZ G zpt 6 ht, ob zs 1 [.ref zsf, .ref zsu, .ref zse, .ref zsl, .ref zsr], aZ G zsf 16 fi, aI G zsu 16 us, aZ G zse 16 ex, aJ G zsl 16 lf, aJ G zsr 16 rg, ob zt 2 [.ref ztm, .ref ztr, .ref ztl, .ref ztf, .ref ztd, .long cu, .long cv], aZ G ztm 8 md, aJ G ztr 8 re, aJ G ztl 8 fl, aJ G ztf 8 fr, ob ztd 4 [.ref ztdq, .long tk], aJ G ztdq 16 (rkF tk), ob zc 3 [.ref zcl, .ref zcr], ob zcl 4 [.ref zclq, .long kl], aJ G zclq 16 (rkF kl), ob zcr 4 [.ref zcrq, .long kr], aJ G zcrq 16 (rkF kr), aJ G zpb 5 bf, aJ G zpm 8 (g_P_message_zpm mg k v)]) 0 0 := by
  refine Ct.of (Qp := fun A => va_Qv _ (qB G A _) A) Sx_stb (by decide) (Nat.le_of_ble_eq_true rfl) ?_
  intro p e s m args below meth c A X hE hr hlk hini
  refine pv_eql (ll2 := [(0, .ref zp), (1, .int k), (2, .long v)]) rfl ?_
  refine pv_iload_n X 1 d_P_message_0 rfl ?_
  refine pv_if_lt X 10 d_P_message_1 rfl (fun h => absurd h hk) (fun _ => ?_)
  refine pv_iload_n X 1 d_P_message_4 rfl ?_
  refine pv_bipush X 8 d_P_message_5 (by decide) ?_
  refine pv_icmp_lt X 20 d_P_message_7 rfl (fun _ => ?_) (fun h => absurd hk8 h)
  refine pv_aload_n X 0 d_P_message_20 rfl ?_
  refine pv_get X 0 9 u_P_in m_124 rfl rfl (by decide) ⟨rfl, rfl, rfl⟩ rfl d_P_message_21 ?_
  refine pv_iload_n X 1 d_P_message_24 rfl ?_
  refine pv_lload_n X 2 d_P_message_25 rfl ?_
  refine pv_last (ws2 := [ob zp 0 [.ref zph, .ref zpt, .int hm, .long ml, .long mr, .ref zs, .ref zt, .ref zc, .ref zpb, .ref zpm], aJ G zph 6 hv, aZ G zpt 6 ht, ob zs 1 [.ref zsf, .ref zsu, .ref zse, .ref zsl, .ref zsr], aZ G zsf 16 fi, aI G zsu 16 us, aZ G zse 16 ex, aJ G zsl 16 lf, aJ G zsr 16 rg, ob zt 2 [.ref ztm, .ref ztr, .ref ztl, .ref ztf, .ref ztd, .long cu, .long cv], aZ G ztm 8 md, aJ G ztr 8 re, aJ G ztl 8 fl, aJ G ztf 8 fr, ob ztd 4 [.ref ztdq, .long tk], aJ G ztdq 16 (rkF tk), ob zc 3 [.ref zcl, .ref zcr], ob zcl 4 [.ref zclq, .long kl], aJ G zclq 16 (rkF kl), ob zcr 4 [.ref zcrq, .long kr], aJ G zcrq 16 (rkF kr), aJ G zpb 5 bf, aJ G zpm 8 (vp_updL mg k.toNatClampNeg v)]) X 22 rfl (rng_in2 (n := 8) rfl hk hk8) rfl d_P_message_26 ?_
  exact pv_vret X hr hlk () trivial (by simp only [g_P_message_zpm]) d_P_message_27
abbrev rm_P_init : Room := { frames := 3, cells := 22, slots := 205, locals := 60 }
theorem mf_P_init : MF y_P_init b_P_init 1 none 0 := ⟨m_20, m_1, by decide, by decide, by decide +kernel⟩
theorem d_P_init_0 : decode b_P_init 0 = .ok (.aload_n 0, 1) := by decide +kernel
theorem d_P_init_1 : decode b_P_init 1 = .ok (.invokespecial 3, 3) := by decide +kernel
theorem d_P_init_4 : decode b_P_init 4 = .ok (.aload_n 0, 1) := by decide +kernel
theorem d_P_init_5 : decode b_P_init 5 = .ok (.bipush 6, 2) := by decide +kernel
theorem d_P_init_7 : decode b_P_init 7 = .ok (.newarray .long, 2) := by decide +kernel
theorem d_P_init_9 : decode b_P_init 9 = .ok (.putfield 11, 3) := by decide +kernel
theorem d_P_init_12 : decode b_P_init 12 = .ok (.aload_n 0, 1) := by decide +kernel
theorem d_P_init_13 : decode b_P_init 13 = .ok (.bipush 6, 2) := by decide +kernel
theorem d_P_init_15 : decode b_P_init 15 = .ok (.newarray .boolean, 2) := by decide +kernel
theorem d_P_init_17 : decode b_P_init 17 = .ok (.putfield 15, 3) := by decide +kernel
theorem d_P_init_20 : decode b_P_init 20 = .ok (.aload_n 0, 1) := by decide +kernel
theorem d_P_init_21 : decode b_P_init 21 = .ok (.new 1, 3) := by decide +kernel
theorem d_P_init_24 : decode b_P_init 24 = .ok (.dup, 1) := by decide +kernel
theorem d_P_init_25 : decode b_P_init 25 = .ok (.invokespecial 19, 3) := by decide +kernel
theorem d_P_init_28 : decode b_P_init 28 = .ok (.putfield 20, 3) := by decide +kernel
theorem d_P_init_31 : decode b_P_init 31 = .ok (.aload_n 0, 1) := by decide +kernel
theorem d_P_init_32 : decode b_P_init 32 = .ok (.new 24, 3) := by decide +kernel
theorem d_P_init_35 : decode b_P_init 35 = .ok (.dup, 1) := by decide +kernel
theorem d_P_init_36 : decode b_P_init 36 = .ok (.invokespecial 26, 3) := by decide +kernel
theorem d_P_init_39 : decode b_P_init 39 = .ok (.putfield 27, 3) := by decide +kernel
theorem d_P_init_42 : decode b_P_init 42 = .ok (.aload_n 0, 1) := by decide +kernel
theorem d_P_init_43 : decode b_P_init 43 = .ok (.new 31, 3) := by decide +kernel
theorem d_P_init_46 : decode b_P_init 46 = .ok (.dup, 1) := by decide +kernel
theorem d_P_init_47 : decode b_P_init 47 = .ok (.invokespecial 33, 3) := by decide +kernel
theorem d_P_init_50 : decode b_P_init 50 = .ok (.putfield 34, 3) := by decide +kernel
theorem d_P_init_53 : decode b_P_init 53 = .ok (.aload_n 0, 1) := by decide +kernel
theorem d_P_init_54 : decode b_P_init 54 = .ok (.iconst 5, 1) := by decide +kernel
theorem d_P_init_55 : decode b_P_init 55 = .ok (.newarray .long, 2) := by decide +kernel
theorem d_P_init_57 : decode b_P_init 57 = .ok (.putfield 38, 3) := by decide +kernel
theorem d_P_init_60 : decode b_P_init 60 = .ok (.aload_n 0, 1) := by decide +kernel
theorem d_P_init_61 : decode b_P_init 61 = .ok (.bipush 8, 2) := by decide +kernel
theorem d_P_init_63 : decode b_P_init 63 = .ok (.newarray .long, 2) := by decide +kernel
theorem d_P_init_65 : decode b_P_init 65 = .ok (.putfield 41, 3) := by decide +kernel
theorem d_P_init_68 : decode b_P_init 68 = .ok (.return_, 1) := by decide +kernel
set_option maxRecDepth 100000 in
set_option maxHeartbeats 4000000 in
theorem c_P_init (l : Launch) (G : Gt) (zp : Nat) : CtV l G y_P_init b_P_init 1 none rm_P_init Nx [.ref zp] [ob zp 0 [.null, .null, .int 0, .long 0, .long 0, .null, .null, .null, .null, .null]] (fun (_ : Nat → Nat) => True) (fun (x : Nat → Nat) => [ob zp 0 [.ref (x 0), .ref (x 1), .int 0, .long 0, .long 0, .ref (x 2), .ref (x 8), .ref (x 15), .ref (x 20), .ref (x 21)], aJ G (x 0) 6 (fun _ => 0), aZ G (x 1) 6 (fun _ => 0), ob (x 2) 1 [.ref (x 3), .ref (x 4), .ref (x 5), .ref (x 6), .ref (x 7)], aZ G (x 3) 16 (fun _ => 0), aI G (x 4) 16 (fun _ => 0), aZ G (x 5) 16 (fun _ => 0), aJ G (x 6) 16 (fun _ => 0), aJ G (x 7) 16 (fun _ => 0), ob (x 8) 2 [.ref (x 9), .ref (x 10), .ref (x 11), .ref (x 12), .ref (x 13), .long 0, .long 0], aZ G (x 9) 8 (fun _ => 0), aJ G (x 10) 8 (fun _ => 0), aJ G (x 11) 8 (fun _ => 0), aJ G (x 12) 8 (fun _ => 0), ob (x 13) 4 [.ref (x 14), .long 0], aJ G (x 14) 16 (rkF 0), ob (x 15) 3 [.ref (x 16), .ref (x 18)], ob (x 16) 4 [.ref (x 17), .long 0], aJ G (x 17) 16 (rkF 0), ob (x 18) 4 [.ref (x 19), .long 0], aJ G (x 19) 16 (rkF 0), aJ G (x 20) 5 (fun _ => 0), aJ G (x 21) 8 (fun _ => 0)]) 22 205 := by
  refine Ct.of (Qp := fun A => va_Qv _ (qB G A _) A) Nx_stb (by decide) (Nat.le_of_ble_eq_true rfl) ?_
  intro p e s m args below meth c A X hE hr hlk hini
  refine pv_eql (ll2 := [(0, .ref zp)]) rfl ?_
  obtain ⟨hN_26, hN_56, hN_62, hN_100, hN_105⟩ := id hE
  refine pv_aload_n X 0 d_P_init_0 rfl ?_
  refine pv_objInit X m_21 m_22 m_23 (by decide) (Nat.le_of_ble_eq_true rfl) d_P_init_1 ?_
  refine pv_aload_n X 0 d_P_init_4 rfl ?_
  refine pv_bipush X 6 d_P_init_5 (by decide) ?_
  refine pv_newaJ X 6 m_51 (by decide) (by decide) (by decide) (by decide) (by decide) d_P_init_7 (fun zph => ?_)
  refine pv_eqw (ws2 := [ob zp 0 [.null, .null, .int 0, .long 0, .long 0, .null, .null, .null, .null, .null], aJ G zph 6 (fun _ => 0)]) rfl ?_
  refine pv_putF X hini (ty := .array .long) (ws2 := [ob zp 0 [.ref zph, .null, .int 0, .long 0, .long 0, .null, .null, .null, .null, .null], aJ G zph 6 (fun _ => 0)]) 0 0 ty_P ty_P_ok n_P u_P_in m_115 rfl rfl (by decide) ⟨rfl, rfl, rfl⟩ rfl rfl (by decide +kernel) rfl rfl (Nat.le_of_ble_eq_true rfl) rfl d_P_init_9 ?_
  refine pv_aload_n X 0 d_P_init_12 rfl ?_
  refine pv_bipush X 6 d_P_init_13 (by decide) ?_
  refine pv_newaZ X 6 m_52 (by decide) (by decide) (by decide) (by decide) (by decide) d_P_init_15 (fun zpt => ?_)
  refine pv_eqw (ws2 := [ob zp 0 [.ref zph, .null, .int 0, .long 0, .long 0, .null, .null, .null, .null, .null], aJ G zph 6 (fun _ => 0), aZ G zpt 6 (fun _ => 0)]) rfl ?_
  refine pv_putF X hini (ty := .array .boolean) (ws2 := [ob zp 0 [.ref zph, .ref zpt, .int 0, .long 0, .long 0, .null, .null, .null, .null, .null], aJ G zph 6 (fun _ => 0), aZ G zpt 6 (fun _ => 0)]) 0 1 ty_P ty_P_ok n_P u_P_in m_116 rfl rfl (by decide) ⟨rfl, rfl, rfl⟩ rfl rfl (by decide +kernel) rfl rfl (Nat.le_of_ble_eq_true rfl) rfl d_P_init_17 ?_
  refine pv_aload_n X 0 d_P_init_20 rfl ?_
  refine pv_new (ci := 1) (fs := [.null, .null, .null, .null, .null]) X ty_S ty_S_ok u_S_in m_24 m_25 m_2 rfl (by intro j hj; rcases (show j = 0 ∨ j = 1 ∨ j = 2 ∨ j = 3 ∨ j = 4 by omega) with rfl | rfl | rfl | rfl | rfl <;> rfl) (by decide) (by decide) d_P_init_21 (fun zs => ?_)
  refine pv_eqw (ws2 := [ob zp 0 [.ref zph, .ref zpt, .int 0, .long 0, .long 0, .null, .null, .null, .null, .null], aJ G zph 6 (fun _ => 0), aZ G zpt 6 (fun _ => 0), ob zs 1 [.null, .null, .null, .null, .null]]) rfl ?_
  refine pv_dup X d_P_init_24 rfl ?_
  refine pv_callv X (Cut.mk (w0 := [ob zs 1 [.null, .null, .null, .null, .null]]) (wr := [ob zp 0 [.ref zph, .ref zpt, .int 0, .long 0, .long 0, .null, .null, .null, .null, .null], aJ G zph 6 (fun _ => 0), aZ G zpt 6 (fun _ => 0)]) [3] [0, 1, 2] rfl rfl rfl rfl rfl) (rn_IN X (c_S_init l G zs) trivial mf_S_init hN_26 m_27 rfl rfl (by decide) (by decide) rfl (Nat.le_of_ble_eq_true rfl) d_P_init_25) (fun x1 e1 => ?_)
  refine pv_eqw (ws2 := [ob zp 0 [.ref zph, .ref zpt, .int 0, .long 0, .long 0, .null, .null, .null, .null, .null], aJ G zph 6 (fun _ => 0), aZ G zpt 6 (fun _ => 0), ob zs 1 [.ref x1.1, .ref x1.2.1, .ref x1.2.2.1, .ref x1.2.2.2.1, .ref x1.2.2.2.2], aZ G x1.1 16 (fun _ => 0), aI G x1.2.1 16 (fun _ => 0), aZ G x1.2.2.1 16 (fun _ => 0), aJ G x1.2.2.2.1 16 (fun _ => 0), aJ G x1.2.2.2.2 16 (fun _ => 0)]) rfl ?_
  refine pv_putF X hini (ty := .object "PinModule$Slots") (ws2 := [ob zp 0 [.ref zph, .ref zpt, .int 0, .long 0, .long 0, .ref zs, .null, .null, .null, .null], aJ G zph 6 (fun _ => 0), aZ G zpt 6 (fun _ => 0), ob zs 1 [.ref x1.1, .ref x1.2.1, .ref x1.2.2.1, .ref x1.2.2.2.1, .ref x1.2.2.2.2], aZ G x1.1 16 (fun _ => 0), aI G x1.2.1 16 (fun _ => 0), aZ G x1.2.2.1 16 (fun _ => 0), aJ G x1.2.2.2.1 16 (fun _ => 0), aJ G x1.2.2.2.2 16 (fun _ => 0)]) 0 5 ty_P ty_P_ok n_P u_P_in m_120 rfl rfl (by decide) ⟨rfl, rfl, rfl⟩ rfl rfl (by decide +kernel) rfl rfl (Nat.le_of_ble_eq_true rfl) rfl d_P_init_28 ?_
  refine pv_aload_n X 0 d_P_init_31 rfl ?_
  refine pv_new (ci := 2) (fs := [.null, .null, .null, .null, .null, .long 0, .long 0]) X ty_T ty_T_ok u_T_in m_54 m_55 m_3 rfl (by intro j hj; rcases (show j = 0 ∨ j = 1 ∨ j = 2 ∨ j = 3 ∨ j = 4 ∨ j = 5 ∨ j = 6 by omega) with rfl | rfl | rfl | rfl | rfl | rfl | rfl <;> rfl) (by decide) (by decide) d_P_init_32 (fun zt => ?_)
  refine pv_eqw (ws2 := [ob zp 0 [.ref zph, .ref zpt, .int 0, .long 0, .long 0, .ref zs, .null, .null, .null, .null], aJ G zph 6 (fun _ => 0), aZ G zpt 6 (fun _ => 0), ob zs 1 [.ref x1.1, .ref x1.2.1, .ref x1.2.2.1, .ref x1.2.2.2.1, .ref x1.2.2.2.2], aZ G x1.1 16 (fun _ => 0), aI G x1.2.1 16 (fun _ => 0), aZ G x1.2.2.1 16 (fun _ => 0), aJ G x1.2.2.2.1 16 (fun _ => 0), aJ G x1.2.2.2.2 16 (fun _ => 0), ob zt 2 [.null, .null, .null, .null, .null, .long 0, .long 0]]) rfl ?_
  refine pv_dup X d_P_init_35 rfl ?_
  refine pv_callv X (Cut.mk (w0 := [ob zt 2 [.null, .null, .null, .null, .null, .long 0, .long 0]]) (wr := [ob zp 0 [.ref zph, .ref zpt, .int 0, .long 0, .long 0, .ref zs, .null, .null, .null, .null], aJ G zph 6 (fun _ => 0), aZ G zpt 6 (fun _ => 0), ob zs 1 [.ref x1.1, .ref x1.2.1, .ref x1.2.2.1, .ref x1.2.2.2.1, .ref x1.2.2.2.2], aZ G x1.1 16 (fun _ => 0), aI G x1.2.1 16 (fun _ => 0), aZ G x1.2.2.1 16 (fun _ => 0), aJ G x1.2.2.2.1 16 (fun _ => 0), aJ G x1.2.2.2.2 16 (fun _ => 0)]) [9] [0, 1, 2, 3, 4, 5, 6, 7, 8] rfl rfl rfl rfl rfl) (rn_IN X (c_T_init l G zt) hE mf_T_init hN_56 m_57 rfl rfl (by decide) (by decide) rfl (Nat.le_of_ble_eq_true rfl) d_P_init_36) (fun x2 e2 => ?_)
  refine pv_eqw (ws2 := [ob zp 0 [.ref zph, .ref zpt, .int 0, .long 0, .long 0, .ref zs, .null, .null, .null, .null], aJ G zph 6 (fun _ => 0), aZ G zpt 6 (fun _ => 0), ob zs 1 [.ref x1.1, .ref x1.2.1, .ref x1.2.2.1, .ref x1.2.2.2.1, .ref x1.2.2.2.2], aZ G x1.1 16 (fun _ => 0), aI G x1.2.1 16 (fun _ => 0), aZ G x1.2.2.1 16 (fun _ => 0), aJ G x1.2.2.2.1 16 (fun _ => 0), aJ G x1.2.2.2.2 16 (fun _ => 0), ob zt 2 [.ref x2.1, .ref x2.2.1, .ref x2.2.2.1, .ref x2.2.2.2.1, .ref x2.2.2.2.2.1, .long 0, .long 0], aZ G x2.1 8 (fun _ => 0), aJ G x2.2.1 8 (fun _ => 0), aJ G x2.2.2.1 8 (fun _ => 0), aJ G x2.2.2.2.1 8 (fun _ => 0), ob x2.2.2.2.2.1 4 [.ref x2.2.2.2.2.2, .long 0], aJ G x2.2.2.2.2.2 16 (rkF 0)]) rfl ?_
  refine pv_putF X hini (ty := .object "PinModule$Terminals") (ws2 := [ob zp 0 [.ref zph, .ref zpt, .int 0, .long 0, .long 0, .ref zs, .ref zt, .null, .null, .null], aJ G zph 6 (fun _ => 0), aZ G zpt 6 (fun _ => 0), ob zs 1 [.ref x1.1, .ref x1.2.1, .ref x1.2.2.1, .ref x1.2.2.2.1, .ref x1.2.2.2.2], aZ G x1.1 16 (fun _ => 0), aI G x1.2.1 16 (fun _ => 0), aZ G x1.2.2.1 16 (fun _ => 0), aJ G x1.2.2.2.1 16 (fun _ => 0), aJ G x1.2.2.2.2 16 (fun _ => 0), ob zt 2 [.ref x2.1, .ref x2.2.1, .ref x2.2.2.1, .ref x2.2.2.2.1, .ref x2.2.2.2.2.1, .long 0, .long 0], aZ G x2.1 8 (fun _ => 0), aJ G x2.2.1 8 (fun _ => 0), aJ G x2.2.2.1 8 (fun _ => 0), aJ G x2.2.2.2.1 8 (fun _ => 0), ob x2.2.2.2.2.1 4 [.ref x2.2.2.2.2.2, .long 0], aJ G x2.2.2.2.2.2 16 (rkF 0)]) 0 6 ty_P ty_P_ok n_P u_P_in m_121 rfl rfl (by decide) ⟨rfl, rfl, rfl⟩ rfl rfl (by decide +kernel) rfl rfl (Nat.le_of_ble_eq_true rfl) rfl d_P_init_39 ?_
  refine pv_aload_n X 0 d_P_init_42 rfl ?_
  refine pv_new (ci := 3) (fs := [.null, .null]) X ty_C ty_C_ok u_C_in m_98 m_99 m_5 rfl (by intro j hj; rcases (show j = 0 ∨ j = 1 by omega) with rfl | rfl <;> rfl) (by decide) (by decide) d_P_init_43 (fun zc => ?_)
  refine pv_eqw (ws2 := [ob zp 0 [.ref zph, .ref zpt, .int 0, .long 0, .long 0, .ref zs, .ref zt, .null, .null, .null], aJ G zph 6 (fun _ => 0), aZ G zpt 6 (fun _ => 0), ob zs 1 [.ref x1.1, .ref x1.2.1, .ref x1.2.2.1, .ref x1.2.2.2.1, .ref x1.2.2.2.2], aZ G x1.1 16 (fun _ => 0), aI G x1.2.1 16 (fun _ => 0), aZ G x1.2.2.1 16 (fun _ => 0), aJ G x1.2.2.2.1 16 (fun _ => 0), aJ G x1.2.2.2.2 16 (fun _ => 0), ob zt 2 [.ref x2.1, .ref x2.2.1, .ref x2.2.2.1, .ref x2.2.2.2.1, .ref x2.2.2.2.2.1, .long 0, .long 0], aZ G x2.1 8 (fun _ => 0), aJ G x2.2.1 8 (fun _ => 0), aJ G x2.2.2.1 8 (fun _ => 0), aJ G x2.2.2.2.1 8 (fun _ => 0), ob x2.2.2.2.2.1 4 [.ref x2.2.2.2.2.2, .long 0], aJ G x2.2.2.2.2.2 16 (rkF 0), ob zc 3 [.null, .null]]) rfl ?_
  refine pv_dup X d_P_init_46 rfl ?_
  refine pv_callv X (Cut.mk (w0 := [ob zc 3 [.null, .null]]) (wr := [ob zp 0 [.ref zph, .ref zpt, .int 0, .long 0, .long 0, .ref zs, .ref zt, .null, .null, .null], aJ G zph 6 (fun _ => 0), aZ G zpt 6 (fun _ => 0), ob zs 1 [.ref x1.1, .ref x1.2.1, .ref x1.2.2.1, .ref x1.2.2.2.1, .ref x1.2.2.2.2], aZ G x1.1 16 (fun _ => 0), aI G x1.2.1 16 (fun _ => 0), aZ G x1.2.2.1 16 (fun _ => 0), aJ G x1.2.2.2.1 16 (fun _ => 0), aJ G x1.2.2.2.2 16 (fun _ => 0), ob zt 2 [.ref x2.1, .ref x2.2.1, .ref x2.2.2.1, .ref x2.2.2.2.1, .ref x2.2.2.2.2.1, .long 0, .long 0], aZ G x2.1 8 (fun _ => 0), aJ G x2.2.1 8 (fun _ => 0), aJ G x2.2.2.1 8 (fun _ => 0), aJ G x2.2.2.2.1 8 (fun _ => 0), ob x2.2.2.2.2.1 4 [.ref x2.2.2.2.2.2, .long 0], aJ G x2.2.2.2.2.2 16 (rkF 0)]) [16] [0, 1, 2, 3, 4, 5, 6, 7, 8, 9, 10, 11, 12, 13, 14, 15] rfl rfl rfl rfl rfl) (rn_IN X (c_C_init l G zc) hE mf_C_init hN_100 m_101 rfl rfl (by decide) (by decide) rfl (Nat.le_of_ble_eq_true rfl) d_P_init_47) (fun x3 e3 => ?_)
  refine pv_eqw (ws2 := [ob zp 0 [.ref zph, .ref zpt, .int 0, .long 0, .long 0, .ref zs, .ref zt, .null, .null, .null], aJ G zph 6 (fun _ => 0), aZ G zpt 6 (fun _ => 0), ob zs 1 [.ref x1.1, .ref x1.2.1, .ref x1.2.2.1, .ref x1.2.2.2.1, .ref x1.2.2.2.2], aZ G x1.1 16 (fun _ => 0), aI G x1.2.1 16 (fun _ => 0), aZ G x1.2.2.1 16 (fun _ => 0), aJ G x1.2.2.2.1 16 (fun _ => 0), aJ G x1.2.2.2.2 16 (fun _ => 0), ob zt 2 [.ref x2.1, .ref x2.2.1, .ref x2.2.2.1, .ref x2.2.2.2.1, .ref x2.2.2.2.2.1, .long 0, .long 0], aZ G x2.1 8 (fun _ => 0), aJ G x2.2.1 8 (fun _ => 0), aJ G x2.2.2.1 8 (fun _ => 0), aJ G x2.2.2.2.1 8 (fun _ => 0), ob x2.2.2.2.2.1 4 [.ref x2.2.2.2.2.2, .long 0], aJ G x2.2.2.2.2.2 16 (rkF 0), ob zc 3 [.ref x3.1, .ref x3.2.2.1], ob x3.1 4 [.ref x3.2.1, .long 0], aJ G x3.2.1 16 (rkF 0), ob x3.2.2.1 4 [.ref x3.2.2.2, .long 0], aJ G x3.2.2.2 16 (rkF 0)]) rfl ?_
  refine pv_putF X hini (ty := .object "PinModule$Cipher") (ws2 := [ob zp 0 [.ref zph, .ref zpt, .int 0, .long 0, .long 0, .ref zs, .ref zt, .ref zc, .null, .null], aJ G zph 6 (fun _ => 0), aZ G zpt 6 (fun _ => 0), ob zs 1 [.ref x1.1, .ref x1.2.1, .ref x1.2.2.1, .ref x1.2.2.2.1, .ref x1.2.2.2.2], aZ G x1.1 16 (fun _ => 0), aI G x1.2.1 16 (fun _ => 0), aZ G x1.2.2.1 16 (fun _ => 0), aJ G x1.2.2.2.1 16 (fun _ => 0), aJ G x1.2.2.2.2 16 (fun _ => 0), ob zt 2 [.ref x2.1, .ref x2.2.1, .ref x2.2.2.1, .ref x2.2.2.2.1, .ref x2.2.2.2.2.1, .long 0, .long 0], aZ G x2.1 8 (fun _ => 0), aJ G x2.2.1 8 (fun _ => 0), aJ G x2.2.2.1 8 (fun _ => 0), aJ G x2.2.2.2.1 8 (fun _ => 0), ob x2.2.2.2.2.1 4 [.ref x2.2.2.2.2.2, .long 0], aJ G x2.2.2.2.2.2 16 (rkF 0), ob zc 3 [.ref x3.1, .ref x3.2.2.1], ob x3.1 4 [.ref x3.2.1, .long 0], aJ G x3.2.1 16 (rkF 0), ob x3.2.2.1 4 [.ref x3.2.2.2, .long 0], aJ G x3.2.2.2 16 (rkF 0)]) 0 7 ty_P ty_P_ok n_P u_P_in m_122 rfl rfl (by decide) ⟨rfl, rfl, rfl⟩ rfl rfl (by decide +kernel) rfl rfl (Nat.le_of_ble_eq_true rfl) rfl d_P_init_50 ?_
  refine pv_aload_n X 0 d_P_init_53 rfl ?_
  refine pv_iconst X 5 d_P_init_54 (by decide) ?_
  refine pv_newaJ X 5 m_51 (by decide) (by decide) (by decide) (by decide) (by decide) d_P_init_55 (fun zpb => ?_)
  refine pv_eqw (ws2 := [ob zp 0 [.ref zph, .ref zpt, .int 0, .long 0, .long 0, .ref zs, .ref zt, .ref zc, .null, .null], aJ G zph 6 (fun _ => 0), aZ G zpt 6 (fun _ => 0), ob zs 1 [.ref x1.1, .ref x1.2.1, .ref x1.2.2.1, .ref x1.2.2.2.1, .ref x1.2.2.2.2], aZ G x1.1 16 (fun _ => 0), aI G x1.2.1 16 (fun _ => 0), aZ G x1.2.2.1 16 (fun _ => 0), aJ G x1.2.2.2.1 16 (fun _ => 0), aJ G x1.2.2.2.2 16 (fun _ => 0), ob zt 2 [.ref x2.1, .ref x2.2.1, .ref x2.2.2.1, .ref x2.2.2.2.1, .ref x2.2.2.2.2.1, .long 0, .long 0], aZ G x2.1 8 (fun _ => 0), aJ G x2.2.1 8 (fun _ => 0), aJ G x2.2.2.1 8 (fun _ => 0), aJ G x2.2.2.2.1 8 (fun _ => 0), ob x2.2.2.2.2.1 4 [.ref x2.2.2.2.2.2, .long 0], aJ G x2.2.2.2.2.2 16 (rkF 0), ob zc 3 [.ref x3.1, .ref x3.2.2.1], ob x3.1 4 [.ref x3.2.1, .long 0], aJ G x3.2.1 16 (rkF 0), ob x3.2.2.1 4 [.ref x3.2.2.2, .long 0], aJ G x3.2.2.2 16 (rkF 0), aJ G zpb 5 (fun _ => 0)]) rfl ?_
  refine pv_putF X hini (ty := .array .long) (ws2 := [ob zp 0 [.ref zph, .ref zpt, .int 0, .long 0, .long 0, .ref zs, .ref zt, .ref zc, .ref zpb, .null], aJ G zph 6 (fun _ => 0), aZ G zpt 6 (fun _ => 0), ob zs 1 [.ref x1.1, .ref x1.2.1, .ref x1.2.2.1, .ref x1.2.2.2.1, .ref x1.2.2.2.2], aZ G x1.1 16 (fun _ => 0), aI G x1.2.1 16 (fun _ => 0), aZ G x1.2.2.1 16 (fun _ => 0), aJ G x1.2.2.2.1 16 (fun _ => 0), aJ G x1.2.2.2.2 16 (fun _ => 0), ob zt 2 [.ref x2.1, .ref x2.2.1, .ref x2.2.2.1, .ref x2.2.2.2.1, .ref x2.2.2.2.2.1, .long 0, .long 0], aZ G x2.1 8 (fun _ => 0), aJ G x2.2.1 8 (fun _ => 0), aJ G x2.2.2.1 8 (fun _ => 0), aJ G x2.2.2.2.1 8 (fun _ => 0), ob x2.2.2.2.2.1 4 [.ref x2.2.2.2.2.2, .long 0], aJ G x2.2.2.2.2.2 16 (rkF 0), ob zc 3 [.ref x3.1, .ref x3.2.2.1], ob x3.1 4 [.ref x3.2.1, .long 0], aJ G x3.2.1 16 (rkF 0), ob x3.2.2.1 4 [.ref x3.2.2.2, .long 0], aJ G x3.2.2.2 16 (rkF 0), aJ G zpb 5 (fun _ => 0)]) 0 8 ty_P ty_P_ok n_P u_P_in m_123 rfl rfl (by decide) ⟨rfl, rfl, rfl⟩ rfl rfl (by decide +kernel) rfl rfl (Nat.le_of_ble_eq_true rfl) rfl d_P_init_57 ?_
  refine pv_aload_n X 0 d_P_init_60 rfl ?_
  refine pv_bipush X 8 d_P_init_61 (by decide) ?_
  refine pv_newaJ X 8 m_51 (by decide) (by decide) (by decide) (by decide) (by decide) d_P_init_63 (fun zpm => ?_)
  refine pv_eqw (ws2 := [ob zp 0 [.ref zph, .ref zpt, .int 0, .long 0, .long 0, .ref zs, .ref zt, .ref zc, .ref zpb, .null], aJ G zph 6 (fun _ => 0), aZ G zpt 6 (fun _ => 0), ob zs 1 [.ref x1.1, .ref x1.2.1, .ref x1.2.2.1, .ref x1.2.2.2.1, .ref x1.2.2.2.2], aZ G x1.1 16 (fun _ => 0), aI G x1.2.1 16 (fun _ => 0), aZ G x1.2.2.1 16 (fun _ => 0), aJ G x1.2.2.2.1 16 (fun _ => 0), aJ G x1.2.2.2.2 16 (fun _ => 0), ob zt 2 [.ref x2.1, .ref x2.2.1, .ref x2.2.2.1, .ref x2.2.2.2.1, .ref x2.2.2.2.2.1, .long 0, .long 0], aZ G x2.1 8 (fun _ => 0), aJ G x2.2.1 8 (fun _ => 0), aJ G x2.2.2.1 8 (fun _ => 0), aJ G x2.2.2.2.1 8 (fun _ => 0), ob x2.2.2.2.2.1 4 [.ref x2.2.2.2.2.2, .long 0], aJ G x2.2.2.2.2.2 16 (rkF 0), ob zc 3 [.ref x3.1, .ref x3.2.2.1], ob x3.1 4 [.ref x3.2.1, .long 0], aJ G x3.2.1 16 (rkF 0), ob x3.2.2.1 4 [.ref x3.2.2.2, .long 0], aJ G x3.2.2.2 16 (rkF 0), aJ G zpb 5 (fun _ => 0), aJ G zpm 8 (fun _ => 0)]) rfl ?_
  refine pv_putF X hini (ty := .array .long) (ws2 := [ob zp 0 [.ref zph, .ref zpt, .int 0, .long 0, .long 0, .ref zs, .ref zt, .ref zc, .ref zpb, .ref zpm], aJ G zph 6 (fun _ => 0), aZ G zpt 6 (fun _ => 0), ob zs 1 [.ref x1.1, .ref x1.2.1, .ref x1.2.2.1, .ref x1.2.2.2.1, .ref x1.2.2.2.2], aZ G x1.1 16 (fun _ => 0), aI G x1.2.1 16 (fun _ => 0), aZ G x1.2.2.1 16 (fun _ => 0), aJ G x1.2.2.2.1 16 (fun _ => 0), aJ G x1.2.2.2.2 16 (fun _ => 0), ob zt 2 [.ref x2.1, .ref x2.2.1, .ref x2.2.2.1, .ref x2.2.2.2.1, .ref x2.2.2.2.2.1, .long 0, .long 0], aZ G x2.1 8 (fun _ => 0), aJ G x2.2.1 8 (fun _ => 0), aJ G x2.2.2.1 8 (fun _ => 0), aJ G x2.2.2.2.1 8 (fun _ => 0), ob x2.2.2.2.2.1 4 [.ref x2.2.2.2.2.2, .long 0], aJ G x2.2.2.2.2.2 16 (rkF 0), ob zc 3 [.ref x3.1, .ref x3.2.2.1], ob x3.1 4 [.ref x3.2.1, .long 0], aJ G x3.2.1 16 (rkF 0), ob x3.2.2.1 4 [.ref x3.2.2.2, .long 0], aJ G x3.2.2.2 16 (rkF 0), aJ G zpb 5 (fun _ => 0), aJ G zpm 8 (fun _ => 0)]) 0 9 ty_P ty_P_ok n_P u_P_in m_124 rfl rfl (by decide) ⟨rfl, rfl, rfl⟩ rfl rfl (by decide +kernel) rfl rfl (Nat.le_of_ble_eq_true rfl) rfl d_P_init_65 ?_
  refine pv_ord (ws2 := [ob zp 0 [.ref zph, .ref zpt, .int 0, .long 0, .long 0, .ref zs, .ref zt, .ref zc, .ref zpb, .ref zpm], aJ G zph 6 (fun _ => 0), aZ G zpt 6 (fun _ => 0), ob zs 1 [.ref x1.1, .ref x1.2.1, .ref x1.2.2.1, .ref x1.2.2.2.1, .ref x1.2.2.2.2], aZ G x1.1 16 (fun _ => 0), aI G x1.2.1 16 (fun _ => 0), aZ G x1.2.2.1 16 (fun _ => 0), aJ G x1.2.2.2.1 16 (fun _ => 0), aJ G x1.2.2.2.2 16 (fun _ => 0), ob zt 2 [.ref x2.1, .ref x2.2.1, .ref x2.2.2.1, .ref x2.2.2.2.1, .ref x2.2.2.2.2.1, .long 0, .long 0], aZ G x2.1 8 (fun _ => 0), aJ G x2.2.1 8 (fun _ => 0), aJ G x2.2.2.1 8 (fun _ => 0), aJ G x2.2.2.2.1 8 (fun _ => 0), ob x2.2.2.2.2.1 4 [.ref x2.2.2.2.2.2, .long 0], aJ G x2.2.2.2.2.2 16 (rkF 0), ob zc 3 [.ref x3.1, .ref x3.2.2.1], ob x3.1 4 [.ref x3.2.1, .long 0], aJ G x3.2.1 16 (rkF 0), ob x3.2.2.1 4 [.ref x3.2.2.2, .long 0], aJ G x3.2.2.2 16 (rkF 0), aJ G zpb 5 (fun _ => 0), aJ G zpm 8 (fun _ => 0)]) [0, 1, 2, 3, 4, 5, 6, 7, 8, 9, 10, 11, 12, 13, 14, 15, 16, 17, 18, 19, 20, 21, 22] rfl rfl ?_
  exact pv_vret X hr hlk (fun i => ([zph, zpt, zs, x1.1, x1.2.1, x1.2.2.1, x1.2.2.2.1, x1.2.2.2.2, zt, x2.1, x2.2.1, x2.2.2.1, x2.2.2.2.1, x2.2.2.2.2.1, x2.2.2.2.2.2, zc, x3.1, x3.2.1, x3.2.2.1, x3.2.2.2, zpb, zpm] : List Nat).getD i 0) trivial rfl d_P_init_68
