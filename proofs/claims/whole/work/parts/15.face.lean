theorem c_K_hd_dummy : True := trivial
def f_P_load (hm : Int32) (fi : Nat → Int32) (bf : Nat → Int64) (k : Int32) (u : Int32) : Int32 := if hm = 0 then (-1) else (if (f_S_isNumber k) = 0 then (-2) else (if u < 0 then (-2) else (if u ≤ 3 then (if (fi k.toNatClampNeg) = 0 then (chkV (f_P_withOddParity (bf 0)) (f_P_withOddParity (bf 1)) ) else (-3)) else (-2))))
def g_P_load_zsf (hm : Int32) (fi : Nat → Int32) (k : Int32) (u : Int32) : Nat → Int32 := if hm = 0 then fi else (if (f_S_isNumber k) = 0 then fi else (if u < 0 then fi else (if u ≤ 3 then (if (fi k.toNatClampNeg) = 0 then (upd fi (k.toNatClampNeg) 1) else fi) else fi)))
def g_P_load_zsu (hm : Int32) (fi : Nat → Int32) (us : Nat → Int32) (k : Int32) (u : Int32) : Nat → Int32 := if hm = 0 then us else (if (f_S_isNumber k) = 0 then us else (if u < 0 then us else (if u ≤ 3 then (if (fi k.toNatClampNeg) = 0 then (upd us (k.toNatClampNeg) u) else us) else us)))
def g_P_load_zse (hm : Int32) (fi : Nat → Int32) (ex : Nat → Int32) (k : Int32) (u : Int32) (w : Int32) : Nat → Int32 := if hm = 0 then ex else (if (f_S_isNumber k) = 0 then ex else (if u < 0 then ex else (if u ≤ 3 then (if (fi k.toNatClampNeg) = 0 then (upd ex (k.toNatClampNeg) w) else ex) else ex)))
def g_P_load_zsl (hm : Int32) (fi : Nat → Int32) (lf : Nat → Int64) (bf : Nat → Int64) (k : Int32) (u : Int32) : Nat → Int64 := if hm = 0 then lf else (if (f_S_isNumber k) = 0 then lf else (if u < 0 then lf else (if u ≤ 3 then (if (fi k.toNatClampNeg) = 0 then (vp_updL lf (k.toNatClampNeg) (f_P_withOddParity (bf 0))) else lf) else lf)))
def g_P_load_zsr (hm : Int32) (fi : Nat → Int32) (rg : Nat → Int64) (bf : Nat → Int64) (k : Int32) (u : Int32) : Nat → Int64 := if hm = 0 then rg else (if (f_S_isNumber k) = 0 then rg else (if u < 0 then rg else (if u ≤ 3 then (if (fi k.toNatClampNeg) = 0 then (vp_updL rg (k.toNatClampNeg) (f_P_withOddParity (bf 1))) else rg) else rg)))
abbrev rm_P_load : Room := { frames := 5, cells := 0, slots := 0, locals := 120 }
theorem mf_P_load : MF y_P_load b_P_load 4 (some .int) 3 := ⟨m_149, m_1, by decide, by decide, by decide +kernel⟩
theorem d_P_load_0 : decode b_P_load 0 = .ok (.aload_n 0, 1) := by decide +kernel
theorem d_P_load_1 : decode b_P_load 1 = .ok (.getfield 51, 3) := by decide +kernel
theorem d_P_load_4 : decode b_P_load 4 = .ok (.ifCond .ne 5, 3) := by decide +kernel
theorem d_P_load_7 : decode b_P_load 7 = .ok (.iconst (-1), 1) := by decide +kernel
theorem d_P_load_8 : decode b_P_load 8 = .ok (.ireturn, 1) := by decide +kernel
theorem d_P_load_9 : decode b_P_load 9 = .ok (.iload_n 1, 1) := by decide +kernel
theorem d_P_load_10 : decode b_P_load 10 = .ok (.invokestatic 89, 3) := by decide +kernel
theorem d_P_load_13 : decode b_P_load 13 = .ok (.ifCond .eq 12, 3) := by decide +kernel
theorem d_P_load_16 : decode b_P_load 16 = .ok (.iload_n 2, 1) := by decide +kernel
theorem d_P_load_17 : decode b_P_load 17 = .ok (.ifCond .lt 8, 3) := by decide +kernel
theorem d_P_load_20 : decode b_P_load 20 = .ok (.iload_n 2, 1) := by decide +kernel
theorem d_P_load_21 : decode b_P_load 21 = .ok (.iconst 3, 1) := by decide +kernel
theorem d_P_load_22 : decode b_P_load 22 = .ok (.if_icmp .le 6, 3) := by decide +kernel
theorem d_P_load_25 : decode b_P_load 25 = .ok (.bipush (-2), 2) := by decide +kernel
theorem d_P_load_27 : decode b_P_load 27 = .ok (.ireturn, 1) := by decide +kernel
theorem d_P_load_28 : decode b_P_load 28 = .ok (.aload_n 0, 1) := by decide +kernel
theorem d_P_load_29 : decode b_P_load 29 = .ok (.getfield 20, 3) := by decide +kernel
theorem d_P_load_32 : decode b_P_load 32 = .ok (.getfield 93, 3) := by decide +kernel
theorem d_P_load_35 : decode b_P_load 35 = .ok (.iload_n 1, 1) := by decide +kernel
theorem d_P_load_36 : decode b_P_load 36 = .ok (.baload, 1) := by decide +kernel
theorem d_P_load_37 : decode b_P_load 37 = .ok (.ifCond .eq 6, 3) := by decide +kernel
theorem d_P_load_40 : decode b_P_load 40 = .ok (.bipush (-3), 2) := by decide +kernel
theorem d_P_load_42 : decode b_P_load 42 = .ok (.ireturn, 1) := by decide +kernel
theorem d_P_load_43 : decode b_P_load 43 = .ok (.aload_n 0, 1) := by decide +kernel
theorem d_P_load_44 : decode b_P_load 44 = .ok (.getfield 20, 3) := by decide +kernel
theorem d_P_load_47 : decode b_P_load 47 = .ok (.iload_n 1, 1) := by decide +kernel
theorem d_P_load_48 : decode b_P_load 48 = .ok (.iload_n 2, 1) := by decide +kernel
theorem d_P_load_49 : decode b_P_load 49 = .ok (.iload_n 3, 1) := by decide +kernel
theorem d_P_load_50 : decode b_P_load 50 = .ok (.aload_n 0, 1) := by decide +kernel
theorem d_P_load_51 : decode b_P_load 51 = .ok (.getfield 38, 3) := by decide +kernel
theorem d_P_load_54 : decode b_P_load 54 = .ok (.iconst 0, 1) := by decide +kernel
theorem d_P_load_55 : decode b_P_load 55 = .ok (.laload, 1) := by decide +kernel
theorem d_P_load_56 : decode b_P_load 56 = .ok (.invokestatic 66, 3) := by decide +kernel
theorem d_P_load_59 : decode b_P_load 59 = .ok (.aload_n 0, 1) := by decide +kernel
theorem d_P_load_60 : decode b_P_load 60 = .ok (.getfield 38, 3) := by decide +kernel
theorem d_P_load_63 : decode b_P_load 63 = .ok (.iconst 1, 1) := by decide +kernel
theorem d_P_load_64 : decode b_P_load 64 = .ok (.laload, 1) := by decide +kernel
theorem d_P_load_65 : decode b_P_load 65 = .ok (.invokestatic 66, 3) := by decide +kernel
theorem d_P_load_68 : decode b_P_load 68 = .ok (.invokevirtual 96, 3) := by decide +kernel
theorem d_P_load_71 : decode b_P_load 71 = .ok (.aload_n 0, 1) := by decide +kernel
theorem d_P_load_72 : decode b_P_load 72 = .ok (.getfield 34, 3) := by decide +kernel
theorem d_P_load_75 : decode b_P_load 75 = .ok (.aload_n 0, 1) := by decide +kernel
theorem d_P_load_76 : decode b_P_load 76 = .ok (.getfield 20, 3) := by decide +kernel
theorem d_P_load_79 : decode b_P_load 79 = .ok (.getfield 100, 3) := by decide +kernel
theorem d_P_load_82 : decode b_P_load 82 = .ok (.iload_n 1, 1) := by decide +kernel
theorem d_P_load_83 : decode b_P_load 83 = .ok (.laload, 1) := by decide +kernel
theorem d_P_load_84 : decode b_P_load 84 = .ok (.aload_n 0, 1) := by decide +kernel
theorem d_P_load_85 : decode b_P_load 85 = .ok (.getfield 20, 3) := by decide +kernel
theorem d_P_load_88 : decode b_P_load 88 = .ok (.getfield 103, 3) := by decide +kernel
theorem d_P_load_91 : decode b_P_load 91 = .ok (.iload_n 1, 1) := by decide +kernel
theorem d_P_load_92 : decode b_P_load 92 = .ok (.laload, 1) := by decide +kernel
theorem d_P_load_93 : decode b_P_load 93 = .ok (.invokevirtual 77, 3) := by decide +kernel
theorem d_P_load_96 : decode b_P_load 96 = .ok (.aload_n 0, 1) := by decide +kernel
theorem d_P_load_97 : decode b_P_load 97 = .ok (.getfield 34, 3) := by decide +kernel
theorem d_P_load_100 : decode b_P_load 100 = .ok (.invokevirtual 81, 3) := by decide +kernel
theorem d_P_load_103 : decode b_P_load 103 = .ok (.ireturn, 1) := by decide +kernel
set_option maxRecDepth 100000 in
set_option maxHeartbeats 4000000 in
theorem c_P_load (l : Launch) (G : Gt) (zp zph zpt zs zsf zsu zse zsl zsr zt ztm ztr ztl ztf ztd ztdq zc zcl zclq zcr zcrq zpb zpm : Nat) (hv : Nat → Int64) (ht : Nat → Int32) (hm : Int32) (ml mr : Int64) (fi us ex : Nat → Int32) (lf rg : Nat → Int64) (md : Nat → Int32) (re fl fr : Nat → Int64) (tk cu cv kl kr : Int64) (bf mg : Nat → Int64) (k u w : Int32) (hx : Bo w) : CtI l G y_P_load b_P_load 4 (some .int) rm_P_load Sx [.ref zp, .int k, .int u, .int w] [ob zp 0 [.ref zph, .ref zpt, .int hm, .long ml, .long mr, .ref zs, .ref zt, .ref zc, .ref zpb, .ref zpm], aJ G zph 6 hv, aZ G zpt 6 ht, ob zs 1 [.ref zsf, .ref zsu, .ref zse, .ref zsl, .ref zsr], aZ G zsf 16 fi, aI G zsu 16 us, aZ G zse 16 ex, aJ G zsl 16 lf, aJ G zsr 16 rg, ob zt 2 [.ref ztm, .ref ztr, .ref ztl, .ref ztf, .ref ztd, .long cu, .long cv], aZ G ztm 8 md, aJ G ztr 8 re, aJ G ztl 8 fl, aJ G ztf 8 fr, ob ztd 4 [.ref ztdq, .long tk], aJ G ztdq 16 (rkF tk), ob zc 3 [.ref zcl, .ref zcr], ob zcl 4 [.ref zclq, .long kl], aJ G zclq 16 (rkF kl), ob zcr 4 [.ref zcrq, .long kr], aJ G zcrq 16 (rkF kr), aJ G zpb 5 bf, aJ G zpm 8 mg] (fun r (_ : Int64 × Int64) => r = f_P_load hm fi bf k u) (fun x => [ob zp 0 [.ref zph, .ref zpt, .int hm, .long ml, .long mr, .ref zs, .ref zt, .ref zc, .ref zpb, .ref zpm], aJ G zph 6 hv, aZ G zpt 6 ht, ob zs 1 [.ref zsf, .ref zsu, .ref zse, .ref zsl, .ref zsr], aZ G zsf 16 (g_P_load_zsf hm fi k u), aI G zsu 16 (g_P_load_zsu hm fi us k u), aZ G zse 16 (g_P_load_zse hm fi ex k u w), aJ G zsl 16 (g_P_load_zsl hm fi lf bf k u), aJ G zsr 16 (g_P_load_zsr hm fi rg bf k u), ob zt 2 [.ref ztm, .ref ztr, .ref ztl, .ref ztf, .ref ztd, .long cu, .long cv], aZ G ztm 8 md, aJ G ztr 8 re, aJ G ztl 8 fl, aJ G ztf 8 fr, ob ztd 4 [.ref ztdq, .long tk], aJ G ztdq 16 (rkF tk), ob zc 3 [.ref zcl, .ref zcr], ob zcl 4 [.ref zclq, .long x.1], aJ G zclq 16 (rkF x.1), ob zcr 4 [.ref zcrq, .long x.2], aJ G zcrq 16 (rkF x.2), aJ G zpb 5 bf, aJ G zpm 8 mg]) 0 0 := by
  refine Ct.of (Qp := fun A => va_Qi _ (qB G A _) A) Sx_stb (by decide) (Nat.le_of_ble_eq_true rfl) ?_
  intro p e s m args below meth c A X hE hr hlk hini
  refine pv_eql (ll2 := [(0, .ref zp), (1, .int k), (2, .int u), (3, .int w)]) rfl ?_
  refine pv_aload_n X 0 d_P_load_0 rfl ?_
  refine pv_get X 0 2 u_P_in m_117 rfl rfl (by decide) ⟨rfl, rfl, rfl⟩ rfl d_P_load_1 ?_
  refine pv_if_ne X 9 d_P_load_4 rfl (fun h1 => ?_) (fun h1n => ?_)
  · skip
    refine pv_iload_n X 1 d_P_load_9 rfl ?_
    refine pv_calli0 X (rn_S X (c_S_isNumber l G k) trivial mf_S_isNumber m_150 m_151 rfl (by decide) (by decide) rfl (Nat.le_of_ble_eq_true rfl) d_P_load_10) ?_
    refine pv_if_eq X 25 d_P_load_13 rfl (fun h3 => ?_) (fun h3n => ?_)
    · skip
      refine pv_bipush X (-2) d_P_load_25 (by decide) ?_
      exact pv_iret X hr hlk (kl, kr) (by show _ = f_P_load hm fi bf k u; simp only [f_P_load, if_neg h1, if_pos h3]) (by simp only [g_P_load_zsf, g_P_load_zsu, g_P_load_zse, g_P_load_zsl, g_P_load_zsr, if_neg h1, if_pos h3]) d_P_load_27
    · skip
      refine pv_iload_n X 2 d_P_load_16 rfl ?_
      refine pv_if_lt X 25 d_P_load_17 rfl (fun h4 => ?_) (fun h4n => ?_)
      · skip
        refine pv_bipush X (-2) d_P_load_25 (by decide) ?_
        exact pv_iret X hr hlk (kl, kr) (by show _ = f_P_load hm fi bf k u; simp only [f_P_load, if_neg h1, if_neg h3n, if_pos h4]) (by simp only [g_P_load_zsf, g_P_load_zsu, g_P_load_zse, g_P_load_zsl, g_P_load_zsr, if_neg h1, if_neg h3n, if_pos h4]) d_P_load_27
      · skip
        refine pv_iload_n X 2 d_P_load_20 rfl ?_
        refine pv_iconst X 3 d_P_load_21 (by decide) ?_
        refine pv_icmp_le X 28 d_P_load_22 rfl (fun h5 => ?_) (fun h5n => ?_)
        · skip
          refine pv_aload_n X 0 d_P_load_28 rfl ?_
          refine pv_get X 0 5 u_P_in m_120 rfl rfl (by decide) ⟨rfl, rfl, rfl⟩ rfl d_P_load_29 ?_
          refine pv_get X 3 0 u_S_in m_31 rfl rfl (by decide) ⟨rfl, rfl, rfl⟩ rfl d_P_load_32 ?_
          refine pv_iload_n X 1 d_P_load_35 rfl ?_
          refine pv_zald X 4 rfl (S_in h3n) d_P_load_36 ?_
          refine pv_if_eq X 43 d_P_load_37 rfl (fun h6 => ?_) (fun h6n => ?_)
          · skip
            refine pv_aload_n X 0 d_P_load_43 rfl ?_
            refine pv_get X 0 5 u_P_in m_120 rfl rfl (by decide) ⟨rfl, rfl, rfl⟩ rfl d_P_load_44 ?_
            refine pv_iload_n X 1 d_P_load_47 rfl ?_
            refine pv_iload_n X 2 d_P_load_48 rfl ?_
            refine pv_iload_n X 3 d_P_load_49 rfl ?_
            refine pv_aload_n X 0 d_P_load_50 rfl ?_
            refine pv_get X 0 8 u_P_in m_123 rfl rfl (by decide) ⟨rfl, rfl, rfl⟩ rfl d_P_load_51 ?_
            refine pv_iconst X 0 d_P_load_54 (by decide) ?_
            refine pv_lald X 21 rfl (by unfold vp_in; decide) d_P_load_55 ?_
            refine pv_topl (bf 0) rfl ?_
            refine pv_calll0 X (rn_S X (c_P_withOddParity l G (bf 0)) trivial mf_P_withOddParity m_153 m_154 rfl (by decide) (by decide) rfl (Nat.le_of_ble_eq_true rfl) d_P_load_56) ?_
            refine pv_aload_n X 0 d_P_load_59 rfl ?_
            refine pv_get X 0 8 u_P_in m_123 rfl rfl (by decide) ⟨rfl, rfl, rfl⟩ rfl d_P_load_60 ?_
            refine pv_iconst X 1 d_P_load_63 (by decide) ?_
            refine pv_lald X 21 rfl (by unfold vp_in; decide) d_P_load_64 ?_
            refine pv_topl (bf 1) rfl ?_
            refine pv_calll0 X (rn_S X (c_P_withOddParity l G (bf 1)) trivial mf_P_withOddParity m_153 m_154 rfl (by decide) (by decide) rfl (Nat.le_of_ble_eq_true rfl) d_P_load_65) ?_
            refine pv_callv X (Cut.mk (w0 := [ob zs 1 [.ref zsf, .ref zsu, .ref zse, .ref zsl, .ref zsr], aZ G zsf 16 fi, aI G zsu 16 us, aZ G zse 16 ex, aJ G zsl 16 lf, aJ G zsr 16 rg]) (wr := [ob zp 0 [.ref zph, .ref zpt, .int hm, .long ml, .long mr, .ref zs, .ref zt, .ref zc, .ref zpb, .ref zpm], aJ G zph 6 hv, aZ G zpt 6 ht, ob zt 2 [.ref ztm, .ref ztr, .ref ztl, .ref ztf, .ref ztd, .long cu, .long cv], aZ G ztm 8 md, aJ G ztr 8 re, aJ G ztl 8 fl, aJ G ztf 8 fr, ob ztd 4 [.ref ztdq, .long tk], aJ G ztdq 16 (rkF tk), ob zc 3 [.ref zcl, .ref zcr], ob zcl 4 [.ref zclq, .long kl], aJ G zclq 16 (rkF kl), ob zcr 4 [.ref zcrq, .long kr], aJ G zcrq 16 (rkF kr), aJ G zpb 5 bf, aJ G zpm 8 mg]) [3, 4, 5, 6, 7, 8] [0, 1, 2, 9, 10, 11, 12, 13, 14, 15, 16, 17, 18, 19, 20, 21, 22] rfl rfl rfl rfl rfl) (rn_V X (c_S_fill l G zs zsf zsu zse zsl zsr fi us ex lf rg k u w (f_P_withOddParity (bf 0)) (f_P_withOddParity (bf 1)) (S_in h3n) hx) trivial mf_S_fill m_163 m_164 m_165 rfl 0 rfl rfl rfl (by decide) (by decide) rfl (Nat.le_of_ble_eq_true rfl) d_P_load_68) (fun x9 e9 => ?_)
            refine pv_ord (ws2 := [ob zp 0 [.ref zph, .ref zpt, .int hm, .long ml, .long mr, .ref zs, .ref zt, .ref zc, .ref zpb, .ref zpm], aJ G zph 6 hv, aZ G zpt 6 ht, ob zs 1 [.ref zsf, .ref zsu, .ref zse, .ref zsl, .ref zsr], aZ G zsf 16 (upd fi (k.toNatClampNeg) 1), aI G zsu 16 (upd us (k.toNatClampNeg) u), aZ G zse 16 (upd ex (k.toNatClampNeg) w), aJ G zsl 16 (vp_updL lf (k.toNatClampNeg) (f_P_withOddParity (bf 0))), aJ G zsr 16 (vp_updL rg (k.toNatClampNeg) (f_P_withOddParity (bf 1))), ob zt 2 [.ref ztm, .ref ztr, .ref ztl, .ref ztf, .ref ztd, .long cu, .long cv], aZ G ztm 8 md, aJ G ztr 8 re, aJ G ztl 8 fl, aJ G ztf 8 fr, ob ztd 4 [.ref ztdq, .long tk], aJ G ztdq 16 (rkF tk), ob zc 3 [.ref zcl, .ref zcr], ob zcl 4 [.ref zclq, .long kl], aJ G zclq 16 (rkF kl), ob zcr 4 [.ref zcrq, .long kr], aJ G zcrq 16 (rkF kr), aJ G zpb 5 bf, aJ G zpm 8 mg]) [0, 1, 2, 17, 18, 19, 20, 21, 22, 3, 4, 5, 6, 7, 8, 9, 10, 11, 12, 13, 14, 15, 16] rfl rfl ?_
            refine pv_aload_n X 0 d_P_load_71 rfl ?_
            refine pv_get X 0 7 u_P_in m_122 rfl rfl (by decide) ⟨rfl, rfl, rfl⟩ rfl d_P_load_72 ?_
            refine pv_aload_n X 0 d_P_load_75 rfl ?_
            refine pv_get X 0 5 u_P_in m_120 rfl rfl (by decide) ⟨rfl, rfl, rfl⟩ rfl d_P_load_76 ?_
            refine pv_get X 3 3 u_S_in m_37 rfl rfl (by decide) ⟨rfl, rfl, rfl⟩ rfl d_P_load_79 ?_
            refine pv_iload_n X 1 d_P_load_82 rfl ?_
            refine pv_lald X 7 rfl (S_in h3n) d_P_load_83 ?_
            refine pv_topl (f_P_withOddParity (bf 0)) pk_uLs ?_
            refine pv_aload_n X 0 d_P_load_84 rfl ?_
            refine pv_get X 0 5 u_P_in m_120 rfl rfl (by decide) ⟨rfl, rfl, rfl⟩ rfl d_P_load_85 ?_
            refine pv_get X 3 4 u_S_in m_39 rfl rfl (by decide) ⟨rfl, rfl, rfl⟩ rfl d_P_load_88 ?_
            refine pv_iload_n X 1 d_P_load_91 rfl ?_
            refine pv_lald X 8 rfl (S_in h3n) d_P_load_92 ?_
            refine pv_topl (f_P_withOddParity (bf 1)) pk_uLs ?_
            refine pv_callv X (Cut.mk (w0 := [ob zc 3 [.ref zcl, .ref zcr], ob zcl 4 [.ref zclq, .long kl], aJ G zclq 16 (rkF kl), ob zcr 4 [.ref zcrq, .long kr], aJ G zcrq 16 (rkF kr)]) (wr := [ob zp 0 [.ref zph, .ref zpt, .int hm, .long ml, .long mr, .ref zs, .ref zt, .ref zc, .ref zpb, .ref zpm], aJ G zph 6 hv, aZ G zpt 6 ht, ob zs 1 [.ref zsf, .ref zsu, .ref zse, .ref zsl, .ref zsr], aZ G zsf 16 (upd fi (k.toNatClampNeg) 1), aI G zsu 16 (upd us (k.toNatClampNeg) u), aZ G zse 16 (upd ex (k.toNatClampNeg) w), aJ G zsl 16 (vp_updL lf (k.toNatClampNeg) (f_P_withOddParity (bf 0))), aJ G zsr 16 (vp_updL rg (k.toNatClampNeg) (f_P_withOddParity (bf 1))), ob zt 2 [.ref ztm, .ref ztr, .ref ztl, .ref ztf, .ref ztd, .long cu, .long cv], aZ G ztm 8 md, aJ G ztr 8 re, aJ G ztl 8 fl, aJ G ztf 8 fr, ob ztd 4 [.ref ztdq, .long tk], aJ G ztdq 16 (rkF tk), aJ G zpb 5 bf, aJ G zpm 8 mg]) [16, 17, 18, 19, 20] [0, 1, 2, 3, 4, 5, 6, 7, 8, 9, 10, 11, 12, 13, 14, 15, 21, 22] rfl rfl rfl rfl rfl) (rn_V X (c_C_take l G zc zcl zclq zcr zcrq kl kr (f_P_withOddParity (bf 0)) (f_P_withOddParity (bf 1))) hE mf_C_take m_167 m_168 m_169 rfl 0 rfl rfl rfl (by decide) (by decide) rfl (Nat.le_of_ble_eq_true rfl) d_P_load_93) (fun x10 e10 => ?_)
            refine pv_ord (ws2 := [ob zp 0 [.ref zph, .ref zpt, .int hm, .long ml, .long mr, .ref zs, .ref zt, .ref zc, .ref zpb, .ref zpm], aJ G zph 6 hv, aZ G zpt 6 ht, ob zs 1 [.ref zsf, .ref zsu, .ref zse, .ref zsl, .ref zsr], aZ G zsf 16 (upd fi (k.toNatClampNeg) 1), aI G zsu 16 (upd us (k.toNatClampNeg) u), aZ G zse 16 (upd ex (k.toNatClampNeg) w), aJ G zsl 16 (vp_updL lf (k.toNatClampNeg) (f_P_withOddParity (bf 0))), aJ G zsr 16 (vp_updL rg (k.toNatClampNeg) (f_P_withOddParity (bf 1))), ob zt 2 [.ref ztm, .ref ztr, .ref ztl, .ref ztf, .ref ztd, .long cu, .long cv], aZ G ztm 8 md, aJ G ztr 8 re, aJ G ztl 8 fl, aJ G ztf 8 fr, ob ztd 4 [.ref ztdq, .long tk], aJ G ztdq 16 (rkF tk), ob zc 3 [.ref zcl, .ref zcr], ob zcl 4 [.ref zclq, .long (f_P_withOddParity (bf 0))], aJ G zclq 16 (rkF (f_P_withOddParity (bf 0))), ob zcr 4 [.ref zcrq, .long (f_P_withOddParity (bf 1))], aJ G zcrq 16 (rkF (f_P_withOddParity (bf 1))), aJ G zpb 5 bf, aJ G zpm 8 mg]) [0, 1, 2, 3, 4, 5, 6, 7, 8, 9, 10, 11, 12, 13, 14, 15, 18, 19, 20, 21, 22, 16, 17] rfl rfl ?_
            refine pv_aload_n X 0 d_P_load_96 rfl ?_
            refine pv_get X 0 7 u_P_in m_122 rfl rfl (by decide) ⟨rfl, rfl, rfl⟩ rfl d_P_load_97 ?_
            refine pv_calliE X (Cut.mk (w0 := [ob zc 3 [.ref zcl, .ref zcr], ob zcl 4 [.ref zclq, .long (f_P_withOddParity (bf 0))], aJ G zclq 16 (rkF (f_P_withOddParity (bf 0))), ob zcr 4 [.ref zcrq, .long (f_P_withOddParity (bf 1))], aJ G zcrq 16 (rkF (f_P_withOddParity (bf 1)))]) (wr := [ob zp 0 [.ref zph, .ref zpt, .int hm, .long ml, .long mr, .ref zs, .ref zt, .ref zc, .ref zpb, .ref zpm], aJ G zph 6 hv, aZ G zpt 6 ht, ob zs 1 [.ref zsf, .ref zsu, .ref zse, .ref zsl, .ref zsr], aZ G zsf 16 (upd fi (k.toNatClampNeg) 1), aI G zsu 16 (upd us (k.toNatClampNeg) u), aZ G zse 16 (upd ex (k.toNatClampNeg) w), aJ G zsl 16 (vp_updL lf (k.toNatClampNeg) (f_P_withOddParity (bf 0))), aJ G zsr 16 (vp_updL rg (k.toNatClampNeg) (f_P_withOddParity (bf 1))), ob zt 2 [.ref ztm, .ref ztr, .ref ztl, .ref ztf, .ref ztd, .long cu, .long cv], aZ G ztm 8 md, aJ G ztr 8 re, aJ G ztl 8 fl, aJ G ztf 8 fr, ob ztd 4 [.ref ztdq, .long tk], aJ G ztdq 16 (rkF tk), aJ G zpb 5 bf, aJ G zpm 8 mg]) [16, 17, 18, 19, 20] [0, 1, 2, 3, 4, 5, 6, 7, 8, 9, 10, 11, 12, 13, 14, 15, 21, 22] rfl rfl rfl rfl rfl) (rn_V X (c_C_checkValue l G zc zcl zclq zcr zcrq (f_P_withOddParity (bf 0)) (f_P_withOddParity (bf 1)) ) hE mf_C_checkValue m_188 m_189 m_190 rfl 0 rfl rfl rfl (by decide) (by decide) rfl (Nat.le_of_ble_eq_true rfl) d_P_load_100) (fun x11 => ?_)
            refine pv_ord (ws2 := [ob zp 0 [.ref zph, .ref zpt, .int hm, .long ml, .long mr, .ref zs, .ref zt, .ref zc, .ref zpb, .ref zpm], aJ G zph 6 hv, aZ G zpt 6 ht, ob zs 1 [.ref zsf, .ref zsu, .ref zse, .ref zsl, .ref zsr], aZ G zsf 16 (upd fi (k.toNatClampNeg) 1), aI G zsu 16 (upd us (k.toNatClampNeg) u), aZ G zse 16 (upd ex (k.toNatClampNeg) w), aJ G zsl 16 (vp_updL lf (k.toNatClampNeg) (f_P_withOddParity (bf 0))), aJ G zsr 16 (vp_updL rg (k.toNatClampNeg) (f_P_withOddParity (bf 1))), ob zt 2 [.ref ztm, .ref ztr, .ref ztl, .ref ztf, .ref ztd, .long cu, .long cv], aZ G ztm 8 md, aJ G ztr 8 re, aJ G ztl 8 fl, aJ G ztf 8 fr, ob ztd 4 [.ref ztdq, .long tk], aJ G ztdq 16 (rkF tk), ob zc 3 [.ref zcl, .ref zcr], ob zcl 4 [.ref zclq, .long (f_P_withOddParity (bf 0))], aJ G zclq 16 (rkF (f_P_withOddParity (bf 0))), ob zcr 4 [.ref zcrq, .long (f_P_withOddParity (bf 1))], aJ G zcrq 16 (rkF (f_P_withOddParity (bf 1))), aJ G zpb 5 bf, aJ G zpm 8 mg]) [0, 1, 2, 3, 4, 5, 6, 7, 8, 9, 10, 11, 12, 13, 14, 15, 18, 19, 20, 21, 22, 16, 17] rfl rfl ?_
            exact pv_iret X hr hlk (f_P_withOddParity (bf 0), f_P_withOddParity (bf 1)) (by show _ = f_P_load hm fi bf k u; simp only [f_P_load, if_neg h1, if_neg h3n, if_neg h4n, if_pos h5, if_pos h6]) (by simp only [g_P_load_zsf, g_P_load_zsu, g_P_load_zse, g_P_load_zsl, g_P_load_zsr, if_neg h1, if_neg h3n, if_neg h4n, if_pos h5, if_pos h6]) d_P_load_103
          · skip
            refine pv_bipush X (-3) d_P_load_40 (by decide) ?_
            exact pv_iret X hr hlk (kl, kr) (by show _ = f_P_load hm fi bf k u; simp only [f_P_load, if_neg h1, if_neg h3n, if_neg h4n, if_pos h5, if_neg h6n]) (by simp only [g_P_load_zsf, g_P_load_zsu, g_P_load_zse, g_P_load_zsl, g_P_load_zsr, if_neg h1, if_neg h3n, if_neg h4n, if_pos h5, if_neg h6n]) d_P_load_42
        · skip
          refine pv_bipush X (-2) d_P_load_25 (by decide) ?_
          exact pv_iret X hr hlk (kl, kr) (by show _ = f_P_load hm fi bf k u; simp only [f_P_load, if_neg h1, if_neg h3n, if_neg h4n, if_neg h5n]) (by simp only [g_P_load_zsf, g_P_load_zsu, g_P_load_zse, g_P_load_zsl, g_P_load_zsr, if_neg h1, if_neg h3n, if_neg h4n, if_neg h5n]) d_P_load_27
  · skip
    refine pv_iconst X (-1) d_P_load_7 (by decide) ?_
    exact pv_iret X hr hlk (kl, kr) (by show _ = f_P_load hm fi bf k u; simp only [f_P_load, if_pos h1n]) (by simp only [g_P_load_zsf, g_P_load_zsu, g_P_load_zse, g_P_load_zsl, g_P_load_zsr, if_pos h1n]) d_P_load_8
def f_P_clear (hm : Int32) (fi : Nat → Int32) (k : Int32) : Int32 := if (f_P_refusalOfSlot hm fi k) = 0 then 0 else (f_P_refusalOfSlot hm fi k)
def g_P_clear_zsf (hm : Int32) (fi : Nat → Int32) (k : Int32) : Nat → Int32 := if (f_P_refusalOfSlot hm fi k) = 0 then (upd fi (k.toNatClampNeg) 0) else fi
def g_P_clear_zsu (hm : Int32) (fi : Nat → Int32) (us : Nat → Int32) (k : Int32) : Nat → Int32 := if (f_P_refusalOfSlot hm fi k) = 0 then (upd us (k.toNatClampNeg) 0) else us
def g_P_clear_zse (hm : Int32) (fi : Nat → Int32) (ex : Nat → Int32) (k : Int32) : Nat → Int32 := if (f_P_refusalOfSlot hm fi k) = 0 then (upd ex (k.toNatClampNeg) 0) else ex
def g_P_clear_zsl (hm : Int32) (fi : Nat → Int32) (lf : Nat → Int64) (k : Int32) : Nat → Int64 := if (f_P_refusalOfSlot hm fi k) = 0 then (vp_updL lf (k.toNatClampNeg) 0) else lf
def g_P_clear_zsr (hm : Int32) (fi : Nat → Int32) (rg : Nat → Int64) (k : Int32) : Nat → Int64 := if (f_P_refusalOfSlot hm fi k) = 0 then (vp_updL rg (k.toNatClampNeg) 0) else rg
abbrev rm_P_clear : Room := { frames := 2, cells := 0, slots := 0, locals := 48 }
theorem mf_P_clear : MF y_P_clear b_P_clear 3 (some .int) 1 := ⟨m_221, m_1, by decide, by decide, by decide +kernel⟩
theorem d_P_clear_0 : decode b_P_clear 0 = .ok (.aload_n 0, 1) := by decide +kernel
theorem d_P_clear_1 : decode b_P_clear 1 = .ok (.iload_n 1, 1) := by decide +kernel
theorem d_P_clear_2 : decode b_P_clear 2 = .ok (.invokevirtual 106, 3) := by decide +kernel
theorem d_P_clear_5 : decode b_P_clear 5 = .ok (.istore_n 2, 1) := by decide +kernel
theorem d_P_clear_6 : decode b_P_clear 6 = .ok (.iload_n 2, 1) := by decide +kernel
theorem d_P_clear_7 : decode b_P_clear 7 = .ok (.ifCond .eq 5, 3) := by decide +kernel
theorem d_P_clear_10 : decode b_P_clear 10 = .ok (.iload_n 2, 1) := by decide +kernel
theorem d_P_clear_11 : decode b_P_clear 11 = .ok (.ireturn, 1) := by decide +kernel
theorem d_P_clear_12 : decode b_P_clear 12 = .ok (.aload_n 0, 1) := by decide +kernel
theorem d_P_clear_13 : decode b_P_clear 13 = .ok (.getfield 20, 3) := by decide +kernel
theorem d_P_clear_16 : decode b_P_clear 16 = .ok (.iload_n 1, 1) := by decide +kernel
theorem d_P_clear_17 : decode b_P_clear 17 = .ok (.invokevirtual 110, 3) := by decide +kernel
theorem d_P_clear_20 : decode b_P_clear 20 = .ok (.iconst 0, 1) := by decide +kernel
theorem d_P_clear_21 : decode b_P_clear 21 = .ok (.ireturn, 1) := by decide +kernel
set_option maxRecDepth 100000 in
set_option maxHeartbeats 4000000 in
theorem c_P_clear (l : Launch) (G : Gt) (zp zph zpt zs zsf zsu zse zsl zsr zt ztm ztr ztl ztf ztd ztdq zc zcl zclq zcr zcrq zpb zpm : Nat) (hv : Nat → Int64) (ht : Nat → Int32) (hm : Int32) (ml mr : Int64) (fi us ex : Nat → Int32) (lf rg : Nat → Int64) (md : Nat → Int32) (re fl fr : Nat → Int64) (tk cu cv kl kr : Int64) (bf mg : Nat → Int64) (k : Int32) : CtI l G y_P_clear b_P_clear 3 (some .int) rm_P_clear Sx [.ref zp, .int k] [ob zp 0 [.ref zph, .ref zpt, .int hm, .long ml, .long mr, .ref zs, .ref zt, .ref zc, .ref zpb, .ref zpm], aJ G zph 6 hv, aZ G zpt 6 ht, ob zs 1 [.ref zsf, .ref zsu, .ref zse, .ref zsl, .ref zsr], aZ G zsf 16 fi, aI G zsu 16 us, aZ G zse 16 ex, aJ G zsl 16 lf, aJ G zsr 16 rg, ob zt 2 [.ref ztm, .ref ztr, .ref ztl, .ref ztf, .ref ztd, .long cu, .long cv], aZ G ztm 8 md, aJ G ztr 8 re, aJ G ztl 8 fl, aJ G ztf 8 fr, ob ztd 4 [.ref ztdq, .long tk], aJ G ztdq 16 (rkF tk), ob zc 3 [.ref zcl, .ref zcr], ob zcl 4 [.ref zclq, .long kl], aJ G zclq 16 (rkF kl), ob zcr 4 [.ref zcrq, .long kr], aJ G zcrq 16 (rkF kr), aJ G zpb 5 bf, aJ G zpm 8 mg] (fun r (_ : Unit) => r = f_P_clear hm fi k) (fun _ => [ob zp 0 [.ref zph, .ref zpt, .int hm, .long ml, .long mr, .ref zs, .ref zt, .ref zc, .ref zpb, .ref zpm], aJ G zph 6 hv, aZ G zpt 6 ht, ob zs 1 [.ref zsf, .ref zsu, .ref zse, .ref zsl, .ref zsr], aZ G zsf 16 (g_P_clear_zsf hm fi k), aI G zsu 16 (g_P_clear_zsu hm fi us k), aZ G zse 16 (g_P_clear_zse hm fi ex k), aJ G zsl 16 (g_P_clear_zsl hm fi lf k), aJ G zsr 16 (g_P_clear_zsr hm fi rg k), ob zt 2 [.ref ztm, .ref ztr, .ref ztl, .ref ztf, .ref ztd, .long cu, .long cv], aZ G ztm 8 md, aJ G ztr 8 re, aJ G ztl 8 fl, aJ G ztf 8 fr, ob ztd 4 [.ref ztdq, .long tk], aJ G ztdq 16 (rkF tk), ob zc 3 [.ref zcl, .ref zcr], ob zcl 4 [.ref zclq, .long kl], aJ G zclq 16 (rkF kl), ob zcr 4 [.ref zcrq, .long kr], aJ G zcrq 16 (rkF kr), aJ G zpb 5 bf, aJ G zpm 8 mg]) 0 0 := by
  refine Ct.of (Qp := fun A => va_Qi _ (qB G A _) A) Sx_stb (by decide) (Nat.le_of_ble_eq_true rfl) ?_
  intro p e s m args below meth c A X hE hr hlk hini
  refine pv_eql (ll2 := [(0, .ref zp), (1, .int k)]) rfl ?_
  refine pv_aload_n X 0 d_P_clear_0 rfl ?_
  refine pv_iload_n X 1 d_P_clear_1 rfl ?_
  refine pv_calliE X (Cut.all _) (rn_V X (c_P_refusalOfSlot l G zp zph zpt zs zsf zsu zse zsl zsr zt ztm ztr ztl ztf ztd ztdq zc zcl zclq zcr zcrq zpb zpm hv ht hm ml mr fi us ex lf rg md re fl fr tk cu cv kl kr bf mg k ) hE mf_P_refusalOfSlot m_222 m_224 ms_1 rfl 0 rfl rfl rfl (by decide) (by decide) rfl (Nat.le_of_ble_eq_true rfl) d_P_clear_2) (fun x1 => ?_)
  refine pv_eqw (ws2 := [ob zp 0 [.ref zph, .ref zpt, .int hm, .long ml, .long mr, .ref zs, .ref zt, .ref zc, .ref zpb, .ref zpm], aJ G zph 6 hv, aZ G zpt 6 ht, ob zs 1 [.ref zsf, .ref zsu, .ref zse, .ref zsl, .ref zsr], aZ G zsf 16 fi, aI G zsu 16 us, aZ G zse 16 ex, aJ G zsl 16 lf, aJ G zsr 16 rg, ob zt 2 [.ref ztm, .ref ztr, .ref ztl, .ref ztf, .ref ztd, .long cu, .long cv], aZ G ztm 8 md, aJ G ztr 8 re, aJ G ztl 8 fl, aJ G ztf 8 fr, ob ztd 4 [.ref ztdq, .long tk], aJ G ztdq 16 (rkF tk), ob zc 3 [.ref zcl, .ref zcr], ob zcl 4 [.ref zclq, .long kl], aJ G zclq 16 (rkF kl), ob zcr 4 [.ref zcrq, .long kr], aJ G zcrq 16 (rkF kr), aJ G zpb 5 bf, aJ G zpm 8 mg]) rfl ?_
  refine pv_istore_n (ll2 := [(2, .int (f_P_refusalOfSlot hm fi k)), (0, .ref zp), (1, .int k)]) X d_P_clear_5 (by decide) rfl ?_
  refine pv_iload_n X 0 d_P_clear_6 rfl ?_
  refine pv_if_eq X 12 d_P_clear_7 rfl (fun h2 => ?_) (fun h2n => ?_)
  · skip
    refine pv_aload_n X 1 d_P_clear_12 rfl ?_
    refine pv_get X 0 5 u_P_in m_120 rfl rfl (by decide) ⟨rfl, rfl, rfl⟩ rfl d_P_clear_13 ?_
    refine pv_iload_n X 2 d_P_clear_16 rfl ?_
    refine pv_callv X (Cut.mk (w0 := [ob zs 1 [.ref zsf, .ref zsu, .ref zse, .ref zsl, .ref zsr], aZ G zsf 16 fi, aI G zsu 16 us, aZ G zse 16 ex, aJ G zsl 16 lf, aJ G zsr 16 rg]) (wr := [ob zp 0 [.ref zph, .ref zpt, .int hm, .long ml, .long mr, .ref zs, .ref zt, .ref zc, .ref zpb, .ref zpm], aJ G zph 6 hv, aZ G zpt 6 ht, ob zt 2 [.ref ztm, .ref ztr, .ref ztl, .ref ztf, .ref ztd, .long cu, .long cv], aZ G ztm 8 md, aJ G ztr 8 re, aJ G ztl 8 fl, aJ G ztf 8 fr, ob ztd 4 [.ref ztdq, .long tk], aJ G ztdq 16 (rkF tk), ob zc 3 [.ref zcl, .ref zcr], ob zcl 4 [.ref zclq, .long kl], aJ G zclq 16 (rkF kl), ob zcr 4 [.ref zcrq, .long kr], aJ G zcrq 16 (rkF kr), aJ G zpb 5 bf, aJ G zpm 8 mg]) [3, 4, 5, 6, 7, 8] [0, 1, 2, 9, 10, 11, 12, 13, 14, 15, 16, 17, 18, 19, 20, 21, 22] rfl rfl rfl rfl rfl) (rn_V X (c_S_empty l G zs zsf zsu zse zsl zsr fi us ex lf rg k (refusal_ok h2)) trivial mf_S_empty m_226 m_227 m_228 rfl 0 rfl rfl rfl (by decide) (by decide) rfl (Nat.le_of_ble_eq_true rfl) d_P_clear_17) (fun x3 e3 => ?_)
    refine pv_ord (ws2 := [ob zp 0 [.ref zph, .ref zpt, .int hm, .long ml, .long mr, .ref zs, .ref zt, .ref zc, .ref zpb, .ref zpm], aJ G zph 6 hv, aZ G zpt 6 ht, ob zs 1 [.ref zsf, .ref zsu, .ref zse, .ref zsl, .ref zsr], aZ G zsf 16 (upd fi (k.toNatClampNeg) 0), aI G zsu 16 (upd us (k.toNatClampNeg) 0), aZ G zse 16 (upd ex (k.toNatClampNeg) 0), aJ G zsl 16 (vp_updL lf (k.toNatClampNeg) 0), aJ G zsr 16 (vp_updL rg (k.toNatClampNeg) 0), ob zt 2 [.ref ztm, .ref ztr, .ref ztl, .ref ztf, .ref ztd, .long cu, .long cv], aZ G ztm 8 md, aJ G ztr 8 re, aJ G ztl 8 fl, aJ G ztf 8 fr, ob ztd 4 [.ref ztdq, .long tk], aJ G ztdq 16 (rkF tk), ob zc 3 [.ref zcl, .ref zcr], ob zcl 4 [.ref zclq, .long kl], aJ G zclq 16 (rkF kl), ob zcr 4 [.ref zcrq, .long kr], aJ G zcrq 16 (rkF kr), aJ G zpb 5 bf, aJ G zpm 8 mg]) [0, 1, 2, 17, 18, 19, 20, 21, 22, 3, 4, 5, 6, 7, 8, 9, 10, 11, 12, 13, 14, 15, 16] rfl rfl ?_
    refine pv_iconst X 0 d_P_clear_20 (by decide) ?_
    exact pv_iret X hr hlk () (by show _ = f_P_clear hm fi k; simp only [f_P_clear, if_pos h2]) (by simp only [g_P_clear_zsf, g_P_clear_zsu, g_P_clear_zse, g_P_clear_zsl, g_P_clear_zsr, if_pos h2]) d_P_clear_21
  · skip
    refine pv_iload_n X 0 d_P_clear_10 rfl ?_
    exact pv_iret X hr hlk () (by show _ = f_P_clear hm fi k; simp only [f_P_clear, if_neg h2n]) (by simp only [g_P_clear_zsf, g_P_clear_zsu, g_P_clear_zse, g_P_clear_zsl, g_P_clear_zsr, if_neg h2n]) d_P_clear_11
def f_P_usage (hm : Int32) (fi : Nat → Int32) (us : Nat → Int32) (k : Int32) : Int32 := if (f_P_refusalOfSlot hm fi k) = 0 then (us k.toNatClampNeg) else (f_P_refusalOfSlot hm fi k)
abbrev rm_P_usage : Room := { frames := 2, cells := 0, slots := 0, locals := 41 }
theorem mf_P_usage : MF y_P_usage b_P_usage 3 (some .int) 1 := ⟨m_234, m_1, by decide, by decide, by decide +kernel⟩
theorem d_P_usage_0 : decode b_P_usage 0 = .ok (.aload_n 0, 1) := by decide +kernel
theorem d_P_usage_1 : decode b_P_usage 1 = .ok (.iload_n 1, 1) := by decide +kernel
theorem d_P_usage_2 : decode b_P_usage 2 = .ok (.invokevirtual 106, 3) := by decide +kernel
theorem d_P_usage_5 : decode b_P_usage 5 = .ok (.istore_n 2, 1) := by decide +kernel
theorem d_P_usage_6 : decode b_P_usage 6 = .ok (.iload_n 2, 1) := by decide +kernel
theorem d_P_usage_7 : decode b_P_usage 7 = .ok (.ifCond .eq 5, 3) := by decide +kernel
theorem d_P_usage_10 : decode b_P_usage 10 = .ok (.iload_n 2, 1) := by decide +kernel
theorem d_P_usage_11 : decode b_P_usage 11 = .ok (.ireturn, 1) := by decide +kernel
theorem d_P_usage_12 : decode b_P_usage 12 = .ok (.aload_n 0, 1) := by decide +kernel
theorem d_P_usage_13 : decode b_P_usage 13 = .ok (.getfield 20, 3) := by decide +kernel
theorem d_P_usage_16 : decode b_P_usage 16 = .ok (.getfield 114, 3) := by decide +kernel
theorem d_P_usage_19 : decode b_P_usage 19 = .ok (.iload_n 1, 1) := by decide +kernel
theorem d_P_usage_20 : decode b_P_usage 20 = .ok (.iaload, 1) := by decide +kernel
theorem d_P_usage_21 : decode b_P_usage 21 = .ok (.ireturn, 1) := by decide +kernel
set_option maxRecDepth 100000 in
set_option maxHeartbeats 4000000 in
theorem c_P_usage (l : Launch) (G : Gt) (zp zph zpt zs zsf zsu zse zsl zsr zt ztm ztr ztl ztf ztd ztdq zc zcl zclq zcr zcrq zpb zpm : Nat) (hv : Nat → Int64) (ht : Nat → Int32) (hm : Int32) (ml mr : Int64) (fi us ex : Nat → Int32) (lf rg : Nat → Int64) (md : Nat → Int32) (re fl fr : Nat → Int64) (tk cu cv kl kr : Int64) (bf mg : Nat → Int64) (k : Int32) : CtI l G y_P_usage b_P_usage 3 (some .int) rm_P_usage Sx [.ref zp, .int k] [ob zp 0 [.ref zph, .ref zpt, .int hm, .long ml, .long mr, .ref zs, .ref zt, .ref zc, .ref zpb, .ref zpm], aJ G zph 6 hv, aZ G zpt 6 ht, ob zs 1 [.ref zsf, .ref zsu, .ref zse, .ref zsl, .ref zsr], aZ G zsf 16 fi, aI G zsu 16 us, aZ G zse 16 ex, aJ G zsl 16 lf, aJ G zsr 16 rg, ob zt 2 [.ref ztm, .ref ztr, .ref ztl, .ref ztf, .ref ztd, .long cu, .long cv], aZ G ztm 8 md, aJ G ztr 8 re, aJ G ztl 8 fl, aJ G ztf 8 fr, ob ztd 4 [.ref ztdq, .long tk], aJ G ztdq 16 (rkF tk), ob zc 3 [.ref zcl, .ref zcr], ob zcl 4 [.ref zclq, .long kl], aJ G zclq 16 (rkF kl), ob zcr 4 [.ref zcrq, .long kr], aJ G zcrq 16 (rkF kr), aJ G zpb 5 bf, aJ G zpm 8 mg] (fun r (_ : Unit) => r = f_P_usage hm fi us k) (fun _ => [ob zp 0 [.ref zph, .ref zpt, .int hm, .long ml, .long mr, .ref zs, .ref zt, .ref zc, .ref zpb, .ref zpm], aJ G zph 6 hv, aZ G zpt 6 ht, ob zs 1 [.ref zsf, .ref zsu, .ref zse, .ref zsl, .ref zsr], aZ G zsf 16 fi, aI G zsu 16 us, aZ G zse 16 ex, aJ G zsl 16 lf, aJ G zsr 16 rg, ob zt 2 [.ref ztm, .ref ztr, .ref ztl, .ref ztf, .ref ztd, .long cu, .long cv], aZ G ztm 8 md, aJ G ztr 8 re, aJ G ztl 8 fl, aJ G ztf 8 fr, ob ztd 4 [.ref ztdq, .long tk], aJ G ztdq 16 (rkF tk), ob zc 3 [.ref zcl, .ref zcr], ob zcl 4 [.ref zclq, .long kl], aJ G zclq 16 (rkF kl), ob zcr 4 [.ref zcrq, .long kr], aJ G zcrq 16 (rkF kr), aJ G zpb 5 bf, aJ G zpm 8 mg]) 0 0 := by
  refine Ct.of (Qp := fun A => va_Qi _ (qB G A _) A) Sx_stb (by decide) (Nat.le_of_ble_eq_true rfl) ?_
  intro p e s m args below meth c A X hE hr hlk hini
  refine pv_eql (ll2 := [(0, .ref zp), (1, .int k)]) rfl ?_
  refine pv_aload_n X 0 d_P_usage_0 rfl ?_
  refine pv_iload_n X 1 d_P_usage_1 rfl ?_
  refine pv_calliE X (Cut.all _) (rn_V X (c_P_refusalOfSlot l G zp zph zpt zs zsf zsu zse zsl zsr zt ztm ztr ztl ztf ztd ztdq zc zcl zclq zcr zcrq zpb zpm hv ht hm ml mr fi us ex lf rg md re fl fr tk cu cv kl kr bf mg k ) hE mf_P_refusalOfSlot m_222 m_224 ms_1 rfl 0 rfl rfl rfl (by decide) (by decide) rfl (Nat.le_of_ble_eq_true rfl) d_P_usage_2) (fun x1 => ?_)
  refine pv_eqw (ws2 := [ob zp 0 [.ref zph, .ref zpt, .int hm, .long ml, .long mr, .ref zs, .ref zt, .ref zc, .ref zpb, .ref zpm], aJ G zph 6 hv, aZ G zpt 6 ht, ob zs 1 [.ref zsf, .ref zsu, .ref zse, .ref zsl, .ref zsr], aZ G zsf 16 fi, aI G zsu 16 us, aZ G zse 16 ex, aJ G zsl 16 lf, aJ G zsr 16 rg, ob zt 2 [.ref ztm, .ref ztr, .ref ztl, .ref ztf, .ref ztd, .long cu, .long cv], aZ G ztm 8 md, aJ G ztr 8 re, aJ G ztl 8 fl, aJ G ztf 8 fr, ob ztd 4 [.ref ztdq, .long tk], aJ G ztdq 16 (rkF tk), ob zc 3 [.ref zcl, .ref zcr], ob zcl 4 [.ref zclq, .long kl], aJ G zclq 16 (rkF kl), ob zcr 4 [.ref zcrq, .long kr], aJ G zcrq 16 (rkF kr), aJ G zpb 5 bf, aJ G zpm 8 mg]) rfl ?_
  refine pv_istore_n (ll2 := [(2, .int (f_P_refusalOfSlot hm fi k)), (0, .ref zp), (1, .int k)]) X d_P_usage_5 (by decide) rfl ?_
  refine pv_iload_n X 0 d_P_usage_6 rfl ?_
  refine pv_if_eq X 12 d_P_usage_7 rfl (fun h2 => ?_) (fun h2n => ?_)
  · skip
    refine pv_aload_n X 1 d_P_usage_12 rfl ?_
    refine pv_get X 0 5 u_P_in m_120 rfl rfl (by decide) ⟨rfl, rfl, rfl⟩ rfl d_P_usage_13 ?_
    refine pv_get X 3 1 u_S_in m_33 rfl rfl (by decide) ⟨rfl, rfl, rfl⟩ rfl d_P_usage_16 ?_
    refine pv_iload_n X 2 d_P_usage_19 rfl ?_
    refine pv_iald X 5 rfl (refusal_ok h2) d_P_usage_20 ?_
    exact pv_iret X hr hlk () (by show _ = f_P_usage hm fi us k; simp only [f_P_usage, if_pos h2]) rfl d_P_usage_21
  · skip
    refine pv_iload_n X 0 d_P_usage_10 rfl ?_
    exact pv_iret X hr hlk () (by show _ = f_P_usage hm fi us k; simp only [f_P_usage, if_neg h2n]) rfl d_P_usage_11
def f_P_wrap (hm : Int32) (fi : Nat → Int32) (ex : Nat → Int32) (k : Int32) : Int32 := if (f_P_refusalOfSlot hm fi k) = 0 then (if (ex k.toNatClampNeg) = 0 then (-5) else 40) else (f_P_refusalOfSlot hm fi k)
def g_P_wrap_zpb (hm : Int32) (ml : Int64) (mr : Int64) (fi : Nat → Int32) (us : Nat → Int32) (ex : Nat → Int32) (lf : Nat → Int64) (rg : Nat → Int64) (bf : Nat → Int64) (k : Int32) : Nat → Int64 := if (f_P_refusalOfSlot hm fi k) = 0 then (if (ex k.toNatClampNeg) = 0 then bf else (vp_updL (vp_updL (vp_updL (vp_updL (vp_updL (vp_updL (vp_updL (vp_updL bf 0 (K_hd ((us k.toNatClampNeg).toNatClampNeg))) 1 (f_K_firstLong (lf k.toNatClampNeg))) 2 (f_K_secondLong (lf k.toNatClampNeg) (rg k.toNatClampNeg))) 3 (f_K_thirdLong (rg k.toNatClampNeg))) 1 (sealB ml mr ((f_K_firstLong (lf k.toNatClampNeg)) ^^^ (K_hd ((us k.toNatClampNeg).toNatClampNeg))))) 2 (sealB ml mr ((f_K_secondLong (lf k.toNatClampNeg) (rg k.toNatClampNeg)) ^^^ (sealB ml mr ((f_K_firstLong (lf k.toNatClampNeg)) ^^^ (K_hd ((us k.toNatClampNeg).toNatClampNeg))))))) 3 (sealB ml mr ((f_K_thirdLong (rg k.toNatClampNeg)) ^^^ (sealB ml mr ((f_K_secondLong (lf k.toNatClampNeg) (rg k.toNatClampNeg)) ^^^ (sealB ml mr ((f_K_firstLong (lf k.toNatClampNeg)) ^^^ (K_hd ((us k.toNatClampNeg).toNatClampNeg))))))))) 4 (f_P_codeOfKeyBlock ml mr (vp_updL (vp_updL (vp_updL (vp_updL (vp_updL (vp_updL (vp_updL bf 0 (K_hd ((us k.toNatClampNeg).toNatClampNeg))) 1 (f_K_firstLong (lf k.toNatClampNeg))) 2 (f_K_secondLong (lf k.toNatClampNeg) (rg k.toNatClampNeg))) 3 (f_K_thirdLong (rg k.toNatClampNeg))) 1 (sealB ml mr ((f_K_firstLong (lf k.toNatClampNeg)) ^^^ (K_hd ((us k.toNatClampNeg).toNatClampNeg))))) 2 (sealB ml mr ((f_K_secondLong (lf k.toNatClampNeg) (rg k.toNatClampNeg)) ^^^ (sealB ml mr ((f_K_firstLong (lf k.toNatClampNeg)) ^^^ (K_hd ((us k.toNatClampNeg).toNatClampNeg))))))) 3 (sealB ml mr ((f_K_thirdLong (rg k.toNatClampNeg)) ^^^ (sealB ml mr ((f_K_secondLong (lf k.toNatClampNeg) (rg k.toNatClampNeg)) ^^^ (sealB ml mr ((f_K_firstLong (lf k.toNatClampNeg)) ^^^ (K_hd ((us k.toNatClampNeg).toNatClampNeg)))))))))))) else bf
abbrev rm_P_wrap : Room := { frames := 5, cells := 0, slots := 0, locals := 123 }
theorem mf_P_wrap : MF y_P_wrap b_P_wrap 4 (some .int) 1 := ⟨m_238, m_1, by decide, by decide, by decide +kernel⟩
theorem d_P_wrap_0 : decode b_P_wrap 0 = .ok (.aload_n 0, 1) := by decide +kernel
theorem d_P_wrap_1 : decode b_P_wrap 1 = .ok (.iload_n 1, 1) := by decide +kernel
theorem d_P_wrap_2 : decode b_P_wrap 2 = .ok (.invokevirtual 106, 3) := by decide +kernel
theorem d_P_wrap_5 : decode b_P_wrap 5 = .ok (.istore_n 2, 1) := by decide +kernel
theorem d_P_wrap_6 : decode b_P_wrap 6 = .ok (.iload_n 2, 1) := by decide +kernel
theorem d_P_wrap_7 : decode b_P_wrap 7 = .ok (.ifCond .eq 5, 3) := by decide +kernel
theorem d_P_wrap_10 : decode b_P_wrap 10 = .ok (.iload_n 2, 1) := by decide +kernel
theorem d_P_wrap_11 : decode b_P_wrap 11 = .ok (.ireturn, 1) := by decide +kernel
theorem d_P_wrap_12 : decode b_P_wrap 12 = .ok (.aload_n 0, 1) := by decide +kernel
theorem d_P_wrap_13 : decode b_P_wrap 13 = .ok (.getfield 20, 3) := by decide +kernel
theorem d_P_wrap_16 : decode b_P_wrap 16 = .ok (.getfield 118, 3) := by decide +kernel
theorem d_P_wrap_19 : decode b_P_wrap 19 = .ok (.iload_n 1, 1) := by decide +kernel
theorem d_P_wrap_20 : decode b_P_wrap 20 = .ok (.baload, 1) := by decide +kernel
theorem d_P_wrap_21 : decode b_P_wrap 21 = .ok (.ifCond .ne 6, 3) := by decide +kernel
theorem d_P_wrap_24 : decode b_P_wrap 24 = .ok (.bipush (-5), 2) := by decide +kernel
theorem d_P_wrap_26 : decode b_P_wrap 26 = .ok (.ireturn, 1) := by decide +kernel
theorem d_P_wrap_27 : decode b_P_wrap 27 = .ok (.aload_n 0, 1) := by decide +kernel
theorem d_P_wrap_28 : decode b_P_wrap 28 = .ok (.getfield 38, 3) := by decide +kernel
theorem d_P_wrap_31 : decode b_P_wrap 31 = .ok (.iconst 0, 1) := by decide +kernel
theorem d_P_wrap_32 : decode b_P_wrap 32 = .ok (.aload_n 0, 1) := by decide +kernel
theorem d_P_wrap_33 : decode b_P_wrap 33 = .ok (.getfield 20, 3) := by decide +kernel
theorem d_P_wrap_36 : decode b_P_wrap 36 = .ok (.getfield 114, 3) := by decide +kernel
theorem d_P_wrap_39 : decode b_P_wrap 39 = .ok (.iload_n 1, 1) := by decide +kernel
theorem d_P_wrap_40 : decode b_P_wrap 40 = .ok (.iaload, 1) := by decide +kernel
theorem d_P_wrap_41 : decode b_P_wrap 41 = .ok (.invokestatic 121, 3) := by decide +kernel
theorem d_P_wrap_44 : decode b_P_wrap 44 = .ok (.lastore, 1) := by decide +kernel
theorem d_P_wrap_45 : decode b_P_wrap 45 = .ok (.aload_n 0, 1) := by decide +kernel
theorem d_P_wrap_46 : decode b_P_wrap 46 = .ok (.getfield 38, 3) := by decide +kernel
theorem d_P_wrap_49 : decode b_P_wrap 49 = .ok (.iconst 1, 1) := by decide +kernel
theorem d_P_wrap_50 : decode b_P_wrap 50 = .ok (.aload_n 0, 1) := by decide +kernel
theorem d_P_wrap_51 : decode b_P_wrap 51 = .ok (.getfield 20, 3) := by decide +kernel
theorem d_P_wrap_54 : decode b_P_wrap 54 = .ok (.getfield 100, 3) := by decide +kernel
theorem d_P_wrap_57 : decode b_P_wrap 57 = .ok (.iload_n 1, 1) := by decide +kernel
theorem d_P_wrap_58 : decode b_P_wrap 58 = .ok (.laload, 1) := by decide +kernel
theorem d_P_wrap_59 : decode b_P_wrap 59 = .ok (.invokestatic 127, 3) := by decide +kernel
theorem d_P_wrap_62 : decode b_P_wrap 62 = .ok (.lastore, 1) := by decide +kernel
theorem d_P_wrap_63 : decode b_P_wrap 63 = .ok (.aload_n 0, 1) := by decide +kernel
theorem d_P_wrap_64 : decode b_P_wrap 64 = .ok (.getfield 38, 3) := by decide +kernel
theorem d_P_wrap_67 : decode b_P_wrap 67 = .ok (.iconst 2, 1) := by decide +kernel
theorem d_P_wrap_68 : decode b_P_wrap 68 = .ok (.aload_n 0, 1) := by decide +kernel
theorem d_P_wrap_69 : decode b_P_wrap 69 = .ok (.getfield 20, 3) := by decide +kernel
theorem d_P_wrap_72 : decode b_P_wrap 72 = .ok (.getfield 100, 3) := by decide +kernel
theorem d_P_wrap_75 : decode b_P_wrap 75 = .ok (.iload_n 1, 1) := by decide +kernel
theorem d_P_wrap_76 : decode b_P_wrap 76 = .ok (.laload, 1) := by decide +kernel
theorem d_P_wrap_77 : decode b_P_wrap 77 = .ok (.aload_n 0, 1) := by decide +kernel
theorem d_P_wrap_78 : decode b_P_wrap 78 = .ok (.getfield 20, 3) := by decide +kernel
theorem d_P_wrap_81 : decode b_P_wrap 81 = .ok (.getfield 103, 3) := by decide +kernel
theorem d_P_wrap_84 : decode b_P_wrap 84 = .ok (.iload_n 1, 1) := by decide +kernel
theorem d_P_wrap_85 : decode b_P_wrap 85 = .ok (.laload, 1) := by decide +kernel
theorem d_P_wrap_86 : decode b_P_wrap 86 = .ok (.invokestatic 130, 3) := by decide +kernel
theorem d_P_wrap_89 : decode b_P_wrap 89 = .ok (.lastore, 1) := by decide +kernel
theorem d_P_wrap_90 : decode b_P_wrap 90 = .ok (.aload_n 0, 1) := by decide +kernel
theorem d_P_wrap_91 : decode b_P_wrap 91 = .ok (.getfield 38, 3) := by decide +kernel
theorem d_P_wrap_94 : decode b_P_wrap 94 = .ok (.iconst 3, 1) := by decide +kernel
theorem d_P_wrap_95 : decode b_P_wrap 95 = .ok (.aload_n 0, 1) := by decide +kernel
theorem d_P_wrap_96 : decode b_P_wrap 96 = .ok (.getfield 20, 3) := by decide +kernel
theorem d_P_wrap_99 : decode b_P_wrap 99 = .ok (.getfield 103, 3) := by decide +kernel
theorem d_P_wrap_102 : decode b_P_wrap 102 = .ok (.iload_n 1, 1) := by decide +kernel
theorem d_P_wrap_103 : decode b_P_wrap 103 = .ok (.laload, 1) := by decide +kernel
theorem d_P_wrap_104 : decode b_P_wrap 104 = .ok (.invokestatic 134, 3) := by decide +kernel
theorem d_P_wrap_107 : decode b_P_wrap 107 = .ok (.lastore, 1) := by decide +kernel
theorem d_P_wrap_108 : decode b_P_wrap 108 = .ok (.aload_n 0, 1) := by decide +kernel
theorem d_P_wrap_109 : decode b_P_wrap 109 = .ok (.getfield 34, 3) := by decide +kernel
theorem d_P_wrap_112 : decode b_P_wrap 112 = .ok (.aload_n 0, 1) := by decide +kernel
theorem d_P_wrap_113 : decode b_P_wrap 113 = .ok (.getfield 70, 3) := by decide +kernel
theorem d_P_wrap_116 : decode b_P_wrap 116 = .ok (.aload_n 0, 1) := by decide +kernel
theorem d_P_wrap_117 : decode b_P_wrap 117 = .ok (.getfield 74, 3) := by decide +kernel
theorem d_P_wrap_120 : decode b_P_wrap 120 = .ok (.invokevirtual 77, 3) := by decide +kernel
theorem d_P_wrap_123 : decode b_P_wrap 123 = .ok (.iconst 1, 1) := by decide +kernel
theorem d_P_wrap_124 : decode b_P_wrap 124 = .ok (.istore_n 3, 1) := by decide +kernel
theorem d_P_wrap_125 : decode b_P_wrap 125 = .ok (.iload_n 3, 1) := by decide +kernel
theorem d_P_wrap_126 : decode b_P_wrap 126 = .ok (.iconst 3, 1) := by decide +kernel
theorem d_P_wrap_127 : decode b_P_wrap 127 = .ok (.if_icmp .gt 37, 3) := by decide +kernel
theorem d_P_wrap_130 : decode b_P_wrap 130 = .ok (.aload_n 0, 1) := by decide +kernel
theorem d_P_wrap_131 : decode b_P_wrap 131 = .ok (.getfield 38, 3) := by decide +kernel
theorem d_P_wrap_134 : decode b_P_wrap 134 = .ok (.iload_n 3, 1) := by decide +kernel
theorem d_P_wrap_135 : decode b_P_wrap 135 = .ok (.aload_n 0, 1) := by decide +kernel
theorem d_P_wrap_136 : decode b_P_wrap 136 = .ok (.getfield 34, 3) := by decide +kernel
theorem d_P_wrap_139 : decode b_P_wrap 139 = .ok (.aload_n 0, 1) := by decide +kernel
theorem d_P_wrap_140 : decode b_P_wrap 140 = .ok (.getfield 38, 3) := by decide +kernel
theorem d_P_wrap_143 : decode b_P_wrap 143 = .ok (.iload_n 3, 1) := by decide +kernel
theorem d_P_wrap_144 : decode b_P_wrap 144 = .ok (.laload, 1) := by decide +kernel
theorem d_P_wrap_145 : decode b_P_wrap 145 = .ok (.aload_n 0, 1) := by decide +kernel
theorem d_P_wrap_146 : decode b_P_wrap 146 = .ok (.getfield 38, 3) := by decide +kernel
theorem d_P_wrap_149 : decode b_P_wrap 149 = .ok (.iload_n 3, 1) := by decide +kernel
theorem d_P_wrap_150 : decode b_P_wrap 150 = .ok (.iconst 1, 1) := by decide +kernel
theorem d_P_wrap_151 : decode b_P_wrap 151 = .ok (.isub, 1) := by decide +kernel
theorem d_P_wrap_152 : decode b_P_wrap 152 = .ok (.laload, 1) := by decide +kernel
theorem d_P_wrap_153 : decode b_P_wrap 153 = .ok (.lxor, 1) := by decide +kernel
theorem d_P_wrap_154 : decode b_P_wrap 154 = .ok (.invokevirtual 137, 3) := by decide +kernel
theorem d_P_wrap_157 : decode b_P_wrap 157 = .ok (.lastore, 1) := by decide +kernel
theorem d_P_wrap_158 : decode b_P_wrap 158 = .ok (.iinc 3 1, 3) := by decide +kernel
theorem d_P_wrap_161 : decode b_P_wrap 161 = .ok (.goto (-36), 3) := by decide +kernel
theorem d_P_wrap_164 : decode b_P_wrap 164 = .ok (.aload_n 0, 1) := by decide +kernel
theorem d_P_wrap_165 : decode b_P_wrap 165 = .ok (.getfield 38, 3) := by decide +kernel
theorem d_P_wrap_168 : decode b_P_wrap 168 = .ok (.iconst 4, 1) := by decide +kernel
theorem d_P_wrap_169 : decode b_P_wrap 169 = .ok (.aload_n 0, 1) := by decide +kernel
theorem d_P_wrap_170 : decode b_P_wrap 170 = .ok (.invokevirtual 140, 3) := by decide +kernel
theorem d_P_wrap_173 : decode b_P_wrap 173 = .ok (.lastore, 1) := by decide +kernel
theorem d_P_wrap_174 : decode b_P_wrap 174 = .ok (.bipush 40, 2) := by decide +kernel
theorem d_P_wrap_176 : decode b_P_wrap 176 = .ok (.ireturn, 1) := by decide +kernel
set_option maxRecDepth 100000 in
set_option maxHeartbeats 4000000 in
theorem c_P_wrap (l : Launch) (G : Gt) (zp zph zpt zs zsf zsu zse zsl zsr zt ztm ztr ztl ztf ztd ztdq zc zcl zclq zcr zcrq zpb zpm : Nat) (hv : Nat → Int64) (ht : Nat → Int32) (hm : Int32) (ml mr : Int64) (fi us ex : Nat → Int32) (lf rg : Nat → Int64) (md : Nat → Int32) (re fl fr : Nat → Int64) (tk cu cv kl kr : Int64) (bf mg : Nat → Int64) (k : Int32) (hus : ∀ j, vp_in (us j) 4) : CtI l G y_P_wrap b_P_wrap 4 (some .int) rm_P_wrap Sx [.ref zp, .int k] [ob zp 0 [.ref zph, .ref zpt, .int hm, .long ml, .long mr, .ref zs, .ref zt, .ref zc, .ref zpb, .ref zpm], aJ G zph 6 hv, aZ G zpt 6 ht, ob zs 1 [.ref zsf, .ref zsu, .ref zse, .ref zsl, .ref zsr], aZ G zsf 16 fi, aI G zsu 16 us, aZ G zse 16 ex, aJ G zsl 16 lf, aJ G zsr 16 rg, ob zt 2 [.ref ztm, .ref ztr, .ref ztl, .ref ztf, .ref ztd, .long cu, .long cv], aZ G ztm 8 md, aJ G ztr 8 re, aJ G ztl 8 fl, aJ G ztf 8 fr, ob ztd 4 [.ref ztdq, .long tk], aJ G ztdq 16 (rkF tk), ob zc 3 [.ref zcl, .ref zcr], ob zcl 4 [.ref zclq, .long kl], aJ G zclq 16 (rkF kl), ob zcr 4 [.ref zcrq, .long kr], aJ G zcrq 16 (rkF kr), aJ G zpb 5 bf, aJ G zpm 8 mg] (fun r (_ : Int64 × Int64) => r = f_P_wrap hm fi ex k) (fun x => [ob zp 0 [.ref zph, .ref zpt, .int hm, .long ml, .long mr, .ref zs, .ref zt, .ref zc, .ref zpb, .ref zpm], aJ G zph 6 hv, aZ G zpt 6 ht, ob zs 1 [.ref zsf, .ref zsu, .ref zse, .ref zsl, .ref zsr], aZ G zsf 16 fi, aI G zsu 16 us, aZ G zse 16 ex, aJ G zsl 16 lf, aJ G zsr 16 rg, ob zt 2 [.ref ztm, .ref ztr, .ref ztl, .ref ztf, .ref ztd, .long cu, .long cv], aZ G ztm 8 md, aJ G ztr 8 re, aJ G ztl 8 fl, aJ G ztf 8 fr, ob ztd 4 [.ref ztdq, .long tk], aJ G ztdq 16 (rkF tk), ob zc 3 [.ref zcl, .ref zcr], ob zcl 4 [.ref zclq, .long x.1], aJ G zclq 16 (rkF x.1), ob zcr 4 [.ref zcrq, .long x.2], aJ G zcrq 16 (rkF x.2), aJ G zpb 5 (g_P_wrap_zpb hm ml mr fi us ex lf rg bf k), aJ G zpm 8 mg]) 0 0 := by
  refine Ct.of (Qp := fun A => va_Qi _ (qB G A _) A) Sx_stb (by decide) (Nat.le_of_ble_eq_true rfl) ?_
  intro p e s m args below meth c A X hE hr hlk hini
  refine pv_eql (ll2 := [(0, .ref zp), (1, .int k)]) rfl ?_
  refine pv_aload_n X 0 d_P_wrap_0 rfl ?_
  refine pv_iload_n X 1 d_P_wrap_1 rfl ?_
  refine pv_calliE X (Cut.all _) (rn_V X (c_P_refusalOfSlot l G zp zph zpt zs zsf zsu zse zsl zsr zt ztm ztr ztl ztf ztd ztdq zc zcl zclq zcr zcrq zpb zpm hv ht hm ml mr fi us ex lf rg md re fl fr tk cu cv kl kr bf mg k ) hE mf_P_refusalOfSlot m_222 m_224 ms_1 rfl 0 rfl rfl rfl (by decide) (by decide) rfl (Nat.le_of_ble_eq_true rfl) d_P_wrap_2) (fun x1 => ?_)
  refine pv_eqw (ws2 := [ob zp 0 [.ref zph, .ref zpt, .int hm, .long ml, .long mr, .ref zs, .ref zt, .ref zc, .ref zpb, .ref zpm], aJ G zph 6 hv, aZ G zpt 6 ht, ob zs 1 [.ref zsf, .ref zsu, .ref zse, .ref zsl, .ref zsr], aZ G zsf 16 fi, aI G zsu 16 us, aZ G zse 16 ex, aJ G zsl 16 lf, aJ G zsr 16 rg, ob zt 2 [.ref ztm, .ref ztr, .ref ztl, .ref ztf, .ref ztd, .long cu, .long cv], aZ G ztm 8 md, aJ G ztr 8 re, aJ G ztl 8 fl, aJ G ztf 8 fr, ob ztd 4 [.ref ztdq, .long tk], aJ G ztdq 16 (rkF tk), ob zc 3 [.ref zcl, .ref zcr], ob zcl 4 [.ref zclq, .long kl], aJ G zclq 16 (rkF kl), ob zcr 4 [.ref zcrq, .long kr], aJ G zcrq 16 (rkF kr), aJ G zpb 5 bf, aJ G zpm 8 mg]) rfl ?_
  refine pv_istore_n (ll2 := [(2, .int (f_P_refusalOfSlot hm fi k)), (0, .ref zp), (1, .int k)]) X d_P_wrap_5 (by decide) rfl ?_
  refine pv_iload_n X 0 d_P_wrap_6 rfl ?_
  refine pv_if_eq X 12 d_P_wrap_7 rfl (fun h2 => ?_) (fun h2n => ?_)
  · skip
    refine pv_aload_n X 1 d_P_wrap_12 rfl ?_
    refine pv_get X 0 5 u_P_in m_120 rfl rfl (by decide) ⟨rfl, rfl, rfl⟩ rfl d_P_wrap_13 ?_
    refine pv_get X 3 2 u_S_in m_35 rfl rfl (by decide) ⟨rfl, rfl, rfl⟩ rfl d_P_wrap_16 ?_
    refine pv_iload_n X 2 d_P_wrap_19 rfl ?_
    refine pv_zald X 6 rfl (refusal_ok h2) d_P_wrap_20 ?_
    refine pv_if_ne X 27 d_P_wrap_21 rfl (fun h3 => ?_) (fun h3n => ?_)
    · skip
      refine pv_aload_n X 1 d_P_wrap_27 rfl ?_
      refine pv_get X 0 8 u_P_in m_123 rfl rfl (by decide) ⟨rfl, rfl, rfl⟩ rfl d_P_wrap_28 ?_
      refine pv_iconst X 0 d_P_wrap_31 (by decide) ?_
      refine pv_aload_n X 1 d_P_wrap_32 rfl ?_
      refine pv_get X 0 5 u_P_in m_120 rfl rfl (by decide) ⟨rfl, rfl, rfl⟩ rfl d_P_wrap_33 ?_
      refine pv_get X 3 1 u_S_in m_33 rfl rfl (by decide) ⟨rfl, rfl, rfl⟩ rfl d_P_wrap_36 ?_
      refine pv_iload_n X 2 d_P_wrap_39 rfl ?_
      refine pv_iald X 5 rfl (refusal_ok h2) d_P_wrap_40 ?_
      refine pv_calll0 X (rn_S X (c_K_header2 l G (us k.toNatClampNeg) (hus _)) hE mf_K_header m_239 m_240 rfl (by decide) (by decide) rfl (Nat.le_of_ble_eq_true rfl) d_P_wrap_41) ?_
      refine pv_last (ws2 := [ob zp 0 [.ref zph, .ref zpt, .int hm, .long ml, .long mr, .ref zs, .ref zt, .ref zc, .ref zpb, .ref zpm], aJ G zph 6 hv, aZ G zpt 6 ht, ob zs 1 [.ref zsf, .ref zsu, .ref zse, .ref zsl, .ref zsr], aZ G zsf 16 fi, aI G zsu 16 us, aZ G zse 16 ex, aJ G zsl 16 lf, aJ G zsr 16 rg, ob zt 2 [.ref ztm, .ref ztr, .ref ztl, .ref ztf, .ref ztd, .long cu, .long cv], aZ G ztm 8 md, aJ G ztr 8 re, aJ G ztl 8 fl, aJ G ztf 8 fr, ob ztd 4 [.ref ztdq, .long tk], aJ G ztdq 16 (rkF tk), ob zc 3 [.ref zcl, .ref zcr], ob zcl 4 [.ref zclq, .long kl], aJ G zclq 16 (rkF kl), ob zcr 4 [.ref zcrq, .long kr], aJ G zcrq 16 (rkF kr), aJ G zpb 5 (vp_updL bf 0 (K_hd ((us k.toNatClampNeg).toNatClampNeg))), aJ G zpm 8 mg]) X 21 rfl (by unfold vp_in; decide) rfl d_P_wrap_44 ?_
      refine pv_aload_n X 1 d_P_wrap_45 rfl ?_
      refine pv_get X 0 8 u_P_in m_123 rfl rfl (by decide) ⟨rfl, rfl, rfl⟩ rfl d_P_wrap_46 ?_
      refine pv_iconst X 1 d_P_wrap_49 (by decide) ?_
      refine pv_aload_n X 1 d_P_wrap_50 rfl ?_
      refine pv_get X 0 5 u_P_in m_120 rfl rfl (by decide) ⟨rfl, rfl, rfl⟩ rfl d_P_wrap_51 ?_
      refine pv_get X 3 3 u_S_in m_37 rfl rfl (by decide) ⟨rfl, rfl, rfl⟩ rfl d_P_wrap_54 ?_
      refine pv_iload_n X 2 d_P_wrap_57 rfl ?_
      refine pv_lald X 7 rfl (refusal_ok h2) d_P_wrap_58 ?_
      refine pv_calll0 X (rn_S X (c_K_firstLong l G (lf k.toNatClampNeg)) trivial mf_K_firstLong m_245 m_246 rfl (by decide) (by decide) rfl (Nat.le_of_ble_eq_true rfl) d_P_wrap_59) ?_
      refine pv_last (ws2 := [ob zp 0 [.ref zph, .ref zpt, .int hm, .long ml, .long mr, .ref zs, .ref zt, .ref zc, .ref zpb, .ref zpm], aJ G zph 6 hv, aZ G zpt 6 ht, ob zs 1 [.ref zsf, .ref zsu, .ref zse, .ref zsl, .ref zsr], aZ G zsf 16 fi, aI G zsu 16 us, aZ G zse 16 ex, aJ G zsl 16 lf, aJ G zsr 16 rg, ob zt 2 [.ref ztm, .ref ztr, .ref ztl, .ref ztf, .ref ztd, .long cu, .long cv], aZ G ztm 8 md, aJ G ztr 8 re, aJ G ztl 8 fl, aJ G ztf 8 fr, ob ztd 4 [.ref ztdq, .long tk], aJ G ztdq 16 (rkF tk), ob zc 3 [.ref zcl, .ref zcr], ob zcl 4 [.ref zclq, .long kl], aJ G zclq 16 (rkF kl), ob zcr 4 [.ref zcrq, .long kr], aJ G zcrq 16 (rkF kr), aJ G zpb 5 (vp_updL (vp_updL bf 0 (K_hd ((us k.toNatClampNeg).toNatClampNeg))) 1 (f_K_firstLong (lf k.toNatClampNeg))), aJ G zpm 8 mg]) X 21 rfl (by unfold vp_in; decide) rfl d_P_wrap_62 ?_
      refine pv_aload_n X 1 d_P_wrap_63 rfl ?_
      refine pv_get X 0 8 u_P_in m_123 rfl rfl (by decide) ⟨rfl, rfl, rfl⟩ rfl d_P_wrap_64 ?_
      refine pv_iconst X 2 d_P_wrap_67 (by decide) ?_
      refine pv_aload_n X 1 d_P_wrap_68 rfl ?_
      refine pv_get X 0 5 u_P_in m_120 rfl rfl (by decide) ⟨rfl, rfl, rfl⟩ rfl d_P_wrap_69 ?_
      refine pv_get X 3 3 u_S_in m_37 rfl rfl (by decide) ⟨rfl, rfl, rfl⟩ rfl d_P_wrap_72 ?_
      refine pv_iload_n X 2 d_P_wrap_75 rfl ?_
      refine pv_lald X 7 rfl (refusal_ok h2) d_P_wrap_76 ?_
      refine pv_aload_n X 1 d_P_wrap_77 rfl ?_
      refine pv_get X 0 5 u_P_in m_120 rfl rfl (by decide) ⟨rfl, rfl, rfl⟩ rfl d_P_wrap_78 ?_
      refine pv_get X 3 4 u_S_in m_39 rfl rfl (by decide) ⟨rfl, rfl, rfl⟩ rfl d_P_wrap_81 ?_
      refine pv_iload_n X 2 d_P_wrap_84 rfl ?_
      refine pv_lald X 8 rfl (refusal_ok h2) d_P_wrap_85 ?_
      refine pv_calll0 X (rn_S X (c_K_secondLong l G (lf k.toNatClampNeg) (rg k.toNatClampNeg)) trivial mf_K_secondLong m_249 m_250 rfl (by decide) (by decide) rfl (Nat.le_of_ble_eq_true rfl) d_P_wrap_86) ?_
      refine pv_last (ws2 := [ob zp 0 [.ref zph, .ref zpt, .int hm, .long ml, .long mr, .ref zs, .ref zt, .ref zc, .ref zpb, .ref zpm], aJ G zph 6 hv, aZ G zpt 6 ht, ob zs 1 [.ref zsf, .ref zsu, .ref zse, .ref zsl, .ref zsr], aZ G zsf 16 fi, aI G zsu 16 us, aZ G zse 16 ex, aJ G zsl 16 lf, aJ G zsr 16 rg, ob zt 2 [.ref ztm, .ref ztr, .ref ztl, .ref ztf, .ref ztd, .long cu, .long cv], aZ G ztm 8 md, aJ G ztr 8 re, aJ G ztl 8 fl, aJ G ztf 8 fr, ob ztd 4 [.ref ztdq, .long tk], aJ G ztdq 16 (rkF tk), ob zc 3 [.ref zcl, .ref zcr], ob zcl 4 [.ref zclq, .long kl], aJ G zclq 16 (rkF kl), ob zcr 4 [.ref zcrq, .long kr], aJ G zcrq 16 (rkF kr), aJ G zpb 5 (vp_updL (vp_updL (vp_updL bf 0 (K_hd ((us k.toNatClampNeg).toNatClampNeg))) 1 (f_K_firstLong (lf k.toNatClampNeg))) 2 (f_K_secondLong (lf k.toNatClampNeg) (rg k.toNatClampNeg))), aJ G zpm 8 mg]) X 21 rfl (by unfold vp_in; decide) rfl d_P_wrap_89 ?_
      refine pv_aload_n X 1 d_P_wrap_90 rfl ?_
      refine pv_get X 0 8 u_P_in m_123 rfl rfl (by decide) ⟨rfl, rfl, rfl⟩ rfl d_P_wrap_91 ?_
      refine pv_iconst X 3 d_P_wrap_94 (by decide) ?_
      refine pv_aload_n X 1 d_P_wrap_95 rfl ?_
      refine pv_get X 0 5 u_P_in m_120 rfl rfl (by decide) ⟨rfl, rfl, rfl⟩ rfl d_P_wrap_96 ?_
      refine pv_get X 3 4 u_S_in m_39 rfl rfl (by decide) ⟨rfl, rfl, rfl⟩ rfl d_P_wrap_99 ?_
      refine pv_iload_n X 2 d_P_wrap_102 rfl ?_
      refine pv_lald X 8 rfl (refusal_ok h2) d_P_wrap_103 ?_
      refine pv_calll0 X (rn_S X (c_K_thirdLong l G (rg k.toNatClampNeg)) trivial mf_K_thirdLong m_252 m_253 rfl (by decide) (by decide) rfl (Nat.le_of_ble_eq_true rfl) d_P_wrap_104) ?_
      refine pv_last (ws2 := [ob zp 0 [.ref zph, .ref zpt, .int hm, .long ml, .long mr, .ref zs, .ref zt, .ref zc, .ref zpb, .ref zpm], aJ G zph 6 hv, aZ G zpt 6 ht, ob zs 1 [.ref zsf, .ref zsu, .ref zse, .ref zsl, .ref zsr], aZ G zsf 16 fi, aI G zsu 16 us, aZ G zse 16 ex, aJ G zsl 16 lf, aJ G zsr 16 rg, ob zt 2 [.ref ztm, .ref ztr, .ref ztl, .ref ztf, .ref ztd, .long cu, .long cv], aZ G ztm 8 md, aJ G ztr 8 re, aJ G ztl 8 fl, aJ G ztf 8 fr, ob ztd 4 [.ref ztdq, .long tk], aJ G ztdq 16 (rkF tk), ob zc 3 [.ref zcl, .ref zcr], ob zcl 4 [.ref zclq, .long kl], aJ G zclq 16 (rkF kl), ob zcr 4 [.ref zcrq, .long kr], aJ G zcrq 16 (rkF kr), aJ G zpb 5 (vp_updL (vp_updL (vp_updL (vp_updL bf 0 (K_hd ((us k.toNatClampNeg).toNatClampNeg))) 1 (f_K_firstLong (lf k.toNatClampNeg))) 2 (f_K_secondLong (lf k.toNatClampNeg) (rg k.toNatClampNeg))) 3 (f_K_thirdLong (rg k.toNatClampNeg))), aJ G zpm 8 mg]) X 21 rfl (by unfold vp_in; decide) rfl d_P_wrap_107 ?_
      refine pv_aload_n X 1 d_P_wrap_108 rfl ?_
      refine pv_get X 0 7 u_P_in m_122 rfl rfl (by decide) ⟨rfl, rfl, rfl⟩ rfl d_P_wrap_109 ?_
      refine pv_aload_n X 1 d_P_wrap_112 rfl ?_
      refine pv_get X 0 3 u_P_in m_118 rfl rfl (by decide) ⟨rfl, rfl, rfl⟩ rfl d_P_wrap_113 ?_
      refine pv_aload_n X 1 d_P_wrap_116 rfl ?_
      refine pv_get X 0 4 u_P_in m_119 rfl rfl (by decide) ⟨rfl, rfl, rfl⟩ rfl d_P_wrap_117 ?_
      refine pv_callv X (Cut.mk (w0 := [ob zc 3 [.ref zcl, .ref zcr], ob zcl 4 [.ref zclq, .long kl], aJ G zclq 16 (rkF kl), ob zcr 4 [.ref zcrq, .long kr], aJ G zcrq 16 (rkF kr)]) (wr := [ob zp 0 [.ref zph, .ref zpt, .int hm, .long ml, .long mr, .ref zs, .ref zt, .ref zc, .ref zpb, .ref zpm], aJ G zph 6 hv, aZ G zpt 6 ht, ob zs 1 [.ref zsf, .ref zsu, .ref zse, .ref zsl, .ref zsr], aZ G zsf 16 fi, aI G zsu 16 us, aZ G zse 16 ex, aJ G zsl 16 lf, aJ G zsr 16 rg, ob zt 2 [.ref ztm, .ref ztr, .ref ztl, .ref ztf, .ref ztd, .long cu, .long cv], aZ G ztm 8 md, aJ G ztr 8 re, aJ G ztl 8 fl, aJ G ztf 8 fr, ob ztd 4 [.ref ztdq, .long tk], aJ G ztdq 16 (rkF tk), aJ G zpb 5 (vp_updL (vp_updL (vp_updL (vp_updL bf 0 (K_hd ((us k.toNatClampNeg).toNatClampNeg))) 1 (f_K_firstLong (lf k.toNatClampNeg))) 2 (f_K_secondLong (lf k.toNatClampNeg) (rg k.toNatClampNeg))) 3 (f_K_thirdLong (rg k.toNatClampNeg))), aJ G zpm 8 mg]) [16, 17, 18, 19, 20] [0, 1, 2, 3, 4, 5, 6, 7, 8, 9, 10, 11, 12, 13, 14, 15, 21, 22] rfl rfl rfl rfl rfl) (rn_V X (c_C_take l G zc zcl zclq zcr zcrq kl kr ml mr) hE mf_C_take m_167 m_168 m_169 rfl 0 rfl rfl rfl (by decide) (by decide) rfl (Nat.le_of_ble_eq_true rfl) d_P_wrap_120) (fun x8 e8 => ?_)
      refine pv_ord (ws2 := [ob zp 0 [.ref zph, .ref zpt, .int hm, .long ml, .long mr, .ref zs, .ref zt, .ref zc, .ref zpb, .ref zpm], aJ G zph 6 hv, aZ G zpt 6 ht, ob zs 1 [.ref zsf, .ref zsu, .ref zse, .ref zsl, .ref zsr], aZ G zsf 16 fi, aI G zsu 16 us, aZ G zse 16 ex, aJ G zsl 16 lf, aJ G zsr 16 rg, ob zt 2 [.ref ztm, .ref ztr, .ref ztl, .ref ztf, .ref ztd, .long cu, .long cv], aZ G ztm 8 md, aJ G ztr 8 re, aJ G ztl 8 fl, aJ G ztf 8 fr, ob ztd 4 [.ref ztdq, .long tk], aJ G ztdq 16 (rkF tk), ob zc 3 [.ref zcl, .ref zcr], ob zcl 4 [.ref zclq, .long ml], aJ G zclq 16 (rkF ml), ob zcr 4 [.ref zcrq, .long mr], aJ G zcrq 16 (rkF mr), aJ G zpb 5 (vp_updL (vp_updL (vp_updL (vp_updL bf 0 (K_hd ((us k.toNatClampNeg).toNatClampNeg))) 1 (f_K_firstLong (lf k.toNatClampNeg))) 2 (f_K_secondLong (lf k.toNatClampNeg) (rg k.toNatClampNeg))) 3 (f_K_thirdLong (rg k.toNatClampNeg))), aJ G zpm 8 mg]) [0, 1, 2, 3, 4, 5, 6, 7, 8, 9, 10, 11, 12, 13, 14, 15, 18, 19, 20, 21, 22, 16, 17] rfl rfl ?_
      refine pv_iconst X 1 d_P_wrap_123 (by decide) ?_
      refine pv_istore_n (ll2 := [(3, .int 1), (2, .int (f_P_refusalOfSlot hm fi k)), (0, .ref zp), (1, .int k)]) X d_P_wrap_124 (by decide) rfl ?_
      refine pv_iload_n X 0 d_P_wrap_125 rfl ?_
      refine pv_iconst X 3 d_P_wrap_126 (by decide) ?_
      refine pv_icmp_gt X 164 d_P_wrap_127 rfl (fun h => absurd h (by decide)) (fun _ => ?_)
      refine pv_aload_n X 2 d_P_wrap_130 rfl ?_
      refine pv_get X 0 8 u_P_in m_123 rfl rfl (by decide) ⟨rfl, rfl, rfl⟩ rfl d_P_wrap_131 ?_
      refine pv_iload_n X 0 d_P_wrap_134 rfl ?_
      refine pv_aload_n X 2 d_P_wrap_135 rfl ?_
      refine pv_get X 0 7 u_P_in m_122 rfl rfl (by decide) ⟨rfl, rfl, rfl⟩ rfl d_P_wrap_136 ?_
      refine pv_aload_n X 2 d_P_wrap_139 rfl ?_
      refine pv_get X 0 8 u_P_in m_123 rfl rfl (by decide) ⟨rfl, rfl, rfl⟩ rfl d_P_wrap_140 ?_
      refine pv_iload_n X 0 d_P_wrap_143 rfl ?_
      refine pv_lald X 21 rfl (by unfold vp_in; decide) d_P_wrap_144 ?_
      refine pv_topl (f_K_firstLong (lf k.toNatClampNeg)) rfl ?_
      refine pv_aload_n X 2 d_P_wrap_145 rfl ?_
      refine pv_get X 0 8 u_P_in m_123 rfl rfl (by decide) ⟨rfl, rfl, rfl⟩ rfl d_P_wrap_146 ?_
      refine pv_iload_n X 0 d_P_wrap_149 rfl ?_
      refine pv_iconst X 1 d_P_wrap_150 (by decide) ?_
      refine pv_isub X d_P_wrap_151 ?_
      refine pv_topi 0 (by decide) ?_
      refine pv_lald X 21 rfl (by unfold vp_in; decide) d_P_wrap_152 ?_
      refine pv_topl (K_hd ((us k.toNatClampNeg).toNatClampNeg)) rfl ?_
      refine pv_lxor X d_P_wrap_153 ?_
      refine pv_calllE X (Cut.mk (w0 := [ob zc 3 [.ref zcl, .ref zcr], ob zcl 4 [.ref zclq, .long ml], aJ G zclq 16 (rkF ml), ob zcr 4 [.ref zcrq, .long mr], aJ G zcrq 16 (rkF mr)]) (wr := [ob zp 0 [.ref zph, .ref zpt, .int hm, .long ml, .long mr, .ref zs, .ref zt, .ref zc, .ref zpb, .ref zpm], aJ G zph 6 hv, aZ G zpt 6 ht, ob zs 1 [.ref zsf, .ref zsu, .ref zse, .ref zsl, .ref zsr], aZ G zsf 16 fi, aI G zsu 16 us, aZ G zse 16 ex, aJ G zsl 16 lf, aJ G zsr 16 rg, ob zt 2 [.ref ztm, .ref ztr, .ref ztl, .ref ztf, .ref ztd, .long cu, .long cv], aZ G ztm 8 md, aJ G ztr 8 re, aJ G ztl 8 fl, aJ G ztf 8 fr, ob ztd 4 [.ref ztdq, .long tk], aJ G ztdq 16 (rkF tk), aJ G zpb 5 (vp_updL (vp_updL (vp_updL (vp_updL bf 0 (K_hd ((us k.toNatClampNeg).toNatClampNeg))) 1 (f_K_firstLong (lf k.toNatClampNeg))) 2 (f_K_secondLong (lf k.toNatClampNeg) (rg k.toNatClampNeg))) 3 (f_K_thirdLong (rg k.toNatClampNeg))), aJ G zpm 8 mg]) [16, 17, 18, 19, 20] [0, 1, 2, 3, 4, 5, 6, 7, 8, 9, 10, 11, 12, 13, 14, 15, 21, 22] rfl rfl rfl rfl rfl) (rn_V X (c_C_sealBlock l G zc zcl zclq zcr zcrq ml mr ((f_K_firstLong (lf k.toNatClampNeg)) ^^^ (K_hd ((us k.toNatClampNeg).toNatClampNeg)))) hE mf_C_sealBlock m_255 m_193 m_194 rfl 0 rfl rfl rfl (by decide) (by decide) rfl (Nat.le_of_ble_eq_true rfl) d_P_wrap_154) (fun x9 => ?_)
      refine pv_ord (ws2 := [ob zp 0 [.ref zph, .ref zpt, .int hm, .long ml, .long mr, .ref zs, .ref zt, .ref zc, .ref zpb, .ref zpm], aJ G zph 6 hv, aZ G zpt 6 ht, ob zs 1 [.ref zsf, .ref zsu, .ref zse, .ref zsl, .ref zsr], aZ G zsf 16 fi, aI G zsu 16 us, aZ G zse 16 ex, aJ G zsl 16 lf, aJ G zsr 16 rg, ob zt 2 [.ref ztm, .ref ztr, .ref ztl, .ref ztf, .ref ztd, .long cu, .long cv], aZ G ztm 8 md, aJ G ztr 8 re, aJ G ztl 8 fl, aJ G ztf 8 fr, ob ztd 4 [.ref ztdq, .long tk], aJ G ztdq 16 (rkF tk), ob zc 3 [.ref zcl, .ref zcr], ob zcl 4 [.ref zclq, .long ml], aJ G zclq 16 (rkF ml), ob zcr 4 [.ref zcrq, .long mr], aJ G zcrq 16 (rkF mr), aJ G zpb 5 (vp_updL (vp_updL (vp_updL (vp_updL bf 0 (K_hd ((us k.toNatClampNeg).toNatClampNeg))) 1 (f_K_firstLong (lf k.toNatClampNeg))) 2 (f_K_secondLong (lf k.toNatClampNeg) (rg k.toNatClampNeg))) 3 (f_K_thirdLong (rg k.toNatClampNeg))), aJ G zpm 8 mg]) [0, 1, 2, 3, 4, 5, 6, 7, 8, 9, 10, 11, 12, 13, 14, 15, 18, 19, 20, 21, 22, 16, 17] rfl rfl ?_
      refine pv_last (ws2 := [ob zp 0 [.ref zph, .ref zpt, .int hm, .long ml, .long mr, .ref zs, .ref zt, .ref zc, .ref zpb, .ref zpm], aJ G zph 6 hv, aZ G zpt 6 ht, ob zs 1 [.ref zsf, .ref zsu, .ref zse, .ref zsl, .ref zsr], aZ G zsf 16 fi, aI G zsu 16 us, aZ G zse 16 ex, aJ G zsl 16 lf, aJ G zsr 16 rg, ob zt 2 [.ref ztm, .ref ztr, .ref ztl, .ref ztf, .ref ztd, .long cu, .long cv], aZ G ztm 8 md, aJ G ztr 8 re, aJ G ztl 8 fl, aJ G ztf 8 fr, ob ztd 4 [.ref ztdq, .long tk], aJ G ztdq 16 (rkF tk), ob zc 3 [.ref zcl, .ref zcr], ob zcl 4 [.ref zclq, .long ml], aJ G zclq 16 (rkF ml), ob zcr 4 [.ref zcrq, .long mr], aJ G zcrq 16 (rkF mr), aJ G zpb 5 (vp_updL (vp_updL (vp_updL (vp_updL (vp_updL bf 0 (K_hd ((us k.toNatClampNeg).toNatClampNeg))) 1 (f_K_firstLong (lf k.toNatClampNeg))) 2 (f_K_secondLong (lf k.toNatClampNeg) (rg k.toNatClampNeg))) 3 (f_K_thirdLong (rg k.toNatClampNeg))) 1 (sealB ml mr ((f_K_firstLong (lf k.toNatClampNeg)) ^^^ (K_hd ((us k.toNatClampNeg).toNatClampNeg))))), aJ G zpm 8 mg]) X 21 rfl (by unfold vp_in; decide) rfl d_P_wrap_157 ?_
      refine pv_iinc (ll2 := [(3, .int 2), (2, .int (f_P_refusalOfSlot hm fi k)), (0, .ref zp), (1, .int k)]) X 0 (2) d_P_wrap_158 rfl (by decide) (by decide) rfl ?_
      refine pv_goto X 125 d_P_wrap_161 rfl ?_
      refine pv_iload_n X 0 d_P_wrap_125 rfl ?_
      refine pv_iconst X 3 d_P_wrap_126 (by decide) ?_
      refine pv_icmp_gt X 164 d_P_wrap_127 rfl (fun h => absurd h (by decide)) (fun _ => ?_)
      refine pv_aload_n X 2 d_P_wrap_130 rfl ?_
      refine pv_get X 0 8 u_P_in m_123 rfl rfl (by decide) ⟨rfl, rfl, rfl⟩ rfl d_P_wrap_131 ?_
      refine pv_iload_n X 0 d_P_wrap_134 rfl ?_
      refine pv_aload_n X 2 d_P_wrap_135 rfl ?_
      refine pv_get X 0 7 u_P_in m_122 rfl rfl (by decide) ⟨rfl, rfl, rfl⟩ rfl d_P_wrap_136 ?_
      refine pv_aload_n X 2 d_P_wrap_139 rfl ?_
      refine pv_get X 0 8 u_P_in m_123 rfl rfl (by decide) ⟨rfl, rfl, rfl⟩ rfl d_P_wrap_140 ?_
      refine pv_iload_n X 0 d_P_wrap_143 rfl ?_
      refine pv_lald X 21 rfl (by unfold vp_in; decide) d_P_wrap_144 ?_
      refine pv_topl (f_K_secondLong (lf k.toNatClampNeg) (rg k.toNatClampNeg)) rfl ?_
      refine pv_aload_n X 2 d_P_wrap_145 rfl ?_
      refine pv_get X 0 8 u_P_in m_123 rfl rfl (by decide) ⟨rfl, rfl, rfl⟩ rfl d_P_wrap_146 ?_
      refine pv_iload_n X 0 d_P_wrap_149 rfl ?_
      refine pv_iconst X 1 d_P_wrap_150 (by decide) ?_
      refine pv_isub X d_P_wrap_151 ?_
      refine pv_topi 1 (by decide) ?_
      refine pv_lald X 21 rfl (by unfold vp_in; decide) d_P_wrap_152 ?_
      refine pv_topl (sealB ml mr ((f_K_firstLong (lf k.toNatClampNeg)) ^^^ (K_hd ((us k.toNatClampNeg).toNatClampNeg)))) rfl ?_
      refine pv_lxor X d_P_wrap_153 ?_
      refine pv_calllE X (Cut.mk (w0 := [ob zc 3 [.ref zcl, .ref zcr], ob zcl 4 [.ref zclq, .long ml], aJ G zclq 16 (rkF ml), ob zcr 4 [.ref zcrq, .long mr], aJ G zcrq 16 (rkF mr)]) (wr := [ob zp 0 [.ref zph, .ref zpt, .int hm, .long ml, .long mr, .ref zs, .ref zt, .ref zc, .ref zpb, .ref zpm], aJ G zph 6 hv, aZ G zpt 6 ht, ob zs 1 [.ref zsf, .ref zsu, .ref zse, .ref zsl, .ref zsr], aZ G zsf 16 fi, aI G zsu 16 us, aZ G zse 16 ex, aJ G zsl 16 lf, aJ G zsr 16 rg, ob zt 2 [.ref ztm, .ref ztr, .ref ztl, .ref ztf, .ref ztd, .long cu, .long cv], aZ G ztm 8 md, aJ G ztr 8 re, aJ G ztl 8 fl, aJ G ztf 8 fr, ob ztd 4 [.ref ztdq, .long tk], aJ G ztdq 16 (rkF tk), aJ G zpb 5 (vp_updL (vp_updL (vp_updL (vp_updL (vp_updL bf 0 (K_hd ((us k.toNatClampNeg).toNatClampNeg))) 1 (f_K_firstLong (lf k.toNatClampNeg))) 2 (f_K_secondLong (lf k.toNatClampNeg) (rg k.toNatClampNeg))) 3 (f_K_thirdLong (rg k.toNatClampNeg))) 1 (sealB ml mr ((f_K_firstLong (lf k.toNatClampNeg)) ^^^ (K_hd ((us k.toNatClampNeg).toNatClampNeg))))), aJ G zpm 8 mg]) [16, 17, 18, 19, 20] [0, 1, 2, 3, 4, 5, 6, 7, 8, 9, 10, 11, 12, 13, 14, 15, 21, 22] rfl rfl rfl rfl rfl) (rn_V X (c_C_sealBlock l G zc zcl zclq zcr zcrq ml mr ((f_K_secondLong (lf k.toNatClampNeg) (rg k.toNatClampNeg)) ^^^ (sealB ml mr ((f_K_firstLong (lf k.toNatClampNeg)) ^^^ (K_hd ((us k.toNatClampNeg).toNatClampNeg)))))) hE mf_C_sealBlock m_255 m_193 m_194 rfl 0 rfl rfl rfl (by decide) (by decide) rfl (Nat.le_of_ble_eq_true rfl) d_P_wrap_154) (fun x10 => ?_)
      refine pv_ord (ws2 := [ob zp 0 [.ref zph, .ref zpt, .int hm, .long ml, .long mr, .ref zs, .ref zt, .ref zc, .ref zpb, .ref zpm], aJ G zph 6 hv, aZ G zpt 6 ht, ob zs 1 [.ref zsf, .ref zsu, .ref zse, .ref zsl, .ref zsr], aZ G zsf 16 fi, aI G zsu 16 us, aZ G zse 16 ex, aJ G zsl 16 lf, aJ G zsr 16 rg, ob zt 2 [.ref ztm, .ref ztr, .ref ztl, .ref ztf, .ref ztd, .long cu, .long cv], aZ G ztm 8 md, aJ G ztr 8 re, aJ G ztl 8 fl, aJ G ztf 8 fr, ob ztd 4 [.ref ztdq, .long tk], aJ G ztdq 16 (rkF tk), ob zc 3 [.ref zcl, .ref zcr], ob zcl 4 [.ref zclq, .long ml], aJ G zclq 16 (rkF ml), ob zcr 4 [.ref zcrq, .long mr], aJ G zcrq 16 (rkF mr), aJ G zpb 5 (vp_updL (vp_updL (vp_updL (vp_updL (vp_updL bf 0 (K_hd ((us k.toNatClampNeg).toNatClampNeg))) 1 (f_K_firstLong (lf k.toNatClampNeg))) 2 (f_K_secondLong (lf k.toNatClampNeg) (rg k.toNatClampNeg))) 3 (f_K_thirdLong (rg k.toNatClampNeg))) 1 (sealB ml mr ((f_K_firstLong (lf k.toNatClampNeg)) ^^^ (K_hd ((us k.toNatClampNeg).toNatClampNeg))))), aJ G zpm 8 mg]) [0, 1, 2, 3, 4, 5, 6, 7, 8, 9, 10, 11, 12, 13, 14, 15, 18, 19, 20, 21, 22, 16, 17] rfl rfl ?_
      refine pv_last (ws2 := [ob zp 0 [.ref zph, .ref zpt, .int hm, .long ml, .long mr, .ref zs, .ref zt, .ref zc, .ref zpb, .ref zpm], aJ G zph 6 hv, aZ G zpt 6 ht, ob zs 1 [.ref zsf, .ref zsu, .ref zse, .ref zsl, .ref zsr], aZ G zsf 16 fi, aI G zsu 16 us, aZ G zse 16 ex, aJ G zsl 16 lf, aJ G zsr 16 rg, ob zt 2 [.ref ztm, .ref ztr, .ref ztl, .ref ztf, .ref ztd, .long cu, .long cv], aZ G ztm 8 md, aJ G ztr 8 re, aJ G ztl 8 fl, aJ G ztf 8 fr, ob ztd 4 [.ref ztdq, .long tk], aJ G ztdq 16 (rkF tk), ob zc 3 [.ref zcl, .ref zcr], ob zcl 4 [.ref zclq, .long ml], aJ G zclq 16 (rkF ml), ob zcr 4 [.ref zcrq, .long mr], aJ G zcrq 16 (rkF mr), aJ G zpb 5 (vp_updL (vp_updL (vp_updL (vp_updL (vp_updL (vp_updL bf 0 (K_hd ((us k.toNatClampNeg).toNatClampNeg))) 1 (f_K_firstLong (lf k.toNatClampNeg))) 2 (f_K_secondLong (lf k.toNatClampNeg) (rg k.toNatClampNeg))) 3 (f_K_thirdLong (rg k.toNatClampNeg))) 1 (sealB ml mr ((f_K_firstLong (lf k.toNatClampNeg)) ^^^ (K_hd ((us k.toNatClampNeg).toNatClampNeg))))) 2 (sealB ml mr ((f_K_secondLong (lf k.toNatClampNeg) (rg k.toNatClampNeg)) ^^^ (sealB ml mr ((f_K_firstLong (lf k.toNatClampNeg)) ^^^ (K_hd ((us k.toNatClampNeg).toNatClampNeg))))))), aJ G zpm 8 mg]) X 21 rfl (by unfold vp_in; decide) rfl d_P_wrap_157 ?_
      refine pv_iinc (ll2 := [(3, .int 3), (2, .int (f_P_refusalOfSlot hm fi k)), (0, .ref zp), (1, .int k)]) X 0 (3) d_P_wrap_158 rfl (by decide) (by decide) rfl ?_
      refine pv_goto X 125 d_P_wrap_161 rfl ?_
      refine pv_iload_n X 0 d_P_wrap_125 rfl ?_
      refine pv_iconst X 3 d_P_wrap_126 (by decide) ?_
      refine pv_icmp_gt X 164 d_P_wrap_127 rfl (fun h => absurd h (by decide)) (fun _ => ?_)
      refine pv_aload_n X 2 d_P_wrap_130 rfl ?_
      refine pv_get X 0 8 u_P_in m_123 rfl rfl (by decide) ⟨rfl, rfl, rfl⟩ rfl d_P_wrap_131 ?_
      refine pv_iload_n X 0 d_P_wrap_134 rfl ?_
      refine pv_aload_n X 2 d_P_wrap_135 rfl ?_
      refine pv_get X 0 7 u_P_in m_122 rfl rfl (by decide) ⟨rfl, rfl, rfl⟩ rfl d_P_wrap_136 ?_
      refine pv_aload_n X 2 d_P_wrap_139 rfl ?_
      refine pv_get X 0 8 u_P_in m_123 rfl rfl (by decide) ⟨rfl, rfl, rfl⟩ rfl d_P_wrap_140 ?_
      refine pv_iload_n X 0 d_P_wrap_143 rfl ?_
      refine pv_lald X 21 rfl (by unfold vp_in; decide) d_P_wrap_144 ?_
      refine pv_topl (f_K_thirdLong (rg k.toNatClampNeg)) rfl ?_
      refine pv_aload_n X 2 d_P_wrap_145 rfl ?_
      refine pv_get X 0 8 u_P_in m_123 rfl rfl (by decide) ⟨rfl, rfl, rfl⟩ rfl d_P_wrap_146 ?_
      refine pv_iload_n X 0 d_P_wrap_149 rfl ?_
      refine pv_iconst X 1 d_P_wrap_150 (by decide) ?_
      refine pv_isub X d_P_wrap_151 ?_
      refine pv_topi 2 (by decide) ?_
      refine pv_lald X 21 rfl (by unfold vp_in; decide) d_P_wrap_152 ?_
      refine pv_topl (sealB ml mr ((f_K_secondLong (lf k.toNatClampNeg) (rg k.toNatClampNeg)) ^^^ (sealB ml mr ((f_K_firstLong (lf k.toNatClampNeg)) ^^^ (K_hd ((us k.toNatClampNeg).toNatClampNeg)))))) rfl ?_
      refine pv_lxor X d_P_wrap_153 ?_
      refine pv_calllE X (Cut.mk (w0 := [ob zc 3 [.ref zcl, .ref zcr], ob zcl 4 [.ref zclq, .long ml], aJ G zclq 16 (rkF ml), ob zcr 4 [.ref zcrq, .long mr], aJ G zcrq 16 (rkF mr)]) (wr := [ob zp 0 [.ref zph, .ref zpt, .int hm, .long ml, .long mr, .ref zs, .ref zt, .ref zc, .ref zpb, .ref zpm], aJ G zph 6 hv, aZ G zpt 6 ht, ob zs 1 [.ref zsf, .ref zsu, .ref zse, .ref zsl, .ref zsr], aZ G zsf 16 fi, aI G zsu 16 us, aZ G zse 16 ex, aJ G zsl 16 lf, aJ G zsr 16 rg, ob zt 2 [.ref ztm, .ref ztr, .ref ztl, .ref ztf, .ref ztd, .long cu, .long cv], aZ G ztm 8 md, aJ G ztr 8 re, aJ G ztl 8 fl, aJ G ztf 8 fr, ob ztd 4 [.ref ztdq, .long tk], aJ G ztdq 16 (rkF tk), aJ G zpb 5 (vp_updL (vp_updL (vp_updL (vp_updL (vp_updL (vp_updL bf 0 (K_hd ((us k.toNatClampNeg).toNatClampNeg))) 1 (f_K_firstLong (lf k.toNatClampNeg))) 2 (f_K_secondLong (lf k.toNatClampNeg) (rg k.toNatClampNeg))) 3 (f_K_thirdLong (rg k.toNatClampNeg))) 1 (sealB ml mr ((f_K_firstLong (lf k.toNatClampNeg)) ^^^ (K_hd ((us k.toNatClampNeg).toNatClampNeg))))) 2 (sealB ml mr ((f_K_secondLong (lf k.toNatClampNeg) (rg k.toNatClampNeg)) ^^^ (sealB ml mr ((f_K_firstLong (lf k.toNatClampNeg)) ^^^ (K_hd ((us k.toNatClampNeg).toNatClampNeg))))))), aJ G zpm 8 mg]) [16, 17, 18, 19, 20] [0, 1, 2, 3, 4, 5, 6, 7, 8, 9, 10, 11, 12, 13, 14, 15, 21, 22] rfl rfl rfl rfl rfl) (rn_V X (c_C_sealBlock l G zc zcl zclq zcr zcrq ml mr ((f_K_thirdLong (rg k.toNatClampNeg)) ^^^ (sealB ml mr ((f_K_secondLong (lf k.toNatClampNeg) (rg k.toNatClampNeg)) ^^^ (sealB ml mr ((f_K_firstLong (lf k.toNatClampNeg)) ^^^ (K_hd ((us k.toNatClampNeg).toNatClampNeg)))))))) hE mf_C_sealBlock m_255 m_193 m_194 rfl 0 rfl rfl rfl (by decide) (by decide) rfl (Nat.le_of_ble_eq_true rfl) d_P_wrap_154) (fun x11 => ?_)
      refine pv_ord (ws2 := [ob zp 0 [.ref zph, .ref zpt, .int hm, .long ml, .long mr, .ref zs, .ref zt, .ref zc, .ref zpb, .ref zpm], aJ G zph 6 hv, aZ G zpt 6 ht, ob zs 1 [.ref zsf, .ref zsu, .ref zse, .ref zsl, .ref zsr], aZ G zsf 16 fi, aI G zsu 16 us, aZ G zse 16 ex, aJ G zsl 16 lf, aJ G zsr 16 rg, ob zt 2 [.ref ztm, .ref ztr, .ref ztl, .ref ztf, .ref ztd, .long cu, .long cv], aZ G ztm 8 md, aJ G ztr 8 re, aJ G ztl 8 fl, aJ G ztf 8 fr, ob ztd 4 [.ref ztdq, .long tk], aJ G ztdq 16 (rkF tk), ob zc 3 [.ref zcl, .ref zcr], ob zcl 4 [.ref zclq, .long ml], aJ G zclq 16 (rkF ml), ob zcr 4 [.ref zcrq, .long mr], aJ G zcrq 16 (rkF mr), aJ G zpb 5 (vp_updL (vp_updL (vp_updL (vp_updL (vp_updL (vp_updL bf 0 (K_hd ((us k.toNatClampNeg).toNatClampNeg))) 1 (f_K_firstLong (lf k.toNatClampNeg))) 2 (f_K_secondLong (lf k.toNatClampNeg) (rg k.toNatClampNeg))) 3 (f_K_thirdLong (rg k.toNatClampNeg))) 1 (sealB ml mr ((f_K_firstLong (lf k.toNatClampNeg)) ^^^ (K_hd ((us k.toNatClampNeg).toNatClampNeg))))) 2 (sealB ml mr ((f_K_secondLong (lf k.toNatClampNeg) (rg k.toNatClampNeg)) ^^^ (sealB ml mr ((f_K_firstLong (lf k.toNatClampNeg)) ^^^ (K_hd ((us k.toNatClampNeg).toNatClampNeg))))))), aJ G zpm 8 mg]) [0, 1, 2, 3, 4, 5, 6, 7, 8, 9, 10, 11, 12, 13, 14, 15, 18, 19, 20, 21, 22, 16, 17] rfl rfl ?_
      refine pv_last (ws2 := [ob zp 0 [.ref zph, .ref zpt, .int hm, .long ml, .long mr, .ref zs, .ref zt, .ref zc, .ref zpb, .ref zpm], aJ G zph 6 hv, aZ G zpt 6 ht, ob zs 1 [.ref zsf, .ref zsu, .ref zse, .ref zsl, .ref zsr], aZ G zsf 16 fi, aI G zsu 16 us, aZ G zse 16 ex, aJ G zsl 16 lf, aJ G zsr 16 rg, ob zt 2 [.ref ztm, .ref ztr, .ref ztl, .ref ztf, .ref ztd, .long cu, .long cv], aZ G ztm 8 md, aJ G ztr 8 re, aJ G ztl 8 fl, aJ G ztf 8 fr, ob ztd 4 [.ref ztdq, .long tk], aJ G ztdq 16 (rkF tk), ob zc 3 [.ref zcl, .ref zcr], ob zcl 4 [.ref zclq, .long ml], aJ G zclq 16 (rkF ml), ob zcr 4 [.ref zcrq, .long mr], aJ G zcrq 16 (rkF mr), aJ G zpb 5 (vp_updL (vp_updL (vp_updL (vp_updL (vp_updL (vp_updL (vp_updL bf 0 (K_hd ((us k.toNatClampNeg).toNatClampNeg))) 1 (f_K_firstLong (lf k.toNatClampNeg))) 2 (f_K_secondLong (lf k.toNatClampNeg) (rg k.toNatClampNeg))) 3 (f_K_thirdLong (rg k.toNatClampNeg))) 1 (sealB ml mr ((f_K_firstLong (lf k.toNatClampNeg)) ^^^ (K_hd ((us k.toNatClampNeg).toNatClampNeg))))) 2 (sealB ml mr ((f_K_secondLong (lf k.toNatClampNeg) (rg k.toNatClampNeg)) ^^^ (sealB ml mr ((f_K_firstLong (lf k.toNatClampNeg)) ^^^ (K_hd ((us k.toNatClampNeg).toNatClampNeg))))))) 3 (sealB ml mr ((f_K_thirdLong (rg k.toNatClampNeg)) ^^^ (sealB ml mr ((f_K_secondLong (lf k.toNatClampNeg) (rg k.toNatClampNeg)) ^^^ (sealB ml mr ((f_K_firstLong (lf k.toNatClampNeg)) ^^^ (K_hd ((us k.toNatClampNeg).toNatClampNeg))))))))), aJ G zpm 8 mg]) X 21 rfl (by unfold vp_in; decide) rfl d_P_wrap_157 ?_
      refine pv_iinc (ll2 := [(3, .int 4), (2, .int (f_P_refusalOfSlot hm fi k)), (0, .ref zp), (1, .int k)]) X 0 (4) d_P_wrap_158 rfl (by decide) (by decide) rfl ?_
      refine pv_goto X 125 d_P_wrap_161 rfl ?_
      refine pv_iload_n X 0 d_P_wrap_125 rfl ?_
      refine pv_iconst X 3 d_P_wrap_126 (by decide) ?_
      refine pv_icmp_gt X 164 d_P_wrap_127 rfl (fun _ => ?_) (fun h => absurd (by decide) h)
      refine pv_aload_n X 2 d_P_wrap_164 rfl ?_
      refine pv_get X 0 8 u_P_in m_123 rfl rfl (by decide) ⟨rfl, rfl, rfl⟩ rfl d_P_wrap_165 ?_
      refine pv_iconst X 4 d_P_wrap_168 (by decide) ?_
      refine pv_aload_n X 2 d_P_wrap_169 rfl ?_
      refine pv_calllE X (Cut.all _) (rn_V X (c_P_codeOfKeyBlock l G zp zph zpt zs zsf zsu zse zsl zsr zt ztm ztr ztl ztf ztd ztdq zc zcl zclq zcr zcrq zpb zpm hv ht hm ml mr fi us ex lf rg md re fl fr tk cu cv ml mr (vp_updL (vp_updL (vp_updL (vp_updL (vp_updL (vp_updL (vp_updL bf 0 (K_hd ((us k.toNatClampNeg).toNatClampNeg))) 1 (f_K_firstLong (lf k.toNatClampNeg))) 2 (f_K_secondLong (lf k.toNatClampNeg) (rg k.toNatClampNeg))) 3 (f_K_thirdLong (rg k.toNatClampNeg))) 1 (sealB ml mr ((f_K_firstLong (lf k.toNatClampNeg)) ^^^ (K_hd ((us k.toNatClampNeg).toNatClampNeg))))) 2 (sealB ml mr ((f_K_secondLong (lf k.toNatClampNeg) (rg k.toNatClampNeg)) ^^^ (sealB ml mr ((f_K_firstLong (lf k.toNatClampNeg)) ^^^ (K_hd ((us k.toNatClampNeg).toNatClampNeg))))))) 3 (sealB ml mr ((f_K_thirdLong (rg k.toNatClampNeg)) ^^^ (sealB ml mr ((f_K_secondLong (lf k.toNatClampNeg) (rg k.toNatClampNeg)) ^^^ (sealB ml mr ((f_K_firstLong (lf k.toNatClampNeg)) ^^^ (K_hd ((us k.toNatClampNeg).toNatClampNeg))))))))) mg ) hE mf_P_codeOfKeyBlock m_256 m_258 ms_2 rfl 0 rfl rfl rfl (by decide) (by decide) rfl (Nat.le_of_ble_eq_true rfl) d_P_wrap_170) (fun x12 => ?_)
      refine pv_eqw (ws2 := [ob zp 0 [.ref zph, .ref zpt, .int hm, .long ml, .long mr, .ref zs, .ref zt, .ref zc, .ref zpb, .ref zpm], aJ G zph 6 hv, aZ G zpt 6 ht, ob zs 1 [.ref zsf, .ref zsu, .ref zse, .ref zsl, .ref zsr], aZ G zsf 16 fi, aI G zsu 16 us, aZ G zse 16 ex, aJ G zsl 16 lf, aJ G zsr 16 rg, ob zt 2 [.ref ztm, .ref ztr, .ref ztl, .ref ztf, .ref ztd, .long cu, .long cv], aZ G ztm 8 md, aJ G ztr 8 re, aJ G ztl 8 fl, aJ G ztf 8 fr, ob ztd 4 [.ref ztdq, .long tk], aJ G ztdq 16 (rkF tk), ob zc 3 [.ref zcl, .ref zcr], ob zcl 4 [.ref zclq, .long (g_P_codeOfKeyBlock_zcl_1 ml)], aJ G zclq 16 (rkF (g_P_codeOfKeyBlock_zcl_1 ml)), ob zcr 4 [.ref zcrq, .long (g_P_codeOfKeyBlock_zcr_1 mr)], aJ G zcrq 16 (rkF (g_P_codeOfKeyBlock_zcr_1 mr)), aJ G zpb 5 (vp_updL (vp_updL (vp_updL (vp_updL (vp_updL (vp_updL (vp_updL bf 0 (K_hd ((us k.toNatClampNeg).toNatClampNeg))) 1 (f_K_firstLong (lf k.toNatClampNeg))) 2 (f_K_secondLong (lf k.toNatClampNeg) (rg k.toNatClampNeg))) 3 (f_K_thirdLong (rg k.toNatClampNeg))) 1 (sealB ml mr ((f_K_firstLong (lf k.toNatClampNeg)) ^^^ (K_hd ((us k.toNatClampNeg).toNatClampNeg))))) 2 (sealB ml mr ((f_K_secondLong (lf k.toNatClampNeg) (rg k.toNatClampNeg)) ^^^ (sealB ml mr ((f_K_firstLong (lf k.toNatClampNeg)) ^^^ (K_hd ((us k.toNatClampNeg).toNatClampNeg))))))) 3 (sealB ml mr ((f_K_thirdLong (rg k.toNatClampNeg)) ^^^ (sealB ml mr ((f_K_secondLong (lf k.toNatClampNeg) (rg k.toNatClampNeg)) ^^^ (sealB ml mr ((f_K_firstLong (lf k.toNatClampNeg)) ^^^ (K_hd ((us k.toNatClampNeg).toNatClampNeg))))))))), aJ G zpm 8 mg]) rfl ?_
      refine pv_last (ws2 := [ob zp 0 [.ref zph, .ref zpt, .int hm, .long ml, .long mr, .ref zs, .ref zt, .ref zc, .ref zpb, .ref zpm], aJ G zph 6 hv, aZ G zpt 6 ht, ob zs 1 [.ref zsf, .ref zsu, .ref zse, .ref zsl, .ref zsr], aZ G zsf 16 fi, aI G zsu 16 us, aZ G zse 16 ex, aJ G zsl 16 lf, aJ G zsr 16 rg, ob zt 2 [.ref ztm, .ref ztr, .ref ztl, .ref ztf, .ref ztd, .long cu, .long cv], aZ G ztm 8 md, aJ G ztr 8 re, aJ G ztl 8 fl, aJ G ztf 8 fr, ob ztd 4 [.ref ztdq, .long tk], aJ G ztdq 16 (rkF tk), ob zc 3 [.ref zcl, .ref zcr], ob zcl 4 [.ref zclq, .long (g_P_codeOfKeyBlock_zcl_1 ml)], aJ G zclq 16 (rkF (g_P_codeOfKeyBlock_zcl_1 ml)), ob zcr 4 [.ref zcrq, .long (g_P_codeOfKeyBlock_zcr_1 mr)], aJ G zcrq 16 (rkF (g_P_codeOfKeyBlock_zcr_1 mr)), aJ G zpb 5 (vp_updL (vp_updL (vp_updL (vp_updL (vp_updL (vp_updL (vp_updL (vp_updL bf 0 (K_hd ((us k.toNatClampNeg).toNatClampNeg))) 1 (f_K_firstLong (lf k.toNatClampNeg))) 2 (f_K_secondLong (lf k.toNatClampNeg) (rg k.toNatClampNeg))) 3 (f_K_thirdLong (rg k.toNatClampNeg))) 1 (sealB ml mr ((f_K_firstLong (lf k.toNatClampNeg)) ^^^ (K_hd ((us k.toNatClampNeg).toNatClampNeg))))) 2 (sealB ml mr ((f_K_secondLong (lf k.toNatClampNeg) (rg k.toNatClampNeg)) ^^^ (sealB ml mr ((f_K_firstLong (lf k.toNatClampNeg)) ^^^ (K_hd ((us k.toNatClampNeg).toNatClampNeg))))))) 3 (sealB ml mr ((f_K_thirdLong (rg k.toNatClampNeg)) ^^^ (sealB ml mr ((f_K_secondLong (lf k.toNatClampNeg) (rg k.toNatClampNeg)) ^^^ (sealB ml mr ((f_K_firstLong (lf k.toNatClampNeg)) ^^^ (K_hd ((us k.toNatClampNeg).toNatClampNeg))))))))) 4 (f_P_codeOfKeyBlock ml mr (vp_updL (vp_updL (vp_updL (vp_updL (vp_updL (vp_updL (vp_updL bf 0 (K_hd ((us k.toNatClampNeg).toNatClampNeg))) 1 (f_K_firstLong (lf k.toNatClampNeg))) 2 (f_K_secondLong (lf k.toNatClampNeg) (rg k.toNatClampNeg))) 3 (f_K_thirdLong (rg k.toNatClampNeg))) 1 (sealB ml mr ((f_K_firstLong (lf k.toNatClampNeg)) ^^^ (K_hd ((us k.toNatClampNeg).toNatClampNeg))))) 2 (sealB ml mr ((f_K_secondLong (lf k.toNatClampNeg) (rg k.toNatClampNeg)) ^^^ (sealB ml mr ((f_K_firstLong (lf k.toNatClampNeg)) ^^^ (K_hd ((us k.toNatClampNeg).toNatClampNeg))))))) 3 (sealB ml mr ((f_K_thirdLong (rg k.toNatClampNeg)) ^^^ (sealB ml mr ((f_K_secondLong (lf k.toNatClampNeg) (rg k.toNatClampNeg)) ^^^ (sealB ml mr ((f_K_firstLong (lf k.toNatClampNeg)) ^^^ (K_hd ((us k.toNatClampNeg).toNatClampNeg))))))))))), aJ G zpm 8 mg]) X 21 rfl (by unfold vp_in; decide) rfl d_P_wrap_173 ?_
      refine pv_bipush X 40 d_P_wrap_174 (by decide) ?_
      exact pv_iret X hr hlk (g_P_codeOfKeyBlock_zcl_1 ml, g_P_codeOfKeyBlock_zcr_1 mr) (by show _ = f_P_wrap hm fi ex k; simp only [f_P_wrap, if_pos h2, if_neg h3]) (by simp only [g_P_wrap_zpb, if_pos h2, if_neg h3]) d_P_wrap_176
    · skip
      refine pv_bipush X (-5) d_P_wrap_24 (by decide) ?_
      exact pv_iret X hr hlk (kl, kr) (by show _ = f_P_wrap hm fi ex k; simp only [f_P_wrap, if_pos h2, if_pos h3n]) (by simp only [g_P_wrap_zpb, if_pos h2, if_pos h3n]) d_P_wrap_26
  · skip
    refine pv_iload_n X 0 d_P_wrap_10 rfl ?_
    exact pv_iret X hr hlk (kl, kr) (by show _ = f_P_wrap hm fi ex k; simp only [f_P_wrap, if_neg h2n]) (by simp only [g_P_wrap_zpb, if_neg h2n]) d_P_wrap_11
def f_P_unwrap (hm : Int32) (ml : Int64) (mr : Int64) (fi : Nat → Int32) (bf : Nat → Int64) (k : Int32) : Int32 := if hm = 0 then (-1) else (if (f_S_isNumber k) = 0 then (-2) else (if (fi k.toNatClampNeg) = 0 then (if (f_K_usageOfHeader (bf 0)) < 0 then (-6) else (if (lg_cmp (bf 4) (f_P_codeOfKeyBlock ml mr bf)) = 0 then (if (f_K_isFramed ((openB ml mr (bf 1)) ^^^ (bf 0)) ((openB ml mr (bf 3)) ^^^ (bf 2))) = 0 then (-6) else (if (lg_cmp (f_K_leftHalf ((openB ml mr (bf 1)) ^^^ (bf 0)) ((openB ml mr (bf 2)) ^^^ (bf 1))) (f_P_withOddParity (f_K_leftHalf ((openB ml mr (bf 1)) ^^^ (bf 0)) ((openB ml mr (bf 2)) ^^^ (bf 1))))) = 0 then (if (lg_cmp (f_K_rightHalf ((openB ml mr (bf 2)) ^^^ (bf 1)) ((openB ml mr (bf 3)) ^^^ (bf 2))) (f_P_withOddParity (f_K_rightHalf ((openB ml mr (bf 2)) ^^^ (bf 1)) ((openB ml mr (bf 3)) ^^^ (bf 2))))) = 0 then (f_K_usageOfHeader (bf 0)) else (-6)) else (-6))) else (-6))) else (-3)))
def g_P_unwrap_zsf (hm : Int32) (ml : Int64) (mr : Int64) (fi : Nat → Int32) (bf : Nat → Int64) (k : Int32) : Nat → Int32 := if hm = 0 then fi else (if (f_S_isNumber k) = 0 then fi else (if (fi k.toNatClampNeg) = 0 then (if (f_K_usageOfHeader (bf 0)) < 0 then fi else (if (lg_cmp (bf 4) (f_P_codeOfKeyBlock ml mr bf)) = 0 then (if (f_K_isFramed ((openB ml mr (bf 1)) ^^^ (bf 0)) ((openB ml mr (bf 3)) ^^^ (bf 2))) = 0 then fi else (if (lg_cmp (f_K_leftHalf ((openB ml mr (bf 1)) ^^^ (bf 0)) ((openB ml mr (bf 2)) ^^^ (bf 1))) (f_P_withOddParity (f_K_leftHalf ((openB ml mr (bf 1)) ^^^ (bf 0)) ((openB ml mr (bf 2)) ^^^ (bf 1))))) = 0 then (if (lg_cmp (f_K_rightHalf ((openB ml mr (bf 2)) ^^^ (bf 1)) ((openB ml mr (bf 3)) ^^^ (bf 2))) (f_P_withOddParity (f_K_rightHalf ((openB ml mr (bf 2)) ^^^ (bf 1)) ((openB ml mr (bf 3)) ^^^ (bf 2))))) = 0 then (upd fi (k.toNatClampNeg) 1) else fi) else fi)) else fi)) else fi))
def g_P_unwrap_zsu (hm : Int32) (ml : Int64) (mr : Int64) (fi : Nat → Int32) (us : Nat → Int32) (bf : Nat → Int64) (k : Int32) : Nat → Int32 := if hm = 0 then us else (if (f_S_isNumber k) = 0 then us else (if (fi k.toNatClampNeg) = 0 then (if (f_K_usageOfHeader (bf 0)) < 0 then us else (if (lg_cmp (bf 4) (f_P_codeOfKeyBlock ml mr bf)) = 0 then (if (f_K_isFramed ((openB ml mr (bf 1)) ^^^ (bf 0)) ((openB ml mr (bf 3)) ^^^ (bf 2))) = 0 then us else (if (lg_cmp (f_K_leftHalf ((openB ml mr (bf 1)) ^^^ (bf 0)) ((openB ml mr (bf 2)) ^^^ (bf 1))) (f_P_withOddParity (f_K_leftHalf ((openB ml mr (bf 1)) ^^^ (bf 0)) ((openB ml mr (bf 2)) ^^^ (bf 1))))) = 0 then (if (lg_cmp (f_K_rightHalf ((openB ml mr (bf 2)) ^^^ (bf 1)) ((openB ml mr (bf 3)) ^^^ (bf 2))) (f_P_withOddParity (f_K_rightHalf ((openB ml mr (bf 2)) ^^^ (bf 1)) ((openB ml mr (bf 3)) ^^^ (bf 2))))) = 0 then (upd us (k.toNatClampNeg) (f_K_usageOfHeader (bf 0))) else us) else us)) else us)) else us))
def g_P_unwrap_zse (hm : Int32) (ml : Int64) (mr : Int64) (fi : Nat → Int32) (ex : Nat → Int32) (bf : Nat → Int64) (k : Int32) : Nat → Int32 := if hm = 0 then ex else (if (f_S_isNumber k) = 0 then ex else (if (fi k.toNatClampNeg) = 0 then (if (f_K_usageOfHeader (bf 0)) < 0 then ex else (if (lg_cmp (bf 4) (f_P_codeOfKeyBlock ml mr bf)) = 0 then (if (f_K_isFramed ((openB ml mr (bf 1)) ^^^ (bf 0)) ((openB ml mr (bf 3)) ^^^ (bf 2))) = 0 then ex else (if (lg_cmp (f_K_leftHalf ((openB ml mr (bf 1)) ^^^ (bf 0)) ((openB ml mr (bf 2)) ^^^ (bf 1))) (f_P_withOddParity (f_K_leftHalf ((openB ml mr (bf 1)) ^^^ (bf 0)) ((openB ml mr (bf 2)) ^^^ (bf 1))))) = 0 then (if (lg_cmp (f_K_rightHalf ((openB ml mr (bf 2)) ^^^ (bf 1)) ((openB ml mr (bf 3)) ^^^ (bf 2))) (f_P_withOddParity (f_K_rightHalf ((openB ml mr (bf 2)) ^^^ (bf 1)) ((openB ml mr (bf 3)) ^^^ (bf 2))))) = 0 then (upd ex (k.toNatClampNeg) 1) else ex) else ex)) else ex)) else ex))
def g_P_unwrap_zsl (hm : Int32) (ml : Int64) (mr : Int64) (fi : Nat → Int32) (lf : Nat → Int64) (bf : Nat → Int64) (k : Int32) : Nat → Int64 := if hm = 0 then lf else (if (f_S_isNumber k) = 0 then lf else (if (fi k.toNatClampNeg) = 0 then (if (f_K_usageOfHeader (bf 0)) < 0 then lf else (if (lg_cmp (bf 4) (f_P_codeOfKeyBlock ml mr bf)) = 0 then (if (f_K_isFramed ((openB ml mr (bf 1)) ^^^ (bf 0)) ((openB ml mr (bf 3)) ^^^ (bf 2))) = 0 then lf else (if (lg_cmp (f_K_leftHalf ((openB ml mr (bf 1)) ^^^ (bf 0)) ((openB ml mr (bf 2)) ^^^ (bf 1))) (f_P_withOddParity (f_K_leftHalf ((openB ml mr (bf 1)) ^^^ (bf 0)) ((openB ml mr (bf 2)) ^^^ (bf 1))))) = 0 then (if (lg_cmp (f_K_rightHalf ((openB ml mr (bf 2)) ^^^ (bf 1)) ((openB ml mr (bf 3)) ^^^ (bf 2))) (f_P_withOddParity (f_K_rightHalf ((openB ml mr (bf 2)) ^^^ (bf 1)) ((openB ml mr (bf 3)) ^^^ (bf 2))))) = 0 then (vp_updL lf (k.toNatClampNeg) (f_K_leftHalf ((openB ml mr (bf 1)) ^^^ (bf 0)) ((openB ml mr (bf 2)) ^^^ (bf 1)))) else lf) else lf)) else lf)) else lf))
def g_P_unwrap_zsr (hm : Int32) (ml : Int64) (mr : Int64) (fi : Nat → Int32) (rg : Nat → Int64) (bf : Nat → Int64) (k : Int32) : Nat → Int64 := if hm = 0 then rg else (if (f_S_isNumber k) = 0 then rg else (if (fi k.toNatClampNeg) = 0 then (if (f_K_usageOfHeader (bf 0)) < 0 then rg else (if (lg_cmp (bf 4) (f_P_codeOfKeyBlock ml mr bf)) = 0 then (if (f_K_isFramed ((openB ml mr (bf 1)) ^^^ (bf 0)) ((openB ml mr (bf 3)) ^^^ (bf 2))) = 0 then rg else (if (lg_cmp (f_K_leftHalf ((openB ml mr (bf 1)) ^^^ (bf 0)) ((openB ml mr (bf 2)) ^^^ (bf 1))) (f_P_withOddParity (f_K_leftHalf ((openB ml mr (bf 1)) ^^^ (bf 0)) ((openB ml mr (bf 2)) ^^^ (bf 1))))) = 0 then (if (lg_cmp (f_K_rightHalf ((openB ml mr (bf 2)) ^^^ (bf 1)) ((openB ml mr (bf 3)) ^^^ (bf 2))) (f_P_withOddParity (f_K_rightHalf ((openB ml mr (bf 2)) ^^^ (bf 1)) ((openB ml mr (bf 3)) ^^^ (bf 2))))) = 0 then (vp_updL rg (k.toNatClampNeg) (f_K_rightHalf ((openB ml mr (bf 2)) ^^^ (bf 1)) ((openB ml mr (bf 3)) ^^^ (bf 2)))) else rg) else rg)) else rg)) else rg))
abbrev rm_P_unwrap : Room := { frames := 5, cells := 0, slots := 0, locals := 123 }
theorem mf_P_unwrap : MF y_P_unwrap b_P_unwrap 13 (some .int) 1 := ⟨m_264, m_1, by decide, by decide, by decide +kernel⟩
theorem d_P_unwrap_0 : decode b_P_unwrap 0 = .ok (.aload_n 0, 1) := by decide +kernel
theorem d_P_unwrap_1 : decode b_P_unwrap 1 = .ok (.getfield 51, 3) := by decide +kernel
theorem d_P_unwrap_4 : decode b_P_unwrap 4 = .ok (.ifCond .ne 5, 3) := by decide +kernel
theorem d_P_unwrap_7 : decode b_P_unwrap 7 = .ok (.iconst (-1), 1) := by decide +kernel
theorem d_P_unwrap_8 : decode b_P_unwrap 8 = .ok (.ireturn, 1) := by decide +kernel
theorem d_P_unwrap_9 : decode b_P_unwrap 9 = .ok (.iload_n 1, 1) := by decide +kernel
theorem d_P_unwrap_10 : decode b_P_unwrap 10 = .ok (.invokestatic 89, 3) := by decide +kernel
theorem d_P_unwrap_13 : decode b_P_unwrap 13 = .ok (.ifCond .ne 6, 3) := by decide +kernel
theorem d_P_unwrap_16 : decode b_P_unwrap 16 = .ok (.bipush (-2), 2) := by decide +kernel
theorem d_P_unwrap_18 : decode b_P_unwrap 18 = .ok (.ireturn, 1) := by decide +kernel
theorem d_P_unwrap_19 : decode b_P_unwrap 19 = .ok (.aload_n 0, 1) := by decide +kernel
theorem d_P_unwrap_20 : decode b_P_unwrap 20 = .ok (.getfield 20, 3) := by decide +kernel
theorem d_P_unwrap_23 : decode b_P_unwrap 23 = .ok (.getfield 93, 3) := by decide +kernel
theorem d_P_unwrap_26 : decode b_P_unwrap 26 = .ok (.iload_n 1, 1) := by decide +kernel
theorem d_P_unwrap_27 : decode b_P_unwrap 27 = .ok (.baload, 1) := by decide +kernel
theorem d_P_unwrap_28 : decode b_P_unwrap 28 = .ok (.ifCond .eq 6, 3) := by decide +kernel
theorem d_P_unwrap_31 : decode b_P_unwrap 31 = .ok (.bipush (-3), 2) := by decide +kernel
theorem d_P_unwrap_33 : decode b_P_unwrap 33 = .ok (.ireturn, 1) := by decide +kernel
theorem d_P_unwrap_34 : decode b_P_unwrap 34 = .ok (.aload_n 0, 1) := by decide +kernel
theorem d_P_unwrap_35 : decode b_P_unwrap 35 = .ok (.getfield 38, 3) := by decide +kernel
theorem d_P_unwrap_38 : decode b_P_unwrap 38 = .ok (.iconst 0, 1) := by decide +kernel
theorem d_P_unwrap_39 : decode b_P_unwrap 39 = .ok (.laload, 1) := by decide +kernel
theorem d_P_unwrap_40 : decode b_P_unwrap 40 = .ok (.invokestatic 144, 3) := by decide +kernel
theorem d_P_unwrap_43 : decode b_P_unwrap 43 = .ok (.istore_n 2, 1) := by decide +kernel
theorem d_P_unwrap_44 : decode b_P_unwrap 44 = .ok (.iload_n 2, 1) := by decide +kernel
theorem d_P_unwrap_45 : decode b_P_unwrap 45 = .ok (.ifCond .lt 17, 3) := by decide +kernel
theorem d_P_unwrap_48 : decode b_P_unwrap 48 = .ok (.aload_n 0, 1) := by decide +kernel
theorem d_P_unwrap_49 : decode b_P_unwrap 49 = .ok (.getfield 38, 3) := by decide +kernel
theorem d_P_unwrap_52 : decode b_P_unwrap 52 = .ok (.iconst 4, 1) := by decide +kernel
theorem d_P_unwrap_53 : decode b_P_unwrap 53 = .ok (.laload, 1) := by decide +kernel
theorem d_P_unwrap_54 : decode b_P_unwrap 54 = .ok (.aload_n 0, 1) := by decide +kernel
theorem d_P_unwrap_55 : decode b_P_unwrap 55 = .ok (.invokevirtual 140, 3) := by decide +kernel
theorem d_P_unwrap_58 : decode b_P_unwrap 58 = .ok (.lcmp, 1) := by decide +kernel
theorem d_P_unwrap_59 : decode b_P_unwrap 59 = .ok (.ifCond .eq 6, 3) := by decide +kernel
theorem d_P_unwrap_62 : decode b_P_unwrap 62 = .ok (.bipush (-6), 2) := by decide +kernel
theorem d_P_unwrap_64 : decode b_P_unwrap 64 = .ok (.ireturn, 1) := by decide +kernel
theorem d_P_unwrap_65 : decode b_P_unwrap 65 = .ok (.aload_n 0, 1) := by decide +kernel
theorem d_P_unwrap_66 : decode b_P_unwrap 66 = .ok (.getfield 34, 3) := by decide +kernel
theorem d_P_unwrap_69 : decode b_P_unwrap 69 = .ok (.aload_n 0, 1) := by decide +kernel
theorem d_P_unwrap_70 : decode b_P_unwrap 70 = .ok (.getfield 70, 3) := by decide +kernel
theorem d_P_unwrap_73 : decode b_P_unwrap 73 = .ok (.aload_n 0, 1) := by decide +kernel
theorem d_P_unwrap_74 : decode b_P_unwrap 74 = .ok (.getfield 74, 3) := by decide +kernel
theorem d_P_unwrap_77 : decode b_P_unwrap 77 = .ok (.invokevirtual 77, 3) := by decide +kernel
theorem d_P_unwrap_80 : decode b_P_unwrap 80 = .ok (.aload_n 0, 1) := by decide +kernel
theorem d_P_unwrap_81 : decode b_P_unwrap 81 = .ok (.getfield 34, 3) := by decide +kernel
theorem d_P_unwrap_84 : decode b_P_unwrap 84 = .ok (.aload_n 0, 1) := by decide +kernel
theorem d_P_unwrap_85 : decode b_P_unwrap 85 = .ok (.getfield 38, 3) := by decide +kernel
theorem d_P_unwrap_88 : decode b_P_unwrap 88 = .ok (.iconst 1, 1) := by decide +kernel
theorem d_P_unwrap_89 : decode b_P_unwrap 89 = .ok (.laload, 1) := by decide +kernel
theorem d_P_unwrap_90 : decode b_P_unwrap 90 = .ok (.invokevirtual 148, 3) := by decide +kernel
theorem d_P_unwrap_93 : decode b_P_unwrap 93 = .ok (.aload_n 0, 1) := by decide +kernel
theorem d_P_unwrap_94 : decode b_P_unwrap 94 = .ok (.getfield 38, 3) := by decide +kernel
theorem d_P_unwrap_97 : decode b_P_unwrap 97 = .ok (.iconst 0, 1) := by decide +kernel
theorem d_P_unwrap_98 : decode b_P_unwrap 98 = .ok (.laload, 1) := by decide +kernel
theorem d_P_unwrap_99 : decode b_P_unwrap 99 = .ok (.lxor, 1) := by decide +kernel
theorem d_P_unwrap_100 : decode b_P_unwrap 100 = .ok (.lstore_n 3, 1) := by decide +kernel
theorem d_P_unwrap_101 : decode b_P_unwrap 101 = .ok (.aload_n 0, 1) := by decide +kernel
theorem d_P_unwrap_102 : decode b_P_unwrap 102 = .ok (.getfield 34, 3) := by decide +kernel
theorem d_P_unwrap_105 : decode b_P_unwrap 105 = .ok (.aload_n 0, 1) := by decide +kernel
theorem d_P_unwrap_106 : decode b_P_unwrap 106 = .ok (.getfield 38, 3) := by decide +kernel
theorem d_P_unwrap_109 : decode b_P_unwrap 109 = .ok (.iconst 2, 1) := by decide +kernel
theorem d_P_unwrap_110 : decode b_P_unwrap 110 = .ok (.laload, 1) := by decide +kernel
theorem d_P_unwrap_111 : decode b_P_unwrap 111 = .ok (.invokevirtual 148, 3) := by decide +kernel
theorem d_P_unwrap_114 : decode b_P_unwrap 114 = .ok (.aload_n 0, 1) := by decide +kernel
theorem d_P_unwrap_115 : decode b_P_unwrap 115 = .ok (.getfield 38, 3) := by decide +kernel
theorem d_P_unwrap_118 : decode b_P_unwrap 118 = .ok (.iconst 1, 1) := by decide +kernel
theorem d_P_unwrap_119 : decode b_P_unwrap 119 = .ok (.laload, 1) := by decide +kernel
theorem d_P_unwrap_120 : decode b_P_unwrap 120 = .ok (.lxor, 1) := by decide +kernel
theorem d_P_unwrap_121 : decode b_P_unwrap 121 = .ok (.lstore 5, 2) := by decide +kernel
theorem d_P_unwrap_123 : decode b_P_unwrap 123 = .ok (.aload_n 0, 1) := by decide +kernel
theorem d_P_unwrap_124 : decode b_P_unwrap 124 = .ok (.getfield 34, 3) := by decide +kernel
theorem d_P_unwrap_127 : decode b_P_unwrap 127 = .ok (.aload_n 0, 1) := by decide +kernel
theorem d_P_unwrap_128 : decode b_P_unwrap 128 = .ok (.getfield 38, 3) := by decide +kernel
theorem d_P_unwrap_131 : decode b_P_unwrap 131 = .ok (.iconst 3, 1) := by decide +kernel
theorem d_P_unwrap_132 : decode b_P_unwrap 132 = .ok (.laload, 1) := by decide +kernel
theorem d_P_unwrap_133 : decode b_P_unwrap 133 = .ok (.invokevirtual 148, 3) := by decide +kernel
theorem d_P_unwrap_136 : decode b_P_unwrap 136 = .ok (.aload_n 0, 1) := by decide +kernel
theorem d_P_unwrap_137 : decode b_P_unwrap 137 = .ok (.getfield 38, 3) := by decide +kernel
theorem d_P_unwrap_140 : decode b_P_unwrap 140 = .ok (.iconst 2, 1) := by decide +kernel
theorem d_P_unwrap_141 : decode b_P_unwrap 141 = .ok (.laload, 1) := by decide +kernel
theorem d_P_unwrap_142 : decode b_P_unwrap 142 = .ok (.lxor, 1) := by decide +kernel
theorem d_P_unwrap_143 : decode b_P_unwrap 143 = .ok (.lstore 7, 2) := by decide +kernel
theorem d_P_unwrap_145 : decode b_P_unwrap 145 = .ok (.lload_n 3, 1) := by decide +kernel
theorem d_P_unwrap_146 : decode b_P_unwrap 146 = .ok (.lload 5, 2) := by decide +kernel
theorem d_P_unwrap_148 : decode b_P_unwrap 148 = .ok (.invokestatic 151, 3) := by decide +kernel
theorem d_P_unwrap_151 : decode b_P_unwrap 151 = .ok (.lstore 9, 2) := by decide +kernel
theorem d_P_unwrap_153 : decode b_P_unwrap 153 = .ok (.lload 5, 2) := by decide +kernel
theorem d_P_unwrap_155 : decode b_P_unwrap 155 = .ok (.lload 7, 2) := by decide +kernel
theorem d_P_unwrap_157 : decode b_P_unwrap 157 = .ok (.invokestatic 154, 3) := by decide +kernel
theorem d_P_unwrap_160 : decode b_P_unwrap 160 = .ok (.lstore 11, 2) := by decide +kernel
theorem d_P_unwrap_162 : decode b_P_unwrap 162 = .ok (.lload_n 3, 1) := by decide +kernel
theorem d_P_unwrap_163 : decode b_P_unwrap 163 = .ok (.lload 7, 2) := by decide +kernel
theorem d_P_unwrap_165 : decode b_P_unwrap 165 = .ok (.invokestatic 157, 3) := by decide +kernel
theorem d_P_unwrap_168 : decode b_P_unwrap 168 = .ok (.ifCond .eq 25, 3) := by decide +kernel
theorem d_P_unwrap_171 : decode b_P_unwrap 171 = .ok (.lload 9, 2) := by decide +kernel
theorem d_P_unwrap_173 : decode b_P_unwrap 173 = .ok (.lload 9, 2) := by decide +kernel
theorem d_P_unwrap_175 : decode b_P_unwrap 175 = .ok (.invokestatic 66, 3) := by decide +kernel
theorem d_P_unwrap_178 : decode b_P_unwrap 178 = .ok (.lcmp, 1) := by decide +kernel
theorem d_P_unwrap_179 : decode b_P_unwrap 179 = .ok (.ifCond .ne 14, 3) := by decide +kernel
theorem d_P_unwrap_182 : decode b_P_unwrap 182 = .ok (.lload 11, 2) := by decide +kernel
theorem d_P_unwrap_184 : decode b_P_unwrap 184 = .ok (.lload 11, 2) := by decide +kernel
theorem d_P_unwrap_186 : decode b_P_unwrap 186 = .ok (.invokestatic 66, 3) := by decide +kernel
theorem d_P_unwrap_189 : decode b_P_unwrap 189 = .ok (.lcmp, 1) := by decide +kernel
theorem d_P_unwrap_190 : decode b_P_unwrap 190 = .ok (.ifCond .eq 6, 3) := by decide +kernel
theorem d_P_unwrap_193 : decode b_P_unwrap 193 = .ok (.bipush (-6), 2) := by decide +kernel
theorem d_P_unwrap_195 : decode b_P_unwrap 195 = .ok (.ireturn, 1) := by decide +kernel
theorem d_P_unwrap_196 : decode b_P_unwrap 196 = .ok (.aload_n 0, 1) := by decide +kernel
theorem d_P_unwrap_197 : decode b_P_unwrap 197 = .ok (.getfield 20, 3) := by decide +kernel
theorem d_P_unwrap_200 : decode b_P_unwrap 200 = .ok (.iload_n 1, 1) := by decide +kernel
theorem d_P_unwrap_201 : decode b_P_unwrap 201 = .ok (.iload_n 2, 1) := by decide +kernel
theorem d_P_unwrap_202 : decode b_P_unwrap 202 = .ok (.iconst 1, 1) := by decide +kernel
theorem d_P_unwrap_203 : decode b_P_unwrap 203 = .ok (.lload 9, 2) := by decide +kernel
theorem d_P_unwrap_205 : decode b_P_unwrap 205 = .ok (.lload 11, 2) := by decide +kernel
theorem d_P_unwrap_207 : decode b_P_unwrap 207 = .ok (.invokevirtual 96, 3) := by decide +kernel
theorem d_P_unwrap_210 : decode b_P_unwrap 210 = .ok (.iload_n 2, 1) := by decide +kernel
theorem d_P_unwrap_211 : decode b_P_unwrap 211 = .ok (.ireturn, 1) := by decide +kernel
set_option maxRecDepth 100000 in
set_option maxHeartbeats 4000000 in
theorem c_P_unwrap (l : Launch) (G : Gt) (zp zph zpt zs zsf zsu zse zsl zsr zt ztm ztr ztl ztf ztd ztdq zc zcl zclq zcr zcrq zpb zpm : Nat) (hv : Nat → Int64) (ht : Nat → Int32) (hm : Int32) (ml mr : Int64) (fi us ex : Nat → Int32) (lf rg : Nat → Int64) (md : Nat → Int32) (re fl fr : Nat → Int64) (tk cu cv kl kr : Int64) (bf mg : Nat → Int64) (k : Int32) : CtI l G y_P_unwrap b_P_unwrap 13 (some .int) rm_P_unwrap Sx [.ref zp, .int k] [ob zp 0 [.ref zph, .ref zpt, .int hm, .long ml, .long mr, .ref zs, .ref zt, .ref zc, .ref zpb, .ref zpm], aJ G zph 6 hv, aZ G zpt 6 ht, ob zs 1 [.ref zsf, .ref zsu, .ref zse, .ref zsl, .ref zsr], aZ G zsf 16 fi, aI G zsu 16 us, aZ G zse 16 ex, aJ G zsl 16 lf, aJ G zsr 16 rg, ob zt 2 [.ref ztm, .ref ztr, .ref ztl, .ref ztf, .ref ztd, .long cu, .long cv], aZ G ztm 8 md, aJ G ztr 8 re, aJ G ztl 8 fl, aJ G ztf 8 fr, ob ztd 4 [.ref ztdq, .long tk], aJ G ztdq 16 (rkF tk), ob zc 3 [.ref zcl, .ref zcr], ob zcl 4 [.ref zclq, .long kl], aJ G zclq 16 (rkF kl), ob zcr 4 [.ref zcrq, .long kr], aJ G zcrq 16 (rkF kr), aJ G zpb 5 bf, aJ G zpm 8 mg] (fun r (_ : Int64 × Int64) => r = f_P_unwrap hm ml mr fi bf k) (fun x => [ob zp 0 [.ref zph, .ref zpt, .int hm, .long ml, .long mr, .ref zs, .ref zt, .ref zc, .ref zpb, .ref zpm], aJ G zph 6 hv, aZ G zpt 6 ht, ob zs 1 [.ref zsf, .ref zsu, .ref zse, .ref zsl, .ref zsr], aZ G zsf 16 (g_P_unwrap_zsf hm ml mr fi bf k), aI G zsu 16 (g_P_unwrap_zsu hm ml mr fi us bf k), aZ G zse 16 (g_P_unwrap_zse hm ml mr fi ex bf k), aJ G zsl 16 (g_P_unwrap_zsl hm ml mr fi lf bf k), aJ G zsr 16 (g_P_unwrap_zsr hm ml mr fi rg bf k), ob zt 2 [.ref ztm, .ref ztr, .ref ztl, .ref ztf, .ref ztd, .long cu, .long cv], aZ G ztm 8 md, aJ G ztr 8 re, aJ G ztl 8 fl, aJ G ztf 8 fr, ob ztd 4 [.ref ztdq, .long tk], aJ G ztdq 16 (rkF tk), ob zc 3 [.ref zcl, .ref zcr], ob zcl 4 [.ref zclq, .long x.1], aJ G zclq 16 (rkF x.1), ob zcr 4 [.ref zcrq, .long x.2], aJ G zcrq 16 (rkF x.2), aJ G zpb 5 bf, aJ G zpm 8 mg]) 0 0 := by
  refine Ct.of (Qp := fun A => va_Qi _ (qB G A _) A) Sx_stb (by decide) (Nat.le_of_ble_eq_true rfl) ?_
  intro p e s m args below meth c A X hE hr hlk hini
  refine pv_eql (ll2 := [(0, .ref zp), (1, .int k)]) rfl ?_
  refine pv_aload_n X 0 d_P_unwrap_0 rfl ?_
  refine pv_get X 0 2 u_P_in m_117 rfl rfl (by decide) ⟨rfl, rfl, rfl⟩ rfl d_P_unwrap_1 ?_
  refine pv_if_ne X 9 d_P_unwrap_4 rfl (fun h1 => ?_) (fun h1n => ?_)
  · skip
    refine pv_iload_n X 1 d_P_unwrap_9 rfl ?_
    refine pv_calli0 X (rn_S X (c_S_isNumber l G k) trivial mf_S_isNumber m_150 m_151 rfl (by decide) (by decide) rfl (Nat.le_of_ble_eq_true rfl) d_P_unwrap_10) ?_
    refine pv_if_ne X 19 d_P_unwrap_13 rfl (fun h3 => ?_) (fun h3n => ?_)
    · skip
      refine pv_aload_n X 0 d_P_unwrap_19 rfl ?_
      refine pv_get X 0 5 u_P_in m_120 rfl rfl (by decide) ⟨rfl, rfl, rfl⟩ rfl d_P_unwrap_20 ?_
      refine pv_get X 3 0 u_S_in m_31 rfl rfl (by decide) ⟨rfl, rfl, rfl⟩ rfl d_P_unwrap_23 ?_
      refine pv_iload_n X 1 d_P_unwrap_26 rfl ?_
      refine pv_zald X 4 rfl (S_in h3) d_P_unwrap_27 ?_
      refine pv_if_eq X 34 d_P_unwrap_28 rfl (fun h4 => ?_) (fun h4n => ?_)
      · skip
        refine pv_aload_n X 0 d_P_unwrap_34 rfl ?_
        refine pv_get X 0 8 u_P_in m_123 rfl rfl (by decide) ⟨rfl, rfl, rfl⟩ rfl d_P_unwrap_35 ?_
        refine pv_iconst X 0 d_P_unwrap_38 (by decide) ?_
        refine pv_lald X 21 rfl (by unfold vp_in; decide) d_P_unwrap_39 ?_
        refine pv_topl (bf 0) rfl ?_
        refine pv_calli0 X (rn_S X (c_K_usageOfHeader l G (bf 0)) hE mf_K_usageOfHeader m_265 m_266 rfl (by decide) (by decide) rfl (Nat.le_of_ble_eq_true rfl) d_P_unwrap_40) ?_
        refine pv_istore_n (ll2 := [(2, .int (f_K_usageOfHeader (bf 0))), (0, .ref zp), (1, .int k)]) X d_P_unwrap_43 (by decide) rfl ?_
        refine pv_iload_n X 0 d_P_unwrap_44 rfl ?_
        refine pv_if_lt X 62 d_P_unwrap_45 rfl (fun h6 => ?_) (fun h6n => ?_)
        · skip
          refine pv_bipush X (-6) d_P_unwrap_62 (by decide) ?_
          exact pv_iret X hr hlk (kl, kr) (by show _ = f_P_unwrap hm ml mr fi bf k; simp only [f_P_unwrap, if_neg h1, if_neg h3, if_pos h4, if_pos h6]) (by simp only [g_P_unwrap_zsf, g_P_unwrap_zsu, g_P_unwrap_zse, g_P_unwrap_zsl, g_P_unwrap_zsr, if_neg h1, if_neg h3, if_pos h4, if_pos h6]) d_P_unwrap_64
        · skip
          refine pv_aload_n X 1 d_P_unwrap_48 rfl ?_
          refine pv_get X 0 8 u_P_in m_123 rfl rfl (by decide) ⟨rfl, rfl, rfl⟩ rfl d_P_unwrap_49 ?_
          refine pv_iconst X 4 d_P_unwrap_52 (by decide) ?_
          refine pv_lald X 21 rfl (by unfold vp_in; decide) d_P_unwrap_53 ?_
          refine pv_topl (bf 4) rfl ?_
          refine pv_aload_n X 1 d_P_unwrap_54 rfl ?_
          refine pv_calllE X (Cut.all _) (rn_V X (c_P_codeOfKeyBlock l G zp zph zpt zs zsf zsu zse zsl zsr zt ztm ztr ztl ztf ztd ztdq zc zcl zclq zcr zcrq zpb zpm hv ht hm ml mr fi us ex lf rg md re fl fr tk cu cv kl kr bf mg ) hE mf_P_codeOfKeyBlock m_256 m_258 ms_2 rfl 0 rfl rfl rfl (by decide) (by decide) rfl (Nat.le_of_ble_eq_true rfl) d_P_unwrap_55) (fun x7 => ?_)
          refine pv_eqw (ws2 := [ob zp 0 [.ref zph, .ref zpt, .int hm, .long ml, .long mr, .ref zs, .ref zt, .ref zc, .ref zpb, .ref zpm], aJ G zph 6 hv, aZ G zpt 6 ht, ob zs 1 [.ref zsf, .ref zsu, .ref zse, .ref zsl, .ref zsr], aZ G zsf 16 fi, aI G zsu 16 us, aZ G zse 16 ex, aJ G zsl 16 lf, aJ G zsr 16 rg, ob zt 2 [.ref ztm, .ref ztr, .ref ztl, .ref ztf, .ref ztd, .long cu, .long cv], aZ G ztm 8 md, aJ G ztr 8 re, aJ G ztl 8 fl, aJ G ztf 8 fr, ob ztd 4 [.ref ztdq, .long tk], aJ G ztdq 16 (rkF tk), ob zc 3 [.ref zcl, .ref zcr], ob zcl 4 [.ref zclq, .long (g_P_codeOfKeyBlock_zcl_1 ml)], aJ G zclq 16 (rkF (g_P_codeOfKeyBlock_zcl_1 ml)), ob zcr 4 [.ref zcrq, .long (g_P_codeOfKeyBlock_zcr_1 mr)], aJ G zcrq 16 (rkF (g_P_codeOfKeyBlock_zcr_1 mr)), aJ G zpb 5 bf, aJ G zpm 8 mg]) rfl ?_
          refine pv_lcmp X d_P_unwrap_58 ?_
          refine pv_if_eq X 65 d_P_unwrap_59 rfl (fun h8 => ?_) (fun h8n => ?_)
          · skip
            refine pv_aload_n X 1 d_P_unwrap_65 rfl ?_
            refine pv_get X 0 7 u_P_in m_122 rfl rfl (by decide) ⟨rfl, rfl, rfl⟩ rfl d_P_unwrap_66 ?_
            refine pv_aload_n X 1 d_P_unwrap_69 rfl ?_
            refine pv_get X 0 3 u_P_in m_118 rfl rfl (by decide) ⟨rfl, rfl, rfl⟩ rfl d_P_unwrap_70 ?_
            refine pv_aload_n X 1 d_P_unwrap_73 rfl ?_
            refine pv_get X 0 4 u_P_in m_119 rfl rfl (by decide) ⟨rfl, rfl, rfl⟩ rfl d_P_unwrap_74 ?_
            refine pv_callv X (Cut.mk (w0 := [ob zc 3 [.ref zcl, .ref zcr], ob zcl 4 [.ref zclq, .long (g_P_codeOfKeyBlock_zcl_1 ml)], aJ G zclq 16 (rkF (g_P_codeOfKeyBlock_zcl_1 ml)), ob zcr 4 [.ref zcrq, .long (g_P_codeOfKeyBlock_zcr_1 mr)], aJ G zcrq 16 (rkF (g_P_codeOfKeyBlock_zcr_1 mr))]) (wr := [ob zp 0 [.ref zph, .ref zpt, .int hm, .long ml, .long mr, .ref zs, .ref zt, .ref zc, .ref zpb, .ref zpm], aJ G zph 6 hv, aZ G zpt 6 ht, ob zs 1 [.ref zsf, .ref zsu, .ref zse, .ref zsl, .ref zsr], aZ G zsf 16 fi, aI G zsu 16 us, aZ G zse 16 ex, aJ G zsl 16 lf, aJ G zsr 16 rg, ob zt 2 [.ref ztm, .ref ztr, .ref ztl, .ref ztf, .ref ztd, .long cu, .long cv], aZ G ztm 8 md, aJ G ztr 8 re, aJ G ztl 8 fl, aJ G ztf 8 fr, ob ztd 4 [.ref ztdq, .long tk], aJ G ztdq 16 (rkF tk), aJ G zpb 5 bf, aJ G zpm 8 mg]) [16, 17, 18, 19, 20] [0, 1, 2, 3, 4, 5, 6, 7, 8, 9, 10, 11, 12, 13, 14, 15, 21, 22] rfl rfl rfl rfl rfl) (rn_V X (c_C_take l G zc zcl zclq zcr zcrq (g_P_codeOfKeyBlock_zcl_1 ml) (g_P_codeOfKeyBlock_zcr_1 mr) ml mr) hE mf_C_take m_167 m_168 m_169 rfl 0 rfl rfl rfl (by decide) (by decide) rfl (Nat.le_of_ble_eq_true rfl) d_P_unwrap_77) (fun x9 e9 => ?_)
            refine pv_ord (ws2 := [ob zp 0 [.ref zph, .ref zpt, .int hm, .long ml, .long mr, .ref zs, .ref zt, .ref zc, .ref zpb, .ref zpm], aJ G zph 6 hv, aZ G zpt 6 ht, ob zs 1 [.ref zsf, .ref zsu, .ref zse, .ref zsl, .ref zsr], aZ G zsf 16 fi, aI G zsu 16 us, aZ G zse 16 ex, aJ G zsl 16 lf, aJ G zsr 16 rg, ob zt 2 [.ref ztm, .ref ztr, .ref ztl, .ref ztf, .ref ztd, .long cu, .long cv], aZ G ztm 8 md, aJ G ztr 8 re, aJ G ztl 8 fl, aJ G ztf 8 fr, ob ztd 4 [.ref ztdq, .long tk], aJ G ztdq 16 (rkF tk), ob zc 3 [.ref zcl, .ref zcr], ob zcl 4 [.ref zclq, .long ml], aJ G zclq 16 (rkF ml), ob zcr 4 [.ref zcrq, .long mr], aJ G zcrq 16 (rkF mr), aJ G zpb 5 bf, aJ G zpm 8 mg]) [0, 1, 2, 3, 4, 5, 6, 7, 8, 9, 10, 11, 12, 13, 14, 15, 18, 19, 20, 21, 22, 16, 17] rfl rfl ?_
            refine pv_aload_n X 1 d_P_unwrap_80 rfl ?_
            refine pv_get X 0 7 u_P_in m_122 rfl rfl (by decide) ⟨rfl, rfl, rfl⟩ rfl d_P_unwrap_81 ?_
            refine pv_aload_n X 1 d_P_unwrap_84 rfl ?_
            refine pv_get X 0 8 u_P_in m_123 rfl rfl (by decide) ⟨rfl, rfl, rfl⟩ rfl d_P_unwrap_85 ?_
            refine pv_iconst X 1 d_P_unwrap_88 (by decide) ?_
            refine pv_lald X 21 rfl (by unfold vp_in; decide) d_P_unwrap_89 ?_
            refine pv_topl (bf 1) rfl ?_
            refine pv_calllE X (Cut.mk (w0 := [ob zc 3 [.ref zcl, .ref zcr], ob zcl 4 [.ref zclq, .long ml], aJ G zclq 16 (rkF ml), ob zcr 4 [.ref zcrq, .long mr], aJ G zcrq 16 (rkF mr)]) (wr := [ob zp 0 [.ref zph, .ref zpt, .int hm, .long ml, .long mr, .ref zs, .ref zt, .ref zc, .ref zpb, .ref zpm], aJ G zph 6 hv, aZ G zpt 6 ht, ob zs 1 [.ref zsf, .ref zsu, .ref zse, .ref zsl, .ref zsr], aZ G zsf 16 fi, aI G zsu 16 us, aZ G zse 16 ex, aJ G zsl 16 lf, aJ G zsr 16 rg, ob zt 2 [.ref ztm, .ref ztr, .ref ztl, .ref ztf, .ref ztd, .long cu, .long cv], aZ G ztm 8 md, aJ G ztr 8 re, aJ G ztl 8 fl, aJ G ztf 8 fr, ob ztd 4 [.ref ztdq, .long tk], aJ G ztdq 16 (rkF tk), aJ G zpb 5 bf, aJ G zpm 8 mg]) [16, 17, 18, 19, 20] [0, 1, 2, 3, 4, 5, 6, 7, 8, 9, 10, 11, 12, 13, 14, 15, 21, 22] rfl rfl rfl rfl rfl) (rn_V X (c_C_openBlock l G zc zcl zclq zcr zcrq ml mr (bf 1)) hE mf_C_openBlock m_269 m_270 m_271 rfl 0 rfl rfl rfl (by decide) (by decide) rfl (Nat.le_of_ble_eq_true rfl) d_P_unwrap_90) (fun x10 => ?_)
            refine pv_ord (ws2 := [ob zp 0 [.ref zph, .ref zpt, .int hm, .long ml, .long mr, .ref zs, .ref zt, .ref zc, .ref zpb, .ref zpm], aJ G zph 6 hv, aZ G zpt 6 ht, ob zs 1 [.ref zsf, .ref zsu, .ref zse, .ref zsl, .ref zsr], aZ G zsf 16 fi, aI G zsu 16 us, aZ G zse 16 ex, aJ G zsl 16 lf, aJ G zsr 16 rg, ob zt 2 [.ref ztm, .ref ztr, .ref ztl, .ref ztf, .ref ztd, .long cu, .long cv], aZ G ztm 8 md, aJ G ztr 8 re, aJ G ztl 8 fl, aJ G ztf 8 fr, ob ztd 4 [.ref ztdq, .long tk], aJ G ztdq 16 (rkF tk), ob zc 3 [.ref zcl, .ref zcr], ob zcl 4 [.ref zclq, .long ml], aJ G zclq 16 (rkF ml), ob zcr 4 [.ref zcrq, .long mr], aJ G zcrq 16 (rkF mr), aJ G zpb 5 bf, aJ G zpm 8 mg]) [0, 1, 2, 3, 4, 5, 6, 7, 8, 9, 10, 11, 12, 13, 14, 15, 18, 19, 20, 21, 22, 16, 17] rfl rfl ?_
            refine pv_aload_n X 1 d_P_unwrap_93 rfl ?_
            refine pv_get X 0 8 u_P_in m_123 rfl rfl (by decide) ⟨rfl, rfl, rfl⟩ rfl d_P_unwrap_94 ?_
            refine pv_iconst X 0 d_P_unwrap_97 (by decide) ?_
            refine pv_lald X 21 rfl (by unfold vp_in; decide) d_P_unwrap_98 ?_
            refine pv_topl (bf 0) rfl ?_
            refine pv_lxor X d_P_unwrap_99 ?_
            refine pv_lstore_n (ll2 := [(3, .long ((openB ml mr (bf 1)) ^^^ (bf 0))), (2, .int (f_K_usageOfHeader (bf 0))), (0, .ref zp), (1, .int k)]) X d_P_unwrap_100 (by decide) rfl ?_
            refine pv_aload_n X 2 d_P_unwrap_101 rfl ?_
            refine pv_get X 0 7 u_P_in m_122 rfl rfl (by decide) ⟨rfl, rfl, rfl⟩ rfl d_P_unwrap_102 ?_
            refine pv_aload_n X 2 d_P_unwrap_105 rfl ?_
            refine pv_get X 0 8 u_P_in m_123 rfl rfl (by decide) ⟨rfl, rfl, rfl⟩ rfl d_P_unwrap_106 ?_
            refine pv_iconst X 2 d_P_unwrap_109 (by decide) ?_
            refine pv_lald X 21 rfl (by unfold vp_in; decide) d_P_unwrap_110 ?_
            refine pv_topl (bf 2) rfl ?_
            refine pv_calllE X (Cut.mk (w0 := [ob zc 3 [.ref zcl, .ref zcr], ob zcl 4 [.ref zclq, .long ml], aJ G zclq 16 (rkF ml), ob zcr 4 [.ref zcrq, .long mr], aJ G zcrq 16 (rkF mr)]) (wr := [ob zp 0 [.ref zph, .ref zpt, .int hm, .long ml, .long mr, .ref zs, .ref zt, .ref zc, .ref zpb, .ref zpm], aJ G zph 6 hv, aZ G zpt 6 ht, ob zs 1 [.ref zsf, .ref zsu, .ref zse, .ref zsl, .ref zsr], aZ G zsf 16 fi, aI G zsu 16 us, aZ G zse 16 ex, aJ G zsl 16 lf, aJ G zsr 16 rg, ob zt 2 [.ref ztm, .ref ztr, .ref ztl, .ref ztf, .ref ztd, .long cu, .long cv], aZ G ztm 8 md, aJ G ztr 8 re, aJ G ztl 8 fl, aJ G ztf 8 fr, ob ztd 4 [.ref ztdq, .long tk], aJ G ztdq 16 (rkF tk), aJ G zpb 5 bf, aJ G zpm 8 mg]) [16, 17, 18, 19, 20] [0, 1, 2, 3, 4, 5, 6, 7, 8, 9, 10, 11, 12, 13, 14, 15, 21, 22] rfl rfl rfl rfl rfl) (rn_V X (c_C_openBlock l G zc zcl zclq zcr zcrq ml mr (bf 2)) hE mf_C_openBlock m_269 m_270 m_271 rfl 0 rfl rfl rfl (by decide) (by decide) rfl (Nat.le_of_ble_eq_true rfl) d_P_unwrap_111) (fun x11 => ?_)
            refine pv_ord (ws2 := [ob zp 0 [.ref zph, .ref zpt, .int hm, .long ml, .long mr, .ref zs, .ref zt, .ref zc, .ref zpb, .ref zpm], aJ G zph 6 hv, aZ G zpt 6 ht, ob zs 1 [.ref zsf, .ref zsu, .ref zse, .ref zsl, .ref zsr], aZ G zsf 16 fi, aI G zsu 16 us, aZ G zse 16 ex, aJ G zsl 16 lf, aJ G zsr 16 rg, ob zt 2 [.ref ztm, .ref ztr, .ref ztl, .ref ztf, .ref ztd, .long cu, .long cv], aZ G ztm 8 md, aJ G ztr 8 re, aJ G ztl 8 fl, aJ G ztf 8 fr, ob ztd 4 [.ref ztdq, .long tk], aJ G ztdq 16 (rkF tk), ob zc 3 [.ref zcl, .ref zcr], ob zcl 4 [.ref zclq, .long ml], aJ G zclq 16 (rkF ml), ob zcr 4 [.ref zcrq, .long mr], aJ G zcrq 16 (rkF mr), aJ G zpb 5 bf, aJ G zpm 8 mg]) [0, 1, 2, 3, 4, 5, 6, 7, 8, 9, 10, 11, 12, 13, 14, 15, 18, 19, 20, 21, 22, 16, 17] rfl rfl ?_
            refine pv_aload_n X 2 d_P_unwrap_114 rfl ?_
            refine pv_get X 0 8 u_P_in m_123 rfl rfl (by decide) ⟨rfl, rfl, rfl⟩ rfl d_P_unwrap_115 ?_
            refine pv_iconst X 1 d_P_unwrap_118 (by decide) ?_
            refine pv_lald X 21 rfl (by unfold vp_in; decide) d_P_unwrap_119 ?_
            refine pv_topl (bf 1) rfl ?_
            refine pv_lxor X d_P_unwrap_120 ?_
            refine pv_lstore (ll2 := [(5, .long ((openB ml mr (bf 2)) ^^^ (bf 1))), (3, .long ((openB ml mr (bf 1)) ^^^ (bf 0))), (2, .int (f_K_usageOfHeader (bf 0))), (0, .ref zp), (1, .int k)]) X d_P_unwrap_121 (by decide) rfl ?_
            refine pv_aload_n X 3 d_P_unwrap_123 rfl ?_
            refine pv_get X 0 7 u_P_in m_122 rfl rfl (by decide) ⟨rfl, rfl, rfl⟩ rfl d_P_unwrap_124 ?_
            refine pv_aload_n X 3 d_P_unwrap_127 rfl ?_
            refine pv_get X 0 8 u_P_in m_123 rfl rfl (by decide) ⟨rfl, rfl, rfl⟩ rfl d_P_unwrap_128 ?_
            refine pv_iconst X 3 d_P_unwrap_131 (by decide) ?_
            refine pv_lald X 21 rfl (by unfold vp_in; decide) d_P_unwrap_132 ?_
            refine pv_topl (bf 3) rfl ?_
            refine pv_calllE X (Cut.mk (w0 := [ob zc 3 [.ref zcl, .ref zcr], ob zcl 4 [.ref zclq, .long ml], aJ G zclq 16 (rkF ml), ob zcr 4 [.ref zcrq, .long mr], aJ G zcrq 16 (rkF mr)]) (wr := [ob zp 0 [.ref zph, .ref zpt, .int hm, .long ml, .long mr, .ref zs, .ref zt, .ref zc, .ref zpb, .ref zpm], aJ G zph 6 hv, aZ G zpt 6 ht, ob zs 1 [.ref zsf, .ref zsu, .ref zse, .ref zsl, .ref zsr], aZ G zsf 16 fi, aI G zsu 16 us, aZ G zse 16 ex, aJ G zsl 16 lf, aJ G zsr 16 rg, ob zt 2 [.ref ztm, .ref ztr, .ref ztl, .ref ztf, .ref ztd, .long cu, .long cv], aZ G ztm 8 md, aJ G ztr 8 re, aJ G ztl 8 fl, aJ G ztf 8 fr, ob ztd 4 [.ref ztdq, .long tk], aJ G ztdq 16 (rkF tk), aJ G zpb 5 bf, aJ G zpm 8 mg]) [16, 17, 18, 19, 20] [0, 1, 2, 3, 4, 5, 6, 7, 8, 9, 10, 11, 12, 13, 14, 15, 21, 22] rfl rfl rfl rfl rfl) (rn_V X (c_C_openBlock l G zc zcl zclq zcr zcrq ml mr (bf 3)) hE mf_C_openBlock m_269 m_270 m_271 rfl 0 rfl rfl rfl (by decide) (by decide) rfl (Nat.le_of_ble_eq_true rfl) d_P_unwrap_133) (fun x12 => ?_)
            refine pv_ord (ws2 := [ob zp 0 [.ref zph, .ref zpt, .int hm, .long ml, .long mr, .ref zs, .ref zt, .ref zc, .ref zpb, .ref zpm], aJ G zph 6 hv, aZ G zpt 6 ht, ob zs 1 [.ref zsf, .ref zsu, .ref zse, .ref zsl, .ref zsr], aZ G zsf 16 fi, aI G zsu 16 us, aZ G zse 16 ex, aJ G zsl 16 lf, aJ G zsr 16 rg, ob zt 2 [.ref ztm, .ref ztr, .ref ztl, .ref ztf, .ref ztd, .long cu, .long cv], aZ G ztm 8 md, aJ G ztr 8 re, aJ G ztl 8 fl, aJ G ztf 8 fr, ob ztd 4 [.ref ztdq, .long tk], aJ G ztdq 16 (rkF tk), ob zc 3 [.ref zcl, .ref zcr], ob zcl 4 [.ref zclq, .long ml], aJ G zclq 16 (rkF ml), ob zcr 4 [.ref zcrq, .long mr], aJ G zcrq 16 (rkF mr), aJ G zpb 5 bf, aJ G zpm 8 mg]) [0, 1, 2, 3, 4, 5, 6, 7, 8, 9, 10, 11, 12, 13, 14, 15, 18, 19, 20, 21, 22, 16, 17] rfl rfl ?_
            refine pv_aload_n X 3 d_P_unwrap_136 rfl ?_
            refine pv_get X 0 8 u_P_in m_123 rfl rfl (by decide) ⟨rfl, rfl, rfl⟩ rfl d_P_unwrap_137 ?_
            refine pv_iconst X 2 d_P_unwrap_140 (by decide) ?_
            refine pv_lald X 21 rfl (by unfold vp_in; decide) d_P_unwrap_141 ?_
            refine pv_topl (bf 2) rfl ?_
            refine pv_lxor X d_P_unwrap_142 ?_
            refine pv_lstore (ll2 := [(7, .long ((openB ml mr (bf 3)) ^^^ (bf 2))), (5, .long ((openB ml mr (bf 2)) ^^^ (bf 1))), (3, .long ((openB ml mr (bf 1)) ^^^ (bf 0))), (2, .int (f_K_usageOfHeader (bf 0))), (0, .ref zp), (1, .int k)]) X d_P_unwrap_143 (by decide) rfl ?_
            refine pv_lload_n X 2 d_P_unwrap_145 rfl ?_
            refine pv_lload X 1 d_P_unwrap_146 rfl ?_
            refine pv_calll0 X (rn_S X (c_K_leftHalf l G ((openB ml mr (bf 1)) ^^^ (bf 0)) ((openB ml mr (bf 2)) ^^^ (bf 1))) trivial mf_K_leftHalf m_273 m_274 rfl (by decide) (by decide) rfl (Nat.le_of_ble_eq_true rfl) d_P_unwrap_148) ?_
            refine pv_lstore (ll2 := [(9, .long (f_K_leftHalf ((openB ml mr (bf 1)) ^^^ (bf 0)) ((openB ml mr (bf 2)) ^^^ (bf 1)))), (7, .long ((openB ml mr (bf 3)) ^^^ (bf 2))), (5, .long ((openB ml mr (bf 2)) ^^^ (bf 1))), (3, .long ((openB ml mr (bf 1)) ^^^ (bf 0))), (2, .int (f_K_usageOfHeader (bf 0))), (0, .ref zp), (1, .int k)]) X d_P_unwrap_151 (by decide) rfl ?_
            refine pv_lload X 2 d_P_unwrap_153 rfl ?_
            refine pv_lload X 1 d_P_unwrap_155 rfl ?_
            refine pv_calll0 X (rn_S X (c_K_rightHalf l G ((openB ml mr (bf 2)) ^^^ (bf 1)) ((openB ml mr (bf 3)) ^^^ (bf 2))) trivial mf_K_rightHalf m_276 m_277 rfl (by decide) (by decide) rfl (Nat.le_of_ble_eq_true rfl) d_P_unwrap_157) ?_
            refine pv_lstore (ll2 := [(11, .long (f_K_rightHalf ((openB ml mr (bf 2)) ^^^ (bf 1)) ((openB ml mr (bf 3)) ^^^ (bf 2)))), (9, .long (f_K_leftHalf ((openB ml mr (bf 1)) ^^^ (bf 0)) ((openB ml mr (bf 2)) ^^^ (bf 1)))), (7, .long ((openB ml mr (bf 3)) ^^^ (bf 2))), (5, .long ((openB ml mr (bf 2)) ^^^ (bf 1))), (3, .long ((openB ml mr (bf 1)) ^^^ (bf 0))), (2, .int (f_K_usageOfHeader (bf 0))), (0, .ref zp), (1, .int k)]) X d_P_unwrap_160 (by decide) rfl ?_
            refine pv_lload_n X 4 d_P_unwrap_162 rfl ?_
            refine pv_lload X 2 d_P_unwrap_163 rfl ?_
            refine pv_calli0 X (rn_S X (c_K_isFramed l G ((openB ml mr (bf 1)) ^^^ (bf 0)) ((openB ml mr (bf 3)) ^^^ (bf 2))) trivial mf_K_isFramed m_279 m_280 rfl (by decide) (by decide) rfl (Nat.le_of_ble_eq_true rfl) d_P_unwrap_165) ?_
            refine pv_if_eq X 193 d_P_unwrap_168 rfl (fun h16 => ?_) (fun h16n => ?_)
            · skip
              refine pv_bipush X (-6) d_P_unwrap_193 (by decide) ?_
              exact pv_iret X hr hlk (ml, mr) (by show _ = f_P_unwrap hm ml mr fi bf k; simp only [f_P_unwrap, if_neg h1, if_neg h3, if_pos h4, if_neg h6n, if_pos h8, if_pos h16]) (by simp only [g_P_unwrap_zsf, g_P_unwrap_zsu, g_P_unwrap_zse, g_P_unwrap_zsl, g_P_unwrap_zsr, if_neg h1, if_neg h3, if_pos h4, if_neg h6n, if_pos h8, if_pos h16]) d_P_unwrap_195
            · skip
              refine pv_lload X 1 d_P_unwrap_171 rfl ?_
              refine pv_lload X 1 d_P_unwrap_173 rfl ?_
              refine pv_calll0 X (rn_S X (c_P_withOddParity l G (f_K_leftHalf ((openB ml mr (bf 1)) ^^^ (bf 0)) ((openB ml mr (bf 2)) ^^^ (bf 1)))) trivial mf_P_withOddParity m_153 m_154 rfl (by decide) (by decide) rfl (Nat.le_of_ble_eq_true rfl) d_P_unwrap_175) ?_
              refine pv_lcmp X d_P_unwrap_178 ?_
              refine pv_if_ne X 193 d_P_unwrap_179 rfl (fun h18 => ?_) (fun h18n => ?_)
              · skip
                refine pv_bipush X (-6) d_P_unwrap_193 (by decide) ?_
                exact pv_iret X hr hlk (ml, mr) (by show _ = f_P_unwrap hm ml mr fi bf k; simp only [f_P_unwrap, if_neg h1, if_neg h3, if_pos h4, if_neg h6n, if_pos h8, if_neg h16n, if_neg h18]) (by simp only [g_P_unwrap_zsf, g_P_unwrap_zsu, g_P_unwrap_zse, g_P_unwrap_zsl, g_P_unwrap_zsr, if_neg h1, if_neg h3, if_pos h4, if_neg h6n, if_pos h8, if_neg h16n, if_neg h18]) d_P_unwrap_195
              · skip
                refine pv_lload X 0 d_P_unwrap_182 rfl ?_
                refine pv_lload X 0 d_P_unwrap_184 rfl ?_
                refine pv_calll0 X (rn_S X (c_P_withOddParity l G (f_K_rightHalf ((openB ml mr (bf 2)) ^^^ (bf 1)) ((openB ml mr (bf 3)) ^^^ (bf 2)))) trivial mf_P_withOddParity m_153 m_154 rfl (by decide) (by decide) rfl (Nat.le_of_ble_eq_true rfl) d_P_unwrap_186) ?_
                refine pv_lcmp X d_P_unwrap_189 ?_
                refine pv_if_eq X 196 d_P_unwrap_190 rfl (fun h20 => ?_) (fun h20n => ?_)
                · skip
                  refine pv_aload_n X 6 d_P_unwrap_196 rfl ?_
                  refine pv_get X 0 5 u_P_in m_120 rfl rfl (by decide) ⟨rfl, rfl, rfl⟩ rfl d_P_unwrap_197 ?_
                  refine pv_iload_n X 7 d_P_unwrap_200 rfl ?_
                  refine pv_iload_n X 5 d_P_unwrap_201 rfl ?_
                  refine pv_iconst X 1 d_P_unwrap_202 (by decide) ?_
                  refine pv_lload X 1 d_P_unwrap_203 rfl ?_
                  refine pv_lload X 0 d_P_unwrap_205 rfl ?_
                  refine pv_callv X (Cut.mk (w0 := [ob zs 1 [.ref zsf, .ref zsu, .ref zse, .ref zsl, .ref zsr], aZ G zsf 16 fi, aI G zsu 16 us, aZ G zse 16 ex, aJ G zsl 16 lf, aJ G zsr 16 rg]) (wr := [ob zp 0 [.ref zph, .ref zpt, .int hm, .long ml, .long mr, .ref zs, .ref zt, .ref zc, .ref zpb, .ref zpm], aJ G zph 6 hv, aZ G zpt 6 ht, ob zt 2 [.ref ztm, .ref ztr, .ref ztl, .ref ztf, .ref ztd, .long cu, .long cv], aZ G ztm 8 md, aJ G ztr 8 re, aJ G ztl 8 fl, aJ G ztf 8 fr, ob ztd 4 [.ref ztdq, .long tk], aJ G ztdq 16 (rkF tk), ob zc 3 [.ref zcl, .ref zcr], ob zcl 4 [.ref zclq, .long ml], aJ G zclq 16 (rkF ml), ob zcr 4 [.ref zcrq, .long mr], aJ G zcrq 16 (rkF mr), aJ G zpb 5 bf, aJ G zpm 8 mg]) [3, 4, 5, 6, 7, 8] [0, 1, 2, 9, 10, 11, 12, 13, 14, 15, 16, 17, 18, 19, 20, 21, 22] rfl rfl rfl rfl rfl) (rn_V X (c_S_fill l G zs zsf zsu zse zsl zsr fi us ex lf rg k (f_K_usageOfHeader (bf 0)) 1 (f_K_leftHalf ((openB ml mr (bf 1)) ^^^ (bf 0)) ((openB ml mr (bf 2)) ^^^ (bf 1))) (f_K_rightHalf ((openB ml mr (bf 2)) ^^^ (bf 1)) ((openB ml mr (bf 3)) ^^^ (bf 2))) (S_in h3) bo_1) trivial mf_S_fill m_163 m_164 m_165 rfl 0 rfl rfl rfl (by decide) (by decide) rfl (Nat.le_of_ble_eq_true rfl) d_P_unwrap_207) (fun x21 e21 => ?_)
                  refine pv_ord (ws2 := [ob zp 0 [.ref zph, .ref zpt, .int hm, .long ml, .long mr, .ref zs, .ref zt, .ref zc, .ref zpb, .ref zpm], aJ G zph 6 hv, aZ G zpt 6 ht, ob zs 1 [.ref zsf, .ref zsu, .ref zse, .ref zsl, .ref zsr], aZ G zsf 16 (upd fi (k.toNatClampNeg) 1), aI G zsu 16 (upd us (k.toNatClampNeg) (f_K_usageOfHeader (bf 0))), aZ G zse 16 (upd ex (k.toNatClampNeg) 1), aJ G zsl 16 (vp_updL lf (k.toNatClampNeg) (f_K_leftHalf ((openB ml mr (bf 1)) ^^^ (bf 0)) ((openB ml mr (bf 2)) ^^^ (bf 1)))), aJ G zsr 16 (vp_updL rg (k.toNatClampNeg) (f_K_rightHalf ((openB ml mr (bf 2)) ^^^ (bf 1)) ((openB ml mr (bf 3)) ^^^ (bf 2)))), ob zt 2 [.ref ztm, .ref ztr, .ref ztl, .ref ztf, .ref ztd, .long cu, .long cv], aZ G ztm 8 md, aJ G ztr 8 re, aJ G ztl 8 fl, aJ G ztf 8 fr, ob ztd 4 [.ref ztdq, .long tk], aJ G ztdq 16 (rkF tk), ob zc 3 [.ref zcl, .ref zcr], ob zcl 4 [.ref zclq, .long ml], aJ G zclq 16 (rkF ml), ob zcr 4 [.ref zcrq, .long mr], aJ G zcrq 16 (rkF mr), aJ G zpb 5 bf, aJ G zpm 8 mg]) [0, 1, 2, 17, 18, 19, 20, 21, 22, 3, 4, 5, 6, 7, 8, 9, 10, 11, 12, 13, 14, 15, 16] rfl rfl ?_
                  refine pv_iload_n X 5 d_P_unwrap_210 rfl ?_
                  exact pv_iret X hr hlk (ml, mr) (by show _ = f_P_unwrap hm ml mr fi bf k; simp only [f_P_unwrap, if_neg h1, if_neg h3, if_pos h4, if_neg h6n, if_pos h8, if_neg h16n, if_pos h18n, if_pos h20]) (by simp only [g_P_unwrap_zsf, g_P_unwrap_zsu, g_P_unwrap_zse, g_P_unwrap_zsl, g_P_unwrap_zsr, if_neg h1, if_neg h3, if_pos h4, if_neg h6n, if_pos h8, if_neg h16n, if_pos h18n, if_pos h20]) d_P_unwrap_211
                · skip
                  refine pv_bipush X (-6) d_P_unwrap_193 (by decide) ?_
                  exact pv_iret X hr hlk (ml, mr) (by show _ = f_P_unwrap hm ml mr fi bf k; simp only [f_P_unwrap, if_neg h1, if_neg h3, if_pos h4, if_neg h6n, if_pos h8, if_neg h16n, if_pos h18n, if_neg h20n]) (by simp only [g_P_unwrap_zsf, g_P_unwrap_zsu, g_P_unwrap_zse, g_P_unwrap_zsl, g_P_unwrap_zsr, if_neg h1, if_neg h3, if_pos h4, if_neg h6n, if_pos h8, if_neg h16n, if_pos h18n, if_neg h20n]) d_P_unwrap_195
          · skip
            refine pv_bipush X (-6) d_P_unwrap_62 (by decide) ?_
            exact pv_iret X hr hlk (g_P_codeOfKeyBlock_zcl_1 ml, g_P_codeOfKeyBlock_zcr_1 mr) (by show _ = f_P_unwrap hm ml mr fi bf k; simp only [f_P_unwrap, if_neg h1, if_neg h3, if_pos h4, if_neg h6n, if_neg h8n]) (by simp only [g_P_unwrap_zsf, g_P_unwrap_zsu, g_P_unwrap_zse, g_P_unwrap_zsl, g_P_unwrap_zsr, if_neg h1, if_neg h3, if_pos h4, if_neg h6n, if_neg h8n]) d_P_unwrap_64
      · skip
        refine pv_bipush X (-3) d_P_unwrap_31 (by decide) ?_
        exact pv_iret X hr hlk (kl, kr) (by show _ = f_P_unwrap hm ml mr fi bf k; simp only [f_P_unwrap, if_neg h1, if_neg h3, if_neg h4n]) (by simp only [g_P_unwrap_zsf, g_P_unwrap_zsu, g_P_unwrap_zse, g_P_unwrap_zsl, g_P_unwrap_zsr, if_neg h1, if_neg h3, if_neg h4n]) d_P_unwrap_33
    · skip
      refine pv_bipush X (-2) d_P_unwrap_16 (by decide) ?_
      exact pv_iret X hr hlk (kl, kr) (by show _ = f_P_unwrap hm ml mr fi bf k; simp only [f_P_unwrap, if_neg h1, if_pos h3n]) (by simp only [g_P_unwrap_zsf, g_P_unwrap_zsu, g_P_unwrap_zse, g_P_unwrap_zsl, g_P_unwrap_zsr, if_neg h1, if_pos h3n]) d_P_unwrap_18
  · skip
    refine pv_iconst X (-1) d_P_unwrap_7 (by decide) ?_
    exact pv_iret X hr hlk (kl, kr) (by show _ = f_P_unwrap hm ml mr fi bf k; simp only [f_P_unwrap, if_pos h1n]) (by simp only [g_P_unwrap_zsf, g_P_unwrap_zsu, g_P_unwrap_zse, g_P_unwrap_zsl, g_P_unwrap_zsr, if_pos h1n]) d_P_unwrap_8
def f_P_terminal (hm : Int32) (fi : Nat → Int32) (us : Nat → Int32) (md : Nat → Int32) (t : Int32) (k : Int32) (v : Int64) : Int32 := if hm = 0 then (-1) else (if (f_T_isNumber t) = 0 then (-2) else (if (f_S_isNumber k) = 0 then (-2) else (if (f_T_isSerial v) = 0 then (-2) else (if (md t.toNatClampNeg) = 0 then (if (fi k.toNatClampNeg) = 0 then (-3) else (if (us k.toNatClampNeg) = 2 then 0 else (-4))) else (-3)))))
def g_P_terminal_ztm (hm : Int32) (fi : Nat → Int32) (us : Nat → Int32) (md : Nat → Int32) (t : Int32) (k : Int32) (v : Int64) : Nat → Int32 := if hm = 0 then md else (if (f_T_isNumber t) = 0 then md else (if (f_S_isNumber k) = 0 then md else (if (f_T_isSerial v) = 0 then md else (if (md t.toNatClampNeg) = 0 then (if (fi k.toNatClampNeg) = 0 then md else (if (us k.toNatClampNeg) = 2 then (upd md (t.toNatClampNeg) 1) else md)) else md))))
def g_P_terminal_ztr (hm : Int32) (fi : Nat → Int32) (us : Nat → Int32) (md : Nat → Int32) (re : Nat → Int64) (t : Int32) (k : Int32) (v : Int64) : Nat → Int64 := if hm = 0 then re else (if (f_T_isNumber t) = 0 then re else (if (f_S_isNumber k) = 0 then re else (if (f_T_isSerial v) = 0 then re else (if (md t.toNatClampNeg) = 0 then (if (fi k.toNatClampNeg) = 0 then re else (if (us k.toNatClampNeg) = 2 then (vp_updL re (t.toNatClampNeg) (mkG v)) else re)) else re))))
def g_P_terminal_ztl (hm : Int32) (fi : Nat → Int32) (us : Nat → Int32) (lf : Nat → Int64) (rg : Nat → Int64) (md : Nat → Int32) (fl : Nat → Int64) (t : Int32) (k : Int32) (v : Int64) : Nat → Int64 := if hm = 0 then fl else (if (f_T_isNumber t) = 0 then fl else (if (f_S_isNumber k) = 0 then fl else (if (f_T_isSerial v) = 0 then fl else (if (md t.toNatClampNeg) = 0 then (if (fi k.toNatClampNeg) = 0 then fl else (if (us k.toNatClampNeg) = 2 then (vp_updL fl (t.toNatClampNeg) (sealB (lf k.toNatClampNeg) (rg k.toNatClampNeg) (mkF v))) else fl)) else fl))))
def g_P_terminal_ztf (hm : Int32) (fi : Nat → Int32) (us : Nat → Int32) (lf : Nat → Int64) (rg : Nat → Int64) (md : Nat → Int32) (fr : Nat → Int64) (t : Int32) (k : Int32) (v : Int64) : Nat → Int64 := if hm = 0 then fr else (if (f_T_isNumber t) = 0 then fr else (if (f_S_isNumber k) = 0 then fr else (if (f_T_isSerial v) = 0 then fr else (if (md t.toNatClampNeg) = 0 then (if (fi k.toNatClampNeg) = 0 then fr else (if (us k.toNatClampNeg) = 2 then (vp_updL fr (t.toNatClampNeg) (sealB ((lf k.toNatClampNeg) ^^^ dkV) ((rg k.toNatClampNeg) ^^^ dkV) (mkF v))) else fr)) else fr))))
abbrev rm_P_terminal : Room := { frames := 5, cells := 0, slots := 0, locals := 130 }
theorem mf_P_terminal : MF y_P_terminal b_P_terminal 5 (some .int) 3 := ⟨m_286, m_1, by decide, by decide, by decide +kernel⟩
theorem d_P_terminal_0 : decode b_P_terminal 0 = .ok (.aload_n 0, 1) := by decide +kernel
theorem d_P_terminal_1 : decode b_P_terminal 1 = .ok (.getfield 51, 3) := by decide +kernel
theorem d_P_terminal_4 : decode b_P_terminal 4 = .ok (.ifCond .ne 5, 3) := by decide +kernel
theorem d_P_terminal_7 : decode b_P_terminal 7 = .ok (.iconst (-1), 1) := by decide +kernel
theorem d_P_terminal_8 : decode b_P_terminal 8 = .ok (.ireturn, 1) := by decide +kernel
theorem d_P_terminal_9 : decode b_P_terminal 9 = .ok (.iload_n 1, 1) := by decide +kernel
theorem d_P_terminal_10 : decode b_P_terminal 10 = .ok (.invokestatic 161, 3) := by decide +kernel
theorem d_P_terminal_13 : decode b_P_terminal 13 = .ok (.ifCond .eq 17, 3) := by decide +kernel
theorem d_P_terminal_16 : decode b_P_terminal 16 = .ok (.iload_n 2, 1) := by decide +kernel
theorem d_P_terminal_17 : decode b_P_terminal 17 = .ok (.invokestatic 89, 3) := by decide +kernel
theorem d_P_terminal_20 : decode b_P_terminal 20 = .ok (.ifCond .eq 10, 3) := by decide +kernel
theorem d_P_terminal_23 : decode b_P_terminal 23 = .ok (.lload_n 3, 1) := by decide +kernel
theorem d_P_terminal_24 : decode b_P_terminal 24 = .ok (.invokestatic 162, 3) := by decide +kernel
theorem d_P_terminal_27 : decode b_P_terminal 27 = .ok (.ifCond .ne 6, 3) := by decide +kernel
theorem d_P_terminal_30 : decode b_P_terminal 30 = .ok (.bipush (-2), 2) := by decide +kernel
theorem d_P_terminal_32 : decode b_P_terminal 32 = .ok (.ireturn, 1) := by decide +kernel
theorem d_P_terminal_33 : decode b_P_terminal 33 = .ok (.aload_n 0, 1) := by decide +kernel
theorem d_P_terminal_34 : decode b_P_terminal 34 = .ok (.getfield 27, 3) := by decide +kernel
theorem d_P_terminal_37 : decode b_P_terminal 37 = .ok (.getfield 166, 3) := by decide +kernel
theorem d_P_terminal_40 : decode b_P_terminal 40 = .ok (.iload_n 1, 1) := by decide +kernel
theorem d_P_terminal_41 : decode b_P_terminal 41 = .ok (.baload, 1) := by decide +kernel
theorem d_P_terminal_42 : decode b_P_terminal 42 = .ok (.ifCond .ne 15, 3) := by decide +kernel
theorem d_P_terminal_45 : decode b_P_terminal 45 = .ok (.aload_n 0, 1) := by decide +kernel
theorem d_P_terminal_46 : decode b_P_terminal 46 = .ok (.getfield 20, 3) := by decide +kernel
theorem d_P_terminal_49 : decode b_P_terminal 49 = .ok (.getfield 93, 3) := by decide +kernel
theorem d_P_terminal_52 : decode b_P_terminal 52 = .ok (.iload_n 2, 1) := by decide +kernel
theorem d_P_terminal_53 : decode b_P_terminal 53 = .ok (.baload, 1) := by decide +kernel
theorem d_P_terminal_54 : decode b_P_terminal 54 = .ok (.ifCond .ne 6, 3) := by decide +kernel
theorem d_P_terminal_57 : decode b_P_terminal 57 = .ok (.bipush (-3), 2) := by decide +kernel
theorem d_P_terminal_59 : decode b_P_terminal 59 = .ok (.ireturn, 1) := by decide +kernel
theorem d_P_terminal_60 : decode b_P_terminal 60 = .ok (.aload_n 0, 1) := by decide +kernel
theorem d_P_terminal_61 : decode b_P_terminal 61 = .ok (.getfield 20, 3) := by decide +kernel
theorem d_P_terminal_64 : decode b_P_terminal 64 = .ok (.getfield 114, 3) := by decide +kernel
theorem d_P_terminal_67 : decode b_P_terminal 67 = .ok (.iload_n 2, 1) := by decide +kernel
theorem d_P_terminal_68 : decode b_P_terminal 68 = .ok (.iaload, 1) := by decide +kernel
theorem d_P_terminal_69 : decode b_P_terminal 69 = .ok (.iconst 2, 1) := by decide +kernel
theorem d_P_terminal_70 : decode b_P_terminal 70 = .ok (.if_icmp .eq 6, 3) := by decide +kernel
theorem d_P_terminal_73 : decode b_P_terminal 73 = .ok (.bipush (-4), 2) := by decide +kernel
theorem d_P_terminal_75 : decode b_P_terminal 75 = .ok (.ireturn, 1) := by decide +kernel
theorem d_P_terminal_76 : decode b_P_terminal 76 = .ok (.aload_n 0, 1) := by decide +kernel
theorem d_P_terminal_77 : decode b_P_terminal 77 = .ok (.getfield 27, 3) := by decide +kernel
theorem d_P_terminal_80 : decode b_P_terminal 80 = .ok (.iload_n 1, 1) := by decide +kernel
theorem d_P_terminal_81 : decode b_P_terminal 81 = .ok (.lload_n 3, 1) := by decide +kernel
theorem d_P_terminal_82 : decode b_P_terminal 82 = .ok (.aload_n 0, 1) := by decide +kernel
theorem d_P_terminal_83 : decode b_P_terminal 83 = .ok (.getfield 20, 3) := by decide +kernel
theorem d_P_terminal_86 : decode b_P_terminal 86 = .ok (.getfield 100, 3) := by decide +kernel
theorem d_P_terminal_89 : decode b_P_terminal 89 = .ok (.iload_n 2, 1) := by decide +kernel
theorem d_P_terminal_90 : decode b_P_terminal 90 = .ok (.laload, 1) := by decide +kernel
theorem d_P_terminal_91 : decode b_P_terminal 91 = .ok (.aload_n 0, 1) := by decide +kernel
theorem d_P_terminal_92 : decode b_P_terminal 92 = .ok (.getfield 20, 3) := by decide +kernel
theorem d_P_terminal_95 : decode b_P_terminal 95 = .ok (.getfield 103, 3) := by decide +kernel
theorem d_P_terminal_98 : decode b_P_terminal 98 = .ok (.iload_n 2, 1) := by decide +kernel
theorem d_P_terminal_99 : decode b_P_terminal 99 = .ok (.laload, 1) := by decide +kernel
theorem d_P_terminal_100 : decode b_P_terminal 100 = .ok (.aload_n 0, 1) := by decide +kernel
theorem d_P_terminal_101 : decode b_P_terminal 101 = .ok (.getfield 34, 3) := by decide +kernel
theorem d_P_terminal_104 : decode b_P_terminal 104 = .ok (.invokevirtual 169, 3) := by decide +kernel
theorem d_P_terminal_107 : decode b_P_terminal 107 = .ok (.iconst 0, 1) := by decide +kernel
theorem d_P_terminal_108 : decode b_P_terminal 108 = .ok (.ireturn, 1) := by decide +kernel
set_option maxRecDepth 100000 in
set_option maxHeartbeats 4000000 in
theorem c_P_terminal (l : Launch) (G : Gt) (zp zph zpt zs zsf zsu zse zsl zsr zt ztm ztr ztl ztf ztd ztdq zc zcl zclq zcr zcrq zpb zpm : Nat) (hv : Nat → Int64) (ht : Nat → Int32) (hm : Int32) (ml mr : Int64) (fi us ex : Nat → Int32) (lf rg : Nat → Int64) (md : Nat → Int32) (re fl fr : Nat → Int64) (tk cu cv kl kr : Int64) (bf mg : Nat → Int64) (t k : Int32) (v : Int64) : CtI l G y_P_terminal b_P_terminal 5 (some .int) rm_P_terminal Sx [.ref zp, .int t, .int k, .long v] [ob zp 0 [.ref zph, .ref zpt, .int hm, .long ml, .long mr, .ref zs, .ref zt, .ref zc, .ref zpb, .ref zpm], aJ G zph 6 hv, aZ G zpt 6 ht, ob zs 1 [.ref zsf, .ref zsu, .ref zse, .ref zsl, .ref zsr], aZ G zsf 16 fi, aI G zsu 16 us, aZ G zse 16 ex, aJ G zsl 16 lf, aJ G zsr 16 rg, ob zt 2 [.ref ztm, .ref ztr, .ref ztl, .ref ztf, .ref ztd, .long cu, .long cv], aZ G ztm 8 md, aJ G ztr 8 re, aJ G ztl 8 fl, aJ G ztf 8 fr, ob ztd 4 [.ref ztdq, .long tk], aJ G ztdq 16 (rkF tk), ob zc 3 [.ref zcl, .ref zcr], ob zcl 4 [.ref zclq, .long kl], aJ G zclq 16 (rkF kl), ob zcr 4 [.ref zcrq, .long kr], aJ G zcrq 16 (rkF kr), aJ G zpb 5 bf, aJ G zpm 8 mg] (fun r (_ : Int64 × Int64) => r = f_P_terminal hm fi us md t k v) (fun x => [ob zp 0 [.ref zph, .ref zpt, .int hm, .long ml, .long mr, .ref zs, .ref zt, .ref zc, .ref zpb, .ref zpm], aJ G zph 6 hv, aZ G zpt 6 ht, ob zs 1 [.ref zsf, .ref zsu, .ref zse, .ref zsl, .ref zsr], aZ G zsf 16 fi, aI G zsu 16 us, aZ G zse 16 ex, aJ G zsl 16 lf, aJ G zsr 16 rg, ob zt 2 [.ref ztm, .ref ztr, .ref ztl, .ref ztf, .ref ztd, .long cu, .long cv], aZ G ztm 8 (g_P_terminal_ztm hm fi us md t k v), aJ G ztr 8 (g_P_terminal_ztr hm fi us md re t k v), aJ G ztl 8 (g_P_terminal_ztl hm fi us lf rg md fl t k v), aJ G ztf 8 (g_P_terminal_ztf hm fi us lf rg md fr t k v), ob ztd 4 [.ref ztdq, .long tk], aJ G ztdq 16 (rkF tk), ob zc 3 [.ref zcl, .ref zcr], ob zcl 4 [.ref zclq, .long x.1], aJ G zclq 16 (rkF x.1), ob zcr 4 [.ref zcrq, .long x.2], aJ G zcrq 16 (rkF x.2), aJ G zpb 5 bf, aJ G zpm 8 mg]) 0 0 := by
  refine Ct.of (Qp := fun A => va_Qi _ (qB G A _) A) Sx_stb (by decide) (Nat.le_of_ble_eq_true rfl) ?_
  intro p e s m args below meth c A X hE hr hlk hini
  refine pv_eql (ll2 := [(0, .ref zp), (1, .int t), (2, .int k), (3, .long v)]) rfl ?_
  refine pv_aload_n X 0 d_P_terminal_0 rfl ?_
  refine pv_get X 0 2 u_P_in m_117 rfl rfl (by decide) ⟨rfl, rfl, rfl⟩ rfl d_P_terminal_1 ?_
  refine pv_if_ne X 9 d_P_terminal_4 rfl (fun h1 => ?_) (fun h1n => ?_)
  · skip
    refine pv_iload_n X 1 d_P_terminal_9 rfl ?_
    refine pv_calli0 X (rn_S X (c_T_isNumber l G t) trivial mf_T_isNumber m_287 m_288 rfl (by decide) (by decide) rfl (Nat.le_of_ble_eq_true rfl) d_P_terminal_10) ?_
    refine pv_if_eq X 30 d_P_terminal_13 rfl (fun h3 => ?_) (fun h3n => ?_)
    · skip
      refine pv_bipush X (-2) d_P_terminal_30 (by decide) ?_
      exact pv_iret X hr hlk (kl, kr) (by show _ = f_P_terminal hm fi us md t k v; simp only [f_P_terminal, if_neg h1, if_pos h3]) (by simp only [g_P_terminal_ztm, g_P_terminal_ztr, g_P_terminal_ztl, g_P_terminal_ztf, if_neg h1, if_pos h3]) d_P_terminal_32
    · skip
      refine pv_iload_n X 2 d_P_terminal_16 rfl ?_
      refine pv_calli0 X (rn_S X (c_S_isNumber l G k) trivial mf_S_isNumber m_150 m_151 rfl (by decide) (by decide) rfl (Nat.le_of_ble_eq_true rfl) d_P_terminal_17) ?_
      refine pv_if_eq X 30 d_P_terminal_20 rfl (fun h5 => ?_) (fun h5n => ?_)
      · skip
        refine pv_bipush X (-2) d_P_terminal_30 (by decide) ?_
        exact pv_iret X hr hlk (kl, kr) (by show _ = f_P_terminal hm fi us md t k v; simp only [f_P_terminal, if_neg h1, if_neg h3n, if_pos h5]) (by simp only [g_P_terminal_ztm, g_P_terminal_ztr, g_P_terminal_ztl, g_P_terminal_ztf, if_neg h1, if_neg h3n, if_pos h5]) d_P_terminal_32
      · skip
        refine pv_lload_n X 3 d_P_terminal_23 rfl ?_
        refine pv_calli0 X (rn_S X (c_T_isSerial l G v) trivial mf_T_isSerial m_290 m_291 rfl (by decide) (by decide) rfl (Nat.le_of_ble_eq_true rfl) d_P_terminal_24) ?_
        refine pv_if_ne X 33 d_P_terminal_27 rfl (fun h7 => ?_) (fun h7n => ?_)
        · skip
          refine pv_aload_n X 0 d_P_terminal_33 rfl ?_
          refine pv_get X 0 6 u_P_in m_121 rfl rfl (by decide) ⟨rfl, rfl, rfl⟩ rfl d_P_terminal_34 ?_
          refine pv_get X 9 0 u_T_in m_74 rfl rfl (by decide) ⟨rfl, rfl, rfl⟩ rfl d_P_terminal_37 ?_
          refine pv_iload_n X 1 d_P_terminal_40 rfl ?_
          refine pv_zald X 10 rfl (T_in h3n) d_P_terminal_41 ?_
          refine pv_if_ne X 57 d_P_terminal_42 rfl (fun h8 => ?_) (fun h8n => ?_)
          · skip
            refine pv_bipush X (-3) d_P_terminal_57 (by decide) ?_
            exact pv_iret X hr hlk (kl, kr) (by show _ = f_P_terminal hm fi us md t k v; simp only [f_P_terminal, if_neg h1, if_neg h3n, if_neg h5n, if_neg h7, if_neg h8]) (by simp only [g_P_terminal_ztm, g_P_terminal_ztr, g_P_terminal_ztl, g_P_terminal_ztf, if_neg h1, if_neg h3n, if_neg h5n, if_neg h7, if_neg h8]) d_P_terminal_59
          · skip
            refine pv_aload_n X 0 d_P_terminal_45 rfl ?_
            refine pv_get X 0 5 u_P_in m_120 rfl rfl (by decide) ⟨rfl, rfl, rfl⟩ rfl d_P_terminal_46 ?_
            refine pv_get X 3 0 u_S_in m_31 rfl rfl (by decide) ⟨rfl, rfl, rfl⟩ rfl d_P_terminal_49 ?_
            refine pv_iload_n X 2 d_P_terminal_52 rfl ?_
            refine pv_zald X 4 rfl (S_in h5n) d_P_terminal_53 ?_
            refine pv_if_ne X 60 d_P_terminal_54 rfl (fun h9 => ?_) (fun h9n => ?_)
            · skip
              refine pv_aload_n X 0 d_P_terminal_60 rfl ?_
              refine pv_get X 0 5 u_P_in m_120 rfl rfl (by decide) ⟨rfl, rfl, rfl⟩ rfl d_P_terminal_61 ?_
              refine pv_get X 3 1 u_S_in m_33 rfl rfl (by decide) ⟨rfl, rfl, rfl⟩ rfl d_P_terminal_64 ?_
              refine pv_iload_n X 2 d_P_terminal_67 rfl ?_
              refine pv_iald X 5 rfl (S_in h5n) d_P_terminal_68 ?_
              refine pv_iconst X 2 d_P_terminal_69 (by decide) ?_
              refine pv_icmp_eq X 76 d_P_terminal_70 rfl (fun h10 => ?_) (fun h10n => ?_)
              · skip
                refine pv_aload_n X 0 d_P_terminal_76 rfl ?_
                refine pv_get X 0 6 u_P_in m_121 rfl rfl (by decide) ⟨rfl, rfl, rfl⟩ rfl d_P_terminal_77 ?_
                refine pv_iload_n X 1 d_P_terminal_80 rfl ?_
                refine pv_lload_n X 3 d_P_terminal_81 rfl ?_
                refine pv_aload_n X 0 d_P_terminal_82 rfl ?_
                refine pv_get X 0 5 u_P_in m_120 rfl rfl (by decide) ⟨rfl, rfl, rfl⟩ rfl d_P_terminal_83 ?_
                refine pv_get X 3 3 u_S_in m_37 rfl rfl (by decide) ⟨rfl, rfl, rfl⟩ rfl d_P_terminal_86 ?_
                refine pv_iload_n X 2 d_P_terminal_89 rfl ?_
                refine pv_lald X 7 rfl (S_in h5n) d_P_terminal_90 ?_
                refine pv_aload_n X 0 d_P_terminal_91 rfl ?_
                refine pv_get X 0 5 u_P_in m_120 rfl rfl (by decide) ⟨rfl, rfl, rfl⟩ rfl d_P_terminal_92 ?_
                refine pv_get X 3 4 u_S_in m_39 rfl rfl (by decide) ⟨rfl, rfl, rfl⟩ rfl d_P_terminal_95 ?_
                refine pv_iload_n X 2 d_P_terminal_98 rfl ?_
                refine pv_lald X 8 rfl (S_in h5n) d_P_terminal_99 ?_
                refine pv_aload_n X 0 d_P_terminal_100 rfl ?_
                refine pv_get X 0 7 u_P_in m_122 rfl rfl (by decide) ⟨rfl, rfl, rfl⟩ rfl d_P_terminal_101 ?_
                refine pv_callv X (Cut.mk (w0 := [ob zt 2 [.ref ztm, .ref ztr, .ref ztl, .ref ztf, .ref ztd, .long cu, .long cv], aZ G ztm 8 md, aJ G ztr 8 re, aJ G ztl 8 fl, aJ G ztf 8 fr, ob ztd 4 [.ref ztdq, .long tk], aJ G ztdq 16 (rkF tk), ob zc 3 [.ref zcl, .ref zcr], ob zcl 4 [.ref zclq, .long kl], aJ G zclq 16 (rkF kl), ob zcr 4 [.ref zcrq, .long kr], aJ G zcrq 16 (rkF kr)]) (wr := [ob zp 0 [.ref zph, .ref zpt, .int hm, .long ml, .long mr, .ref zs, .ref zt, .ref zc, .ref zpb, .ref zpm], aJ G zph 6 hv, aZ G zpt 6 ht, ob zs 1 [.ref zsf, .ref zsu, .ref zse, .ref zsl, .ref zsr], aZ G zsf 16 fi, aI G zsu 16 us, aZ G zse 16 ex, aJ G zsl 16 lf, aJ G zsr 16 rg, aJ G zpb 5 bf, aJ G zpm 8 mg]) [9, 10, 11, 12, 13, 14, 15, 16, 17, 18, 19, 20] [0, 1, 2, 3, 4, 5, 6, 7, 8, 21, 22] rfl rfl rfl rfl rfl) (rn_V X (c_T_make l G zt ztm ztr ztl ztf ztd ztdq md re fl fr tk cu cv zc zcl zclq zcr zcrq kl kr t v (lf k.toNatClampNeg) (rg k.toNatClampNeg) (T_in h3n)) hE mf_T_make m_294 m_295 m_296 rfl 0 rfl rfl rfl (by decide) (by decide) rfl (Nat.le_of_ble_eq_true rfl) d_P_terminal_104) (fun x11 e11 => ?_)
                refine pv_ord (ws2 := [ob zp 0 [.ref zph, .ref zpt, .int hm, .long ml, .long mr, .ref zs, .ref zt, .ref zc, .ref zpb, .ref zpm], aJ G zph 6 hv, aZ G zpt 6 ht, ob zs 1 [.ref zsf, .ref zsu, .ref zse, .ref zsl, .ref zsr], aZ G zsf 16 fi, aI G zsu 16 us, aZ G zse 16 ex, aJ G zsl 16 lf, aJ G zsr 16 rg, ob zt 2 [.ref ztm, .ref ztr, .ref ztl, .ref ztf, .ref ztd, .long cu, .long cv], aZ G ztm 8 (upd md (t.toNatClampNeg) 1), aJ G ztr 8 (vp_updL re (t.toNatClampNeg) (mkG v)), aJ G ztl 8 (vp_updL fl (t.toNatClampNeg) (sealB (lf k.toNatClampNeg) (rg k.toNatClampNeg) (mkF v))), aJ G ztf 8 (vp_updL fr (t.toNatClampNeg) (sealB ((lf k.toNatClampNeg) ^^^ dkV) ((rg k.toNatClampNeg) ^^^ dkV) (mkF v))), ob ztd 4 [.ref ztdq, .long tk], aJ G ztdq 16 (rkF tk), ob zc 3 [.ref zcl, .ref zcr], ob zcl 4 [.ref zclq, .long ((lf k.toNatClampNeg) ^^^ dkV)], aJ G zclq 16 (rkF ((lf k.toNatClampNeg) ^^^ dkV)), ob zcr 4 [.ref zcrq, .long ((rg k.toNatClampNeg) ^^^ dkV)], aJ G zcrq 16 (rkF ((rg k.toNatClampNeg) ^^^ dkV)), aJ G zpb 5 bf, aJ G zpm 8 mg]) [0, 1, 2, 3, 4, 5, 6, 7, 8, 11, 12, 13, 14, 15, 16, 17, 18, 19, 20, 21, 22, 9, 10] rfl rfl ?_
                refine pv_iconst X 0 d_P_terminal_107 (by decide) ?_
                exact pv_iret X hr hlk ((lf k.toNatClampNeg) ^^^ dkV, (rg k.toNatClampNeg) ^^^ dkV) (by show _ = f_P_terminal hm fi us md t k v; simp only [f_P_terminal, if_neg h1, if_neg h3n, if_neg h5n, if_neg h7, if_pos h8n, if_neg h9, if_pos h10]) (by simp only [g_P_terminal_ztm, g_P_terminal_ztr, g_P_terminal_ztl, g_P_terminal_ztf, if_neg h1, if_neg h3n, if_neg h5n, if_neg h7, if_pos h8n, if_neg h9, if_pos h10]) d_P_terminal_108
              · skip
                refine pv_bipush X (-4) d_P_terminal_73 (by decide) ?_
                exact pv_iret X hr hlk (kl, kr) (by show _ = f_P_terminal hm fi us md t k v; simp only [f_P_terminal, if_neg h1, if_neg h3n, if_neg h5n, if_neg h7, if_pos h8n, if_neg h9, if_neg h10n]) (by simp only [g_P_terminal_ztm, g_P_terminal_ztr, g_P_terminal_ztl, g_P_terminal_ztf, if_neg h1, if_neg h3n, if_neg h5n, if_neg h7, if_pos h8n, if_neg h9, if_neg h10n]) d_P_terminal_75
            · skip
              refine pv_bipush X (-3) d_P_terminal_57 (by decide) ?_
              exact pv_iret X hr hlk (kl, kr) (by show _ = f_P_terminal hm fi us md t k v; simp only [f_P_terminal, if_neg h1, if_neg h3n, if_neg h5n, if_neg h7, if_pos h8n, if_pos h9n]) (by simp only [g_P_terminal_ztm, g_P_terminal_ztr, g_P_terminal_ztl, g_P_terminal_ztf, if_neg h1, if_neg h3n, if_neg h5n, if_neg h7, if_pos h8n, if_pos h9n]) d_P_terminal_59
        · skip
          refine pv_bipush X (-2) d_P_terminal_30 (by decide) ?_
          exact pv_iret X hr hlk (kl, kr) (by show _ = f_P_terminal hm fi us md t k v; simp only [f_P_terminal, if_neg h1, if_neg h3n, if_neg h5n, if_pos h7n]) (by simp only [g_P_terminal_ztm, g_P_terminal_ztr, g_P_terminal_ztl, g_P_terminal_ztf, if_neg h1, if_neg h3n, if_neg h5n, if_pos h7n]) d_P_terminal_32
  · skip
    refine pv_iconst X (-1) d_P_terminal_7 (by decide) ?_
    exact pv_iret X hr hlk (kl, kr) (by show _ = f_P_terminal hm fi us md t k v; simp only [f_P_terminal, if_pos h1n]) (by simp only [g_P_terminal_ztm, g_P_terminal_ztr, g_P_terminal_ztl, g_P_terminal_ztf, if_pos h1n]) d_P_terminal_8
def f_P_next (hm : Int32) (md : Nat → Int32) (re : Nat → Int64) (t : Int32) : Int32 := if hm = 0 then (-1) else (if (f_T_isNumber t) = 0 then (-2) else (if (md t.toNatClampNeg) = 0 then (-3) else (advR re (t.toNatClampNeg) ((ctr (re (t.toNatClampNeg))) + 1))))
def g_P_next_ztr (hm : Int32) (md : Nat → Int32) (re : Nat → Int64) (t : Int32) : Nat → Int64 := if hm = 0 then re else (if (f_T_isNumber t) = 0 then re else (if (md t.toNatClampNeg) = 0 then re else (advM re (t.toNatClampNeg) ((ctr (re (t.toNatClampNeg))) + 1))))
abbrev rm_P_next : Room := { frames := 3, cells := 0, slots := 0, locals := 65 }
theorem mf_P_next : MF y_P_next b_P_next 2 (some .int) 1 := ⟨m_305, m_1, by decide, by decide, by decide +kernel⟩
theorem d_P_next_0 : decode b_P_next 0 = .ok (.aload_n 0, 1) := by decide +kernel
theorem d_P_next_1 : decode b_P_next 1 = .ok (.getfield 51, 3) := by decide +kernel
theorem d_P_next_4 : decode b_P_next 4 = .ok (.ifCond .ne 5, 3) := by decide +kernel
theorem d_P_next_7 : decode b_P_next 7 = .ok (.iconst (-1), 1) := by decide +kernel
theorem d_P_next_8 : decode b_P_next 8 = .ok (.ireturn, 1) := by decide +kernel
theorem d_P_next_9 : decode b_P_next 9 = .ok (.iload_n 1, 1) := by decide +kernel
theorem d_P_next_10 : decode b_P_next 10 = .ok (.invokestatic 161, 3) := by decide +kernel
theorem d_P_next_13 : decode b_P_next 13 = .ok (.ifCond .ne 6, 3) := by decide +kernel
theorem d_P_next_16 : decode b_P_next 16 = .ok (.bipush (-2), 2) := by decide +kernel
theorem d_P_next_18 : decode b_P_next 18 = .ok (.ireturn, 1) := by decide +kernel
theorem d_P_next_19 : decode b_P_next 19 = .ok (.aload_n 0, 1) := by decide +kernel
theorem d_P_next_20 : decode b_P_next 20 = .ok (.getfield 27, 3) := by decide +kernel
theorem d_P_next_23 : decode b_P_next 23 = .ok (.getfield 166, 3) := by decide +kernel
theorem d_P_next_26 : decode b_P_next 26 = .ok (.iload_n 1, 1) := by decide +kernel
theorem d_P_next_27 : decode b_P_next 27 = .ok (.baload, 1) := by decide +kernel
theorem d_P_next_28 : decode b_P_next 28 = .ok (.ifCond .ne 6, 3) := by decide +kernel
theorem d_P_next_31 : decode b_P_next 31 = .ok (.bipush (-3), 2) := by decide +kernel
theorem d_P_next_33 : decode b_P_next 33 = .ok (.ireturn, 1) := by decide +kernel
theorem d_P_next_34 : decode b_P_next 34 = .ok (.aload_n 0, 1) := by decide +kernel
theorem d_P_next_35 : decode b_P_next 35 = .ok (.getfield 27, 3) := by decide +kernel
theorem d_P_next_38 : decode b_P_next 38 = .ok (.iload_n 1, 1) := by decide +kernel
theorem d_P_next_39 : decode b_P_next 39 = .ok (.aload_n 0, 1) := by decide +kernel
theorem d_P_next_40 : decode b_P_next 40 = .ok (.getfield 27, 3) := by decide +kernel
theorem d_P_next_43 : decode b_P_next 43 = .ok (.iload_n 1, 1) := by decide +kernel
theorem d_P_next_44 : decode b_P_next 44 = .ok (.invokevirtual 173, 3) := by decide +kernel
theorem d_P_next_47 : decode b_P_next 47 = .ok (.iconst 1, 1) := by decide +kernel
theorem d_P_next_48 : decode b_P_next 48 = .ok (.iadd, 1) := by decide +kernel
theorem d_P_next_49 : decode b_P_next 49 = .ok (.invokevirtual 176, 3) := by decide +kernel
theorem d_P_next_52 : decode b_P_next 52 = .ok (.ireturn, 1) := by decide +kernel
set_option maxRecDepth 100000 in
set_option maxHeartbeats 4000000 in
theorem c_P_next (l : Launch) (G : Gt) (zp zph zpt zs zsf zsu zse zsl zsr zt ztm ztr ztl ztf ztd ztdq zc zcl zclq zcr zcrq zpb zpm : Nat) (hv : Nat → Int64) (ht : Nat → Int32) (hm : Int32) (ml mr : Int64) (fi us ex : Nat → Int32) (lf rg : Nat → Int64) (md : Nat → Int32) (re fl fr : Nat → Int64) (tk cu cv kl kr : Int64) (bf mg : Nat → Int64) (t : Int32) : CtI l G y_P_next b_P_next 2 (some .int) rm_P_next Sx [.ref zp, .int t] [ob zp 0 [.ref zph, .ref zpt, .int hm, .long ml, .long mr, .ref zs, .ref zt, .ref zc, .ref zpb, .ref zpm], aJ G zph 6 hv, aZ G zpt 6 ht, ob zs 1 [.ref zsf, .ref zsu, .ref zse, .ref zsl, .ref zsr], aZ G zsf 16 fi, aI G zsu 16 us, aZ G zse 16 ex, aJ G zsl 16 lf, aJ G zsr 16 rg, ob zt 2 [.ref ztm, .ref ztr, .ref ztl, .ref ztf, .ref ztd, .long cu, .long cv], aZ G ztm 8 md, aJ G ztr 8 re, aJ G ztl 8 fl, aJ G ztf 8 fr, ob ztd 4 [.ref ztdq, .long tk], aJ G ztdq 16 (rkF tk), ob zc 3 [.ref zcl, .ref zcr], ob zcl 4 [.ref zclq, .long kl], aJ G zclq 16 (rkF kl), ob zcr 4 [.ref zcrq, .long kr], aJ G zcrq 16 (rkF kr), aJ G zpb 5 bf, aJ G zpm 8 mg] (fun r (_ : Unit) => r = f_P_next hm md re t) (fun _ => [ob zp 0 [.ref zph, .ref zpt, .int hm, .long ml, .long mr, .ref zs, .ref zt, .ref zc, .ref zpb, .ref zpm], aJ G zph 6 hv, aZ G zpt 6 ht, ob zs 1 [.ref zsf, .ref zsu, .ref zse, .ref zsl, .ref zsr], aZ G zsf 16 fi, aI G zsu 16 us, aZ G zse 16 ex, aJ G zsl 16 lf, aJ G zsr 16 rg, ob zt 2 [.ref ztm, .ref ztr, .ref ztl, .ref ztf, .ref ztd, .long cu, .long cv], aZ G ztm 8 md, aJ G ztr 8 (g_P_next_ztr hm md re t), aJ G ztl 8 fl, aJ G ztf 8 fr, ob ztd 4 [.ref ztdq, .long tk], aJ G ztdq 16 (rkF tk), ob zc 3 [.ref zcl, .ref zcr], ob zcl 4 [.ref zclq, .long kl], aJ G zclq 16 (rkF kl), ob zcr 4 [.ref zcrq, .long kr], aJ G zcrq 16 (rkF kr), aJ G zpb 5 bf, aJ G zpm 8 mg]) 0 0 := by
  refine Ct.of (Qp := fun A => va_Qi _ (qB G A _) A) Sx_stb (by decide) (Nat.le_of_ble_eq_true rfl) ?_
  intro p e s m args below meth c A X hE hr hlk hini
  refine pv_eql (ll2 := [(0, .ref zp), (1, .int t)]) rfl ?_
  refine pv_aload_n X 0 d_P_next_0 rfl ?_
  refine pv_get X 0 2 u_P_in m_117 rfl rfl (by decide) ⟨rfl, rfl, rfl⟩ rfl d_P_next_1 ?_
  refine pv_if_ne X 9 d_P_next_4 rfl (fun h1 => ?_) (fun h1n => ?_)
  · skip
    refine pv_iload_n X 1 d_P_next_9 rfl ?_
    refine pv_calli0 X (rn_S X (c_T_isNumber l G t) trivial mf_T_isNumber m_287 m_288 rfl (by decide) (by decide) rfl (Nat.le_of_ble_eq_true rfl) d_P_next_10) ?_
    refine pv_if_ne X 19 d_P_next_13 rfl (fun h3 => ?_) (fun h3n => ?_)
    · skip
      refine pv_aload_n X 0 d_P_next_19 rfl ?_
      refine pv_get X 0 6 u_P_in m_121 rfl rfl (by decide) ⟨rfl, rfl, rfl⟩ rfl d_P_next_20 ?_
      refine pv_get X 9 0 u_T_in m_74 rfl rfl (by decide) ⟨rfl, rfl, rfl⟩ rfl d_P_next_23 ?_
      refine pv_iload_n X 1 d_P_next_26 rfl ?_
      refine pv_zald X 10 rfl (T_in h3) d_P_next_27 ?_
      refine pv_if_ne X 34 d_P_next_28 rfl (fun h4 => ?_) (fun h4n => ?_)
      · skip
        refine pv_aload_n X 0 d_P_next_34 rfl ?_
        refine pv_get X 0 6 u_P_in m_121 rfl rfl (by decide) ⟨rfl, rfl, rfl⟩ rfl d_P_next_35 ?_
        refine pv_iload_n X 1 d_P_next_38 rfl ?_
        refine pv_aload_n X 0 d_P_next_39 rfl ?_
        refine pv_get X 0 6 u_P_in m_121 rfl rfl (by decide) ⟨rfl, rfl, rfl⟩ rfl d_P_next_40 ?_
        refine pv_iload_n X 1 d_P_next_43 rfl ?_
        refine pv_calliE X (Cut.mk (w0 := [ob zt 2 [.ref ztm, .ref ztr, .ref ztl, .ref ztf, .ref ztd, .long cu, .long cv], aZ G ztm 8 md, aJ G ztr 8 re, aJ G ztl 8 fl, aJ G ztf 8 fr, ob ztd 4 [.ref ztdq, .long tk], aJ G ztdq 16 (rkF tk)]) (wr := [ob zp 0 [.ref zph, .ref zpt, .int hm, .long ml, .long mr, .ref zs, .ref zt, .ref zc, .ref zpb, .ref zpm], aJ G zph 6 hv, aZ G zpt 6 ht, ob zs 1 [.ref zsf, .ref zsu, .ref zse, .ref zsl, .ref zsr], aZ G zsf 16 fi, aI G zsu 16 us, aZ G zse 16 ex, aJ G zsl 16 lf, aJ G zsr 16 rg, ob zc 3 [.ref zcl, .ref zcr], ob zcl 4 [.ref zclq, .long kl], aJ G zclq 16 (rkF kl), ob zcr 4 [.ref zcrq, .long kr], aJ G zcrq 16 (rkF kr), aJ G zpb 5 bf, aJ G zpm 8 mg]) [9, 10, 11, 12, 13, 14, 15] [0, 1, 2, 3, 4, 5, 6, 7, 8, 16, 17, 18, 19, 20, 21, 22] rfl rfl rfl rfl rfl) (rn_V X (c_T_counter l G zt ztm ztr ztl ztf ztd ztdq md re fl fr tk cu cv t (T_in h3)) trivial mf_T_counter m_306 m_307 m_308 rfl 0 rfl rfl rfl (by decide) (by decide) rfl (Nat.le_of_ble_eq_true rfl) d_P_next_44) (fun x5 => ?_)
        refine pv_ord (ws2 := [ob zp 0 [.ref zph, .ref zpt, .int hm, .long ml, .long mr, .ref zs, .ref zt, .ref zc, .ref zpb, .ref zpm], aJ G zph 6 hv, aZ G zpt 6 ht, ob zs 1 [.ref zsf, .ref zsu, .ref zse, .ref zsl, .ref zsr], aZ G zsf 16 fi, aI G zsu 16 us, aZ G zse 16 ex, aJ G zsl 16 lf, aJ G zsr 16 rg, ob zt 2 [.ref ztm, .ref ztr, .ref ztl, .ref ztf, .ref ztd, .long cu, .long cv], aZ G ztm 8 md, aJ G ztr 8 re, aJ G ztl 8 fl, aJ G ztf 8 fr, ob ztd 4 [.ref ztdq, .long tk], aJ G ztdq 16 (rkF tk), ob zc 3 [.ref zcl, .ref zcr], ob zcl 4 [.ref zclq, .long kl], aJ G zclq 16 (rkF kl), ob zcr 4 [.ref zcrq, .long kr], aJ G zcrq 16 (rkF kr), aJ G zpb 5 bf, aJ G zpm 8 mg]) [0, 1, 2, 3, 4, 5, 6, 7, 8, 16, 17, 18, 19, 20, 21, 22, 9, 10, 11, 12, 13, 14, 15] rfl rfl ?_
        refine pv_iconst X 1 d_P_next_47 (by decide) ?_
        refine pv_iadd X d_P_next_48 ?_
        refine pv_calliE X (Cut.mk (w0 := [ob zt 2 [.ref ztm, .ref ztr, .ref ztl, .ref ztf, .ref ztd, .long cu, .long cv], aZ G ztm 8 md, aJ G ztr 8 re, aJ G ztl 8 fl, aJ G ztf 8 fr, ob ztd 4 [.ref ztdq, .long tk], aJ G ztdq 16 (rkF tk)]) (wr := [ob zp 0 [.ref zph, .ref zpt, .int hm, .long ml, .long mr, .ref zs, .ref zt, .ref zc, .ref zpb, .ref zpm], aJ G zph 6 hv, aZ G zpt 6 ht, ob zs 1 [.ref zsf, .ref zsu, .ref zse, .ref zsl, .ref zsr], aZ G zsf 16 fi, aI G zsu 16 us, aZ G zse 16 ex, aJ G zsl 16 lf, aJ G zsr 16 rg, ob zc 3 [.ref zcl, .ref zcr], ob zcl 4 [.ref zclq, .long kl], aJ G zclq 16 (rkF kl), ob zcr 4 [.ref zcrq, .long kr], aJ G zcrq 16 (rkF kr), aJ G zpb 5 bf, aJ G zpm 8 mg]) [9, 10, 11, 12, 13, 14, 15] [0, 1, 2, 3, 4, 5, 6, 7, 8, 16, 17, 18, 19, 20, 21, 22] rfl rfl rfl rfl rfl) (rn_V X (c_T_advance l G zt ztm ztr ztl ztf ztd ztdq md re fl fr tk cu cv t ((ctr (re (t.toNatClampNeg))) + 1) (T_in h3)) trivial mf_T_advance m_311 m_312 m_313 rfl 0 rfl rfl rfl (by decide) (by decide) rfl (Nat.le_of_ble_eq_true rfl) d_P_next_49) (fun x6 => ?_)
        refine pv_ord (ws2 := [ob zp 0 [.ref zph, .ref zpt, .int hm, .long ml, .long mr, .ref zs, .ref zt, .ref zc, .ref zpb, .ref zpm], aJ G zph 6 hv, aZ G zpt 6 ht, ob zs 1 [.ref zsf, .ref zsu, .ref zse, .ref zsl, .ref zsr], aZ G zsf 16 fi, aI G zsu 16 us, aZ G zse 16 ex, aJ G zsl 16 lf, aJ G zsr 16 rg, ob zt 2 [.ref ztm, .ref ztr, .ref ztl, .ref ztf, .ref ztd, .long cu, .long cv], aZ G ztm 8 md, aJ G ztr 8 (advM re (t.toNatClampNeg) ((ctr (re (t.toNatClampNeg))) + 1)), aJ G ztl 8 fl, aJ G ztf 8 fr, ob ztd 4 [.ref ztdq, .long tk], aJ G ztdq 16 (rkF tk), ob zc 3 [.ref zcl, .ref zcr], ob zcl 4 [.ref zclq, .long kl], aJ G zclq 16 (rkF kl), ob zcr 4 [.ref zcrq, .long kr], aJ G zcrq 16 (rkF kr), aJ G zpb 5 bf, aJ G zpm 8 mg]) [0, 1, 2, 3, 4, 5, 6, 7, 8, 16, 17, 18, 19, 20, 21, 22, 9, 10, 11, 12, 13, 14, 15] rfl rfl ?_
        exact pv_iret X hr hlk () (by show _ = f_P_next hm md re t; simp only [f_P_next, if_neg h1, if_neg h3, if_neg h4]) (by simp only [g_P_next_ztr, if_neg h1, if_neg h3, if_neg h4]) d_P_next_52
      · skip
        refine pv_bipush X (-3) d_P_next_31 (by decide) ?_
        exact pv_iret X hr hlk () (by show _ = f_P_next hm md re t; simp only [f_P_next, if_neg h1, if_neg h3, if_pos h4n]) (by simp only [g_P_next_ztr, if_neg h1, if_neg h3, if_pos h4n]) d_P_next_33
    · skip
      refine pv_bipush X (-2) d_P_next_16 (by decide) ?_
      exact pv_iret X hr hlk () (by show _ = f_P_next hm md re t; simp only [f_P_next, if_neg h1, if_pos h3n]) (by simp only [g_P_next_ztr, if_neg h1, if_pos h3n]) d_P_next_18
  · skip
    refine pv_iconst X (-1) d_P_next_7 (by decide) ?_
    exact pv_iret X hr hlk () (by show _ = f_P_next hm md re t; simp only [f_P_next, if_pos h1n]) (by simp only [g_P_next_ztr, if_pos h1n]) d_P_next_8
def f_P_skip (hm : Int32) (md : Nat → Int32) (re : Nat → Int64) (t : Int32) (n : Int32) : Int32 := if hm = 0 then (-1) else (if (f_T_isNumber t) = 0 then (-2) else (if n < 1 then (-2) else (if n ≤ 2097151 then (if (md t.toNatClampNeg) = 0 then (-3) else (advR re (t.toNatClampNeg) n)) else (-2))))
def g_P_skip_ztr (hm : Int32) (md : Nat → Int32) (re : Nat → Int64) (t : Int32) (n : Int32) : Nat → Int64 := if hm = 0 then re else (if (f_T_isNumber t) = 0 then re else (if n < 1 then re else (if n ≤ 2097151 then (if (md t.toNatClampNeg) = 0 then re else (advM re (t.toNatClampNeg) n)) else re)))
abbrev rm_P_skip : Room := { frames := 3, cells := 0, slots := 0, locals := 65 }
theorem mf_P_skip : MF y_P_skip b_P_skip 3 (some .int) 2 := ⟨m_334, m_1, by decide, by decide, by decide +kernel⟩
theorem d_P_skip_0 : decode b_P_skip 0 = .ok (.aload_n 0, 1) := by decide +kernel
theorem d_P_skip_1 : decode b_P_skip 1 = .ok (.getfield 51, 3) := by decide +kernel
theorem d_P_skip_4 : decode b_P_skip 4 = .ok (.ifCond .ne 5, 3) := by decide +kernel
theorem d_P_skip_7 : decode b_P_skip 7 = .ok (.iconst (-1), 1) := by decide +kernel
theorem d_P_skip_8 : decode b_P_skip 8 = .ok (.ireturn, 1) := by decide +kernel
theorem d_P_skip_9 : decode b_P_skip 9 = .ok (.iload_n 1, 1) := by decide +kernel
theorem d_P_skip_10 : decode b_P_skip 10 = .ok (.invokestatic 161, 3) := by decide +kernel
theorem d_P_skip_13 : decode b_P_skip 13 = .ok (.ifCond .eq 14, 3) := by decide +kernel
theorem d_P_skip_16 : decode b_P_skip 16 = .ok (.iload_n 2, 1) := by decide +kernel
theorem d_P_skip_17 : decode b_P_skip 17 = .ok (.iconst 1, 1) := by decide +kernel
theorem d_P_skip_18 : decode b_P_skip 18 = .ok (.if_icmp .lt 9, 3) := by decide +kernel
theorem d_P_skip_21 : decode b_P_skip 21 = .ok (.iload_n 2, 1) := by decide +kernel
theorem d_P_skip_22 : decode b_P_skip 22 = .ok (.ldc 180, 2) := by decide +kernel
theorem d_P_skip_24 : decode b_P_skip 24 = .ok (.if_icmp .le 6, 3) := by decide +kernel
theorem d_P_skip_27 : decode b_P_skip 27 = .ok (.bipush (-2), 2) := by decide +kernel
theorem d_P_skip_29 : decode b_P_skip 29 = .ok (.ireturn, 1) := by decide +kernel
theorem d_P_skip_30 : decode b_P_skip 30 = .ok (.aload_n 0, 1) := by decide +kernel
theorem d_P_skip_31 : decode b_P_skip 31 = .ok (.getfield 27, 3) := by decide +kernel
theorem d_P_skip_34 : decode b_P_skip 34 = .ok (.getfield 166, 3) := by decide +kernel
theorem d_P_skip_37 : decode b_P_skip 37 = .ok (.iload_n 1, 1) := by decide +kernel
theorem d_P_skip_38 : decode b_P_skip 38 = .ok (.baload, 1) := by decide +kernel
theorem d_P_skip_39 : decode b_P_skip 39 = .ok (.ifCond .ne 6, 3) := by decide +kernel
theorem d_P_skip_42 : decode b_P_skip 42 = .ok (.bipush (-3), 2) := by decide +kernel
theorem d_P_skip_44 : decode b_P_skip 44 = .ok (.ireturn, 1) := by decide +kernel
theorem d_P_skip_45 : decode b_P_skip 45 = .ok (.aload_n 0, 1) := by decide +kernel
theorem d_P_skip_46 : decode b_P_skip 46 = .ok (.getfield 27, 3) := by decide +kernel
theorem d_P_skip_49 : decode b_P_skip 49 = .ok (.iload_n 1, 1) := by decide +kernel
theorem d_P_skip_50 : decode b_P_skip 50 = .ok (.iload_n 2, 1) := by decide +kernel
theorem d_P_skip_51 : decode b_P_skip 51 = .ok (.invokevirtual 176, 3) := by decide +kernel
theorem d_P_skip_54 : decode b_P_skip 54 = .ok (.ireturn, 1) := by decide +kernel
set_option maxRecDepth 100000 in
set_option maxHeartbeats 4000000 in
theorem c_P_skip (l : Launch) (G : Gt) (zp zph zpt zs zsf zsu zse zsl zsr zt ztm ztr ztl ztf ztd ztdq zc zcl zclq zcr zcrq zpb zpm : Nat) (hv : Nat → Int64) (ht : Nat → Int32) (hm : Int32) (ml mr : Int64) (fi us ex : Nat → Int32) (lf rg : Nat → Int64) (md : Nat → Int32) (re fl fr : Nat → Int64) (tk cu cv kl kr : Int64) (bf mg : Nat → Int64) (t n : Int32) : CtI l G y_P_skip b_P_skip 3 (some .int) rm_P_skip Sx [.ref zp, .int t, .int n] [ob zp 0 [.ref zph, .ref zpt, .int hm, .long ml, .long mr, .ref zs, .ref zt, .ref zc, .ref zpb, .ref zpm], aJ G zph 6 hv, aZ G zpt 6 ht, ob zs 1 [.ref zsf, .ref zsu, .ref zse, .ref zsl, .ref zsr], aZ G zsf 16 fi, aI G zsu 16 us, aZ G zse 16 ex, aJ G zsl 16 lf, aJ G zsr 16 rg, ob zt 2 [.ref ztm, .ref ztr, .ref ztl, .ref ztf, .ref ztd, .long cu, .long cv], aZ G ztm 8 md, aJ G ztr 8 re, aJ G ztl 8 fl, aJ G ztf 8 fr, ob ztd 4 [.ref ztdq, .long tk], aJ G ztdq 16 (rkF tk), ob zc 3 [.ref zcl, .ref zcr], ob zcl 4 [.ref zclq, .long kl], aJ G zclq 16 (rkF kl), ob zcr 4 [.ref zcrq, .long kr], aJ G zcrq 16 (rkF kr), aJ G zpb 5 bf, aJ G zpm 8 mg] (fun r (_ : Unit) => r = f_P_skip hm md re t n) (fun _ => [ob zp 0 [.ref zph, .ref zpt, .int hm, .long ml, .long mr, .ref zs, .ref zt, .ref zc, .ref zpb, .ref zpm], aJ G zph 6 hv, aZ G zpt 6 ht, ob zs 1 [.ref zsf, .ref zsu, .ref zse, .ref zsl, .ref zsr], aZ G zsf 16 fi, aI G zsu 16 us, aZ G zse 16 ex, aJ G zsl 16 lf, aJ G zsr 16 rg, ob zt 2 [.ref ztm, .ref ztr, .ref ztl, .ref ztf, .ref ztd, .long cu, .long cv], aZ G ztm 8 md, aJ G ztr 8 (g_P_skip_ztr hm md re t n), aJ G ztl 8 fl, aJ G ztf 8 fr, ob ztd 4 [.ref ztdq, .long tk], aJ G ztdq 16 (rkF tk), ob zc 3 [.ref zcl, .ref zcr], ob zcl 4 [.ref zclq, .long kl], aJ G zclq 16 (rkF kl), ob zcr 4 [.ref zcrq, .long kr], aJ G zcrq 16 (rkF kr), aJ G zpb 5 bf, aJ G zpm 8 mg]) 0 0 := by
  refine Ct.of (Qp := fun A => va_Qi _ (qB G A _) A) Sx_stb (by decide) (Nat.le_of_ble_eq_true rfl) ?_
  intro p e s m args below meth c A X hE hr hlk hini
  refine pv_eql (ll2 := [(0, .ref zp), (1, .int t), (2, .int n)]) rfl ?_
  refine pv_aload_n X 0 d_P_skip_0 rfl ?_
  refine pv_get X 0 2 u_P_in m_117 rfl rfl (by decide) ⟨rfl, rfl, rfl⟩ rfl d_P_skip_1 ?_
  refine pv_if_ne X 9 d_P_skip_4 rfl (fun h1 => ?_) (fun h1n => ?_)
  · skip
    refine pv_iload_n X 1 d_P_skip_9 rfl ?_
    refine pv_calli0 X (rn_S X (c_T_isNumber l G t) trivial mf_T_isNumber m_287 m_288 rfl (by decide) (by decide) rfl (Nat.le_of_ble_eq_true rfl) d_P_skip_10) ?_
    refine pv_if_eq X 27 d_P_skip_13 rfl (fun h3 => ?_) (fun h3n => ?_)
    · skip
      refine pv_bipush X (-2) d_P_skip_27 (by decide) ?_
      exact pv_iret X hr hlk () (by show _ = f_P_skip hm md re t n; simp only [f_P_skip, if_neg h1, if_pos h3]) (by simp only [g_P_skip_ztr, if_neg h1, if_pos h3]) d_P_skip_29
    · skip
      refine pv_iload_n X 2 d_P_skip_16 rfl ?_
      refine pv_iconst X 1 d_P_skip_17 (by decide) ?_
      refine pv_icmp_lt X 27 d_P_skip_18 rfl (fun h4 => ?_) (fun h4n => ?_)
      · skip
        refine pv_bipush X (-2) d_P_skip_27 (by decide) ?_
        exact pv_iret X hr hlk () (by show _ = f_P_skip hm md re t n; simp only [f_P_skip, if_neg h1, if_neg h3n, if_pos h4]) (by simp only [g_P_skip_ztr, if_neg h1, if_neg h3n, if_pos h4]) d_P_skip_29
      · skip
        refine pv_iload_n X 2 d_P_skip_21 rfl ?_
        refine pv_ldc X m_335 d_P_skip_22 ?_
        refine pv_icmp_le X 30 d_P_skip_24 rfl (fun h5 => ?_) (fun h5n => ?_)
        · skip
          refine pv_aload_n X 0 d_P_skip_30 rfl ?_
          refine pv_get X 0 6 u_P_in m_121 rfl rfl (by decide) ⟨rfl, rfl, rfl⟩ rfl d_P_skip_31 ?_
          refine pv_get X 9 0 u_T_in m_74 rfl rfl (by decide) ⟨rfl, rfl, rfl⟩ rfl d_P_skip_34 ?_
          refine pv_iload_n X 1 d_P_skip_37 rfl ?_
          refine pv_zald X 10 rfl (T_in h3n) d_P_skip_38 ?_
          refine pv_if_ne X 45 d_P_skip_39 rfl (fun h6 => ?_) (fun h6n => ?_)
          · skip
            refine pv_aload_n X 0 d_P_skip_45 rfl ?_
            refine pv_get X 0 6 u_P_in m_121 rfl rfl (by decide) ⟨rfl, rfl, rfl⟩ rfl d_P_skip_46 ?_
            refine pv_iload_n X 1 d_P_skip_49 rfl ?_
            refine pv_iload_n X 2 d_P_skip_50 rfl ?_
            refine pv_calliE X (Cut.mk (w0 := [ob zt 2 [.ref ztm, .ref ztr, .ref ztl, .ref ztf, .ref ztd, .long cu, .long cv], aZ G ztm 8 md, aJ G ztr 8 re, aJ G ztl 8 fl, aJ G ztf 8 fr, ob ztd 4 [.ref ztdq, .long tk], aJ G ztdq 16 (rkF tk)]) (wr := [ob zp 0 [.ref zph, .ref zpt, .int hm, .long ml, .long mr, .ref zs, .ref zt, .ref zc, .ref zpb, .ref zpm], aJ G zph 6 hv, aZ G zpt 6 ht, ob zs 1 [.ref zsf, .ref zsu, .ref zse, .ref zsl, .ref zsr], aZ G zsf 16 fi, aI G zsu 16 us, aZ G zse 16 ex, aJ G zsl 16 lf, aJ G zsr 16 rg, ob zc 3 [.ref zcl, .ref zcr], ob zcl 4 [.ref zclq, .long kl], aJ G zclq 16 (rkF kl), ob zcr 4 [.ref zcrq, .long kr], aJ G zcrq 16 (rkF kr), aJ G zpb 5 bf, aJ G zpm 8 mg]) [9, 10, 11, 12, 13, 14, 15] [0, 1, 2, 3, 4, 5, 6, 7, 8, 16, 17, 18, 19, 20, 21, 22] rfl rfl rfl rfl rfl) (rn_V X (c_T_advance l G zt ztm ztr ztl ztf ztd ztdq md re fl fr tk cu cv t n (T_in h3n)) trivial mf_T_advance m_311 m_312 m_313 rfl 0 rfl rfl rfl (by decide) (by decide) rfl (Nat.le_of_ble_eq_true rfl) d_P_skip_51) (fun x7 => ?_)
            refine pv_ord (ws2 := [ob zp 0 [.ref zph, .ref zpt, .int hm, .long ml, .long mr, .ref zs, .ref zt, .ref zc, .ref zpb, .ref zpm], aJ G zph 6 hv, aZ G zpt 6 ht, ob zs 1 [.ref zsf, .ref zsu, .ref zse, .ref zsl, .ref zsr], aZ G zsf 16 fi, aI G zsu 16 us, aZ G zse 16 ex, aJ G zsl 16 lf, aJ G zsr 16 rg, ob zt 2 [.ref ztm, .ref ztr, .ref ztl, .ref ztf, .ref ztd, .long cu, .long cv], aZ G ztm 8 md, aJ G ztr 8 (advM re (t.toNatClampNeg) n), aJ G ztl 8 fl, aJ G ztf 8 fr, ob ztd 4 [.ref ztdq, .long tk], aJ G ztdq 16 (rkF tk), ob zc 3 [.ref zcl, .ref zcr], ob zcl 4 [.ref zclq, .long kl], aJ G zclq 16 (rkF kl), ob zcr 4 [.ref zcrq, .long kr], aJ G zcrq 16 (rkF kr), aJ G zpb 5 bf, aJ G zpm 8 mg]) [0, 1, 2, 3, 4, 5, 6, 7, 8, 16, 17, 18, 19, 20, 21, 22, 9, 10, 11, 12, 13, 14, 15] rfl rfl ?_
            exact pv_iret X hr hlk () (by show _ = f_P_skip hm md re t n; simp only [f_P_skip, if_neg h1, if_neg h3n, if_neg h4n, if_pos h5, if_neg h6]) (by simp only [g_P_skip_ztr, if_neg h1, if_neg h3n, if_neg h4n, if_pos h5, if_neg h6]) d_P_skip_54
          · skip
            refine pv_bipush X (-3) d_P_skip_42 (by decide) ?_
            exact pv_iret X hr hlk () (by show _ = f_P_skip hm md re t n; simp only [f_P_skip, if_neg h1, if_neg h3n, if_neg h4n, if_pos h5, if_pos h6n]) (by simp only [g_P_skip_ztr, if_neg h1, if_neg h3n, if_neg h4n, if_pos h5, if_pos h6n]) d_P_skip_44
        · skip
          refine pv_bipush X (-2) d_P_skip_27 (by decide) ?_
          exact pv_iret X hr hlk () (by show _ = f_P_skip hm md re t n; simp only [f_P_skip, if_neg h1, if_neg h3n, if_neg h4n, if_neg h5n]) (by simp only [g_P_skip_ztr, if_neg h1, if_neg h3n, if_neg h4n, if_neg h5n]) d_P_skip_29
  · skip
    refine pv_iconst X (-1) d_P_skip_7 (by decide) ?_
    exact pv_iret X hr hlk () (by show _ = f_P_skip hm md re t n; simp only [f_P_skip, if_pos h1n]) (by simp only [g_P_skip_ztr, if_pos h1n]) d_P_skip_8
def f_P_check (hm : Int32) (fi : Nat → Int32) (lf : Nat → Int64) (rg : Nat → Int64) (md : Nat → Int32) (re : Nat → Int64) (fl : Nat → Int64) (fr : Nat → Int64) (tk : Int64) (k : Int32) : Int32 := if hm = 0 then (-1) else (if (f_P_isKeyNumber k) = 0 then (-2) else (if (f_P_hasKey fi md k) = 0 then (-3) else (chkV (g_P_takeKey_zcl_1 lf re fl fr tk k (0 : Int64)) (g_P_takeKey_zcr_1 rg re fl fr tk k (0 : Int64)) )))
abbrev rm_P_check : Room := { frames := 6, cells := 0, slots := 0, locals := 155 }
theorem mf_P_check : MF y_P_check b_P_check 2 (some .int) 1 := ⟨m_339, m_1, by decide, by decide, by decide +kernel⟩
theorem d_P_check_0 : decode b_P_check 0 = .ok (.aload_n 0, 1) := by decide +kernel
theorem d_P_check_1 : decode b_P_check 1 = .ok (.getfield 51, 3) := by decide +kernel
theorem d_P_check_4 : decode b_P_check 4 = .ok (.ifCond .ne 5, 3) := by decide +kernel
theorem d_P_check_7 : decode b_P_check 7 = .ok (.iconst (-1), 1) := by decide +kernel
theorem d_P_check_8 : decode b_P_check 8 = .ok (.ireturn, 1) := by decide +kernel
theorem d_P_check_9 : decode b_P_check 9 = .ok (.iload_n 1, 1) := by decide +kernel
theorem d_P_check_10 : decode b_P_check 10 = .ok (.invokestatic 181, 3) := by decide +kernel
theorem d_P_check_13 : decode b_P_check 13 = .ok (.ifCond .ne 6, 3) := by decide +kernel
theorem d_P_check_16 : decode b_P_check 16 = .ok (.bipush (-2), 2) := by decide +kernel
theorem d_P_check_18 : decode b_P_check 18 = .ok (.ireturn, 1) := by decide +kernel
theorem d_P_check_19 : decode b_P_check 19 = .ok (.aload_n 0, 1) := by decide +kernel
theorem d_P_check_20 : decode b_P_check 20 = .ok (.iload_n 1, 1) := by decide +kernel
theorem d_P_check_21 : decode b_P_check 21 = .ok (.invokevirtual 184, 3) := by decide +kernel
theorem d_P_check_24 : decode b_P_check 24 = .ok (.ifCond .ne 6, 3) := by decide +kernel
theorem d_P_check_27 : decode b_P_check 27 = .ok (.bipush (-3), 2) := by decide +kernel
theorem d_P_check_29 : decode b_P_check 29 = .ok (.ireturn, 1) := by decide +kernel
theorem d_P_check_30 : decode b_P_check 30 = .ok (.aload_n 0, 1) := by decide +kernel
theorem d_P_check_31 : decode b_P_check 31 = .ok (.iload_n 1, 1) := by decide +kernel
theorem d_P_check_32 : decode b_P_check 32 = .ok (.lconst 0, 1) := by decide +kernel
theorem d_P_check_33 : decode b_P_check 33 = .ok (.invokevirtual 187, 3) := by decide +kernel
theorem d_P_check_36 : decode b_P_check 36 = .ok (.aload_n 0, 1) := by decide +kernel
theorem d_P_check_37 : decode b_P_check 37 = .ok (.getfield 34, 3) := by decide +kernel
theorem d_P_check_40 : decode b_P_check 40 = .ok (.invokevirtual 81, 3) := by decide +kernel
theorem d_P_check_43 : decode b_P_check 43 = .ok (.ireturn, 1) := by decide +kernel
set_option maxRecDepth 100000 in
set_option maxHeartbeats 4000000 in
theorem c_P_check (l : Launch) (G : Gt) (zp zph zpt zs zsf zsu zse zsl zsr zt ztm ztr ztl ztf ztd ztdq zc zcl zclq zcr zcrq zpb zpm : Nat) (hv : Nat → Int64) (ht : Nat → Int32) (hm : Int32) (ml mr : Int64) (fi us ex : Nat → Int32) (lf rg : Nat → Int64) (md : Nat → Int32) (re fl fr : Nat → Int64) (tk cu cv kl kr : Int64) (bf mg : Nat → Int64) (k : Int32) (hfi : ∀ j, Bo (fi j)) (hmd : ∀ j, Bo (md j)) : CtI l G y_P_check b_P_check 2 (some .int) rm_P_check Sx [.ref zp, .int k] [ob zp 0 [.ref zph, .ref zpt, .int hm, .long ml, .long mr, .ref zs, .ref zt, .ref zc, .ref zpb, .ref zpm], aJ G zph 6 hv, aZ G zpt 6 ht, ob zs 1 [.ref zsf, .ref zsu, .ref zse, .ref zsl, .ref zsr], aZ G zsf 16 fi, aI G zsu 16 us, aZ G zse 16 ex, aJ G zsl 16 lf, aJ G zsr 16 rg, ob zt 2 [.ref ztm, .ref ztr, .ref ztl, .ref ztf, .ref ztd, .long cu, .long cv], aZ G ztm 8 md, aJ G ztr 8 re, aJ G ztl 8 fl, aJ G ztf 8 fr, ob ztd 4 [.ref ztdq, .long tk], aJ G ztdq 16 (rkF tk), ob zc 3 [.ref zcl, .ref zcr], ob zcl 4 [.ref zclq, .long kl], aJ G zclq 16 (rkF kl), ob zcr 4 [.ref zcrq, .long kr], aJ G zcrq 16 (rkF kr), aJ G zpb 5 bf, aJ G zpm 8 mg] (fun r (_ : Int64 × Int64 × Int64 × Int64 × Int64) => r = f_P_check hm fi lf rg md re fl fr tk k) (fun x => [ob zp 0 [.ref zph, .ref zpt, .int hm, .long ml, .long mr, .ref zs, .ref zt, .ref zc, .ref zpb, .ref zpm], aJ G zph 6 hv, aZ G zpt 6 ht, ob zs 1 [.ref zsf, .ref zsu, .ref zse, .ref zsl, .ref zsr], aZ G zsf 16 fi, aI G zsu 16 us, aZ G zse 16 ex, aJ G zsl 16 lf, aJ G zsr 16 rg, ob zt 2 [.ref ztm, .ref ztr, .ref ztl, .ref ztf, .ref ztd, .long x.2.1, .long x.2.2.1], aZ G ztm 8 md, aJ G ztr 8 re, aJ G ztl 8 fl, aJ G ztf 8 fr, ob ztd 4 [.ref ztdq, .long x.1], aJ G ztdq 16 (rkF x.1), ob zc 3 [.ref zcl, .ref zcr], ob zcl 4 [.ref zclq, .long x.2.2.2.1], aJ G zclq 16 (rkF x.2.2.2.1), ob zcr 4 [.ref zcrq, .long x.2.2.2.2], aJ G zcrq 16 (rkF x.2.2.2.2), aJ G zpb 5 bf, aJ G zpm 8 mg]) 0 0 := by
  refine Ct.of (Qp := fun A => va_Qi _ (qB G A _) A) Sx_stb (by decide) (Nat.le_of_ble_eq_true rfl) ?_
  intro p e s m args below meth c A X hE hr hlk hini
  refine pv_eql (ll2 := [(0, .ref zp), (1, .int k)]) rfl ?_
  refine pv_aload_n X 0 d_P_check_0 rfl ?_
  refine pv_get X 0 2 u_P_in m_117 rfl rfl (by decide) ⟨rfl, rfl, rfl⟩ rfl d_P_check_1 ?_
  refine pv_if_ne X 9 d_P_check_4 rfl (fun h1 => ?_) (fun h1n => ?_)
  · skip
    refine pv_iload_n X 1 d_P_check_9 rfl ?_
    refine pv_calli0 X (rn_S X (c_P_isKeyNumber l G k) trivial mf_P_isKeyNumber m_340 m_341 rfl (by decide) (by decide) rfl (Nat.le_of_ble_eq_true rfl) d_P_check_10) ?_
    refine pv_if_ne X 19 d_P_check_13 rfl (fun h3 => ?_) (fun h3n => ?_)
    · skip
      refine pv_aload_n X 0 d_P_check_19 rfl ?_
      refine pv_iload_n X 1 d_P_check_20 rfl ?_
      refine pv_calliE X (Cut.all _) (rn_V X (c_P_hasKey l G zp zph zpt zs zsf zsu zse zsl zsr zt ztm ztr ztl ztf ztd ztdq zc zcl zclq zcr zcrq zpb zpm hv ht hm ml mr fi us ex lf rg md re fl fr tk cu cv kl kr bf mg k h3 hfi hmd) hE mf_P_hasKey m_343 m_345 ms_4 rfl 0 rfl rfl rfl (by decide) (by decide) rfl (Nat.le_of_ble_eq_true rfl) d_P_check_21) (fun x4 => ?_)
      refine pv_eqw (ws2 := [ob zp 0 [.ref zph, .ref zpt, .int hm, .long ml, .long mr, .ref zs, .ref zt, .ref zc, .ref zpb, .ref zpm], aJ G zph 6 hv, aZ G zpt 6 ht, ob zs 1 [.ref zsf, .ref zsu, .ref zse, .ref zsl, .ref zsr], aZ G zsf 16 fi, aI G zsu 16 us, aZ G zse 16 ex, aJ G zsl 16 lf, aJ G zsr 16 rg, ob zt 2 [.ref ztm, .ref ztr, .ref ztl, .ref ztf, .ref ztd, .long cu, .long cv], aZ G ztm 8 md, aJ G ztr 8 re, aJ G ztl 8 fl, aJ G ztf 8 fr, ob ztd 4 [.ref ztdq, .long tk], aJ G ztdq 16 (rkF tk), ob zc 3 [.ref zcl, .ref zcr], ob zcl 4 [.ref zclq, .long kl], aJ G zclq 16 (rkF kl), ob zcr 4 [.ref zcrq, .long kr], aJ G zcrq 16 (rkF kr), aJ G zpb 5 bf, aJ G zpm 8 mg]) rfl ?_
      refine pv_if_ne X 30 d_P_check_24 rfl (fun h5 => ?_) (fun h5n => ?_)
      · skip
        refine pv_aload_n X 0 d_P_check_30 rfl ?_
        refine pv_iload_n X 1 d_P_check_31 rfl ?_
        refine pv_lconst X 0 d_P_check_32 (by decide) ?_
        refine pv_callv X (Cut.all _) (rn_V X (c_P_takeKey l G zp zph zpt zs zsf zsu zse zsl zsr zt ztm ztr ztl ztf ztd ztdq zc zcl zclq zcr zcrq zpb zpm hv ht hm ml mr fi us ex lf rg md re fl fr tk cu cv kl kr bf mg k (0 : Int64) h3) hE mf_P_takeKey m_347 m_349 ms_5 rfl 0 rfl rfl rfl (by decide) (by decide) rfl (Nat.le_of_ble_eq_true rfl) d_P_check_33) (fun x6 e6 => ?_)
        refine pv_eqw (ws2 := [ob zp 0 [.ref zph, .ref zpt, .int hm, .long ml, .long mr, .ref zs, .ref zt, .ref zc, .ref zpb, .ref zpm], aJ G zph 6 hv, aZ G zpt 6 ht, ob zs 1 [.ref zsf, .ref zsu, .ref zse, .ref zsl, .ref zsr], aZ G zsf 16 fi, aI G zsu 16 us, aZ G zse 16 ex, aJ G zsl 16 lf, aJ G zsr 16 rg, ob zt 2 [.ref ztm, .ref ztr, .ref ztl, .ref ztf, .ref ztd, .long (g_P_takeKey_zt_5 re fl fr tk cu k), .long (g_P_takeKey_zt_6 re fl fr tk cv k)], aZ G ztm 8 md, aJ G ztr 8 re, aJ G ztl 8 fl, aJ G ztf 8 fr, ob ztd 4 [.ref ztdq, .long (g_P_takeKey_ztd_1 re fl fr tk k)], aJ G ztdq 16 (rkF (g_P_takeKey_ztd_1 re fl fr tk k)), ob zc 3 [.ref zcl, .ref zcr], ob zcl 4 [.ref zclq, .long (g_P_takeKey_zcl_1 lf re fl fr tk k (0 : Int64))], aJ G zclq 16 (rkF (g_P_takeKey_zcl_1 lf re fl fr tk k (0 : Int64))), ob zcr 4 [.ref zcrq, .long (g_P_takeKey_zcr_1 rg re fl fr tk k (0 : Int64))], aJ G zcrq 16 (rkF (g_P_takeKey_zcr_1 rg re fl fr tk k (0 : Int64))), aJ G zpb 5 bf, aJ G zpm 8 mg]) rfl ?_
        refine pv_aload_n X 0 d_P_check_36 rfl ?_
        refine pv_get X 0 7 u_P_in m_122 rfl rfl (by decide) ⟨rfl, rfl, rfl⟩ rfl d_P_check_37 ?_
        refine pv_calliE X (Cut.mk (w0 := [ob zc 3 [.ref zcl, .ref zcr], ob zcl 4 [.ref zclq, .long (g_P_takeKey_zcl_1 lf re fl fr tk k (0 : Int64))], aJ G zclq 16 (rkF (g_P_takeKey_zcl_1 lf re fl fr tk k (0 : Int64))), ob zcr 4 [.ref zcrq, .long (g_P_takeKey_zcr_1 rg re fl fr tk k (0 : Int64))], aJ G zcrq 16 (rkF (g_P_takeKey_zcr_1 rg re fl fr tk k (0 : Int64)))]) (wr := [ob zp 0 [.ref zph, .ref zpt, .int hm, .long ml, .long mr, .ref zs, .ref zt, .ref zc, .ref zpb, .ref zpm], aJ G zph 6 hv, aZ G zpt 6 ht, ob zs 1 [.ref zsf, .ref zsu, .ref zse, .ref zsl, .ref zsr], aZ G zsf 16 fi, aI G zsu 16 us, aZ G zse 16 ex, aJ G zsl 16 lf, aJ G zsr 16 rg, ob zt 2 [.ref ztm, .ref ztr, .ref ztl, .ref ztf, .ref ztd, .long (g_P_takeKey_zt_5 re fl fr tk cu k), .long (g_P_takeKey_zt_6 re fl fr tk cv k)], aZ G ztm 8 md, aJ G ztr 8 re, aJ G ztl 8 fl, aJ G ztf 8 fr, ob ztd 4 [.ref ztdq, .long (g_P_takeKey_ztd_1 re fl fr tk k)], aJ G ztdq 16 (rkF (g_P_takeKey_ztd_1 re fl fr tk k)), aJ G zpb 5 bf, aJ G zpm 8 mg]) [16, 17, 18, 19, 20] [0, 1, 2, 3, 4, 5, 6, 7, 8, 9, 10, 11, 12, 13, 14, 15, 21, 22] rfl rfl rfl rfl rfl) (rn_V X (c_C_checkValue l G zc zcl zclq zcr zcrq (g_P_takeKey_zcl_1 lf re fl fr tk k (0 : Int64)) (g_P_takeKey_zcr_1 rg re fl fr tk k (0 : Int64)) ) hE mf_C_checkValue m_188 m_189 m_190 rfl 0 rfl rfl rfl (by decide) (by decide) rfl (Nat.le_of_ble_eq_true rfl) d_P_check_40) (fun x7 => ?_)
        refine pv_ord (ws2 := [ob zp 0 [.ref zph, .ref zpt, .int hm, .long ml, .long mr, .ref zs, .ref zt, .ref zc, .ref zpb, .ref zpm], aJ G zph 6 hv, aZ G zpt 6 ht, ob zs 1 [.ref zsf, .ref zsu, .ref zse, .ref zsl, .ref zsr], aZ G zsf 16 fi, aI G zsu 16 us, aZ G zse 16 ex, aJ G zsl 16 lf, aJ G zsr 16 rg, ob zt 2 [.ref ztm, .ref ztr, .ref ztl, .ref ztf, .ref ztd, .long (g_P_takeKey_zt_5 re fl fr tk cu k), .long (g_P_takeKey_zt_6 re fl fr tk cv k)], aZ G ztm 8 md, aJ G ztr 8 re, aJ G ztl 8 fl, aJ G ztf 8 fr, ob ztd 4 [.ref ztdq, .long (g_P_takeKey_ztd_1 re fl fr tk k)], aJ G ztdq 16 (rkF (g_P_takeKey_ztd_1 re fl fr tk k)), ob zc 3 [.ref zcl, .ref zcr], ob zcl 4 [.ref zclq, .long (g_P_takeKey_zcl_1 lf re fl fr tk k (0 : Int64))], aJ G zclq 16 (rkF (g_P_takeKey_zcl_1 lf re fl fr tk k (0 : Int64))), ob zcr 4 [.ref zcrq, .long (g_P_takeKey_zcr_1 rg re fl fr tk k (0 : Int64))], aJ G zcrq 16 (rkF (g_P_takeKey_zcr_1 rg re fl fr tk k (0 : Int64))), aJ G zpb 5 bf, aJ G zpm 8 mg]) [0, 1, 2, 3, 4, 5, 6, 7, 8, 9, 10, 11, 12, 13, 14, 15, 18, 19, 20, 21, 22, 16, 17] rfl rfl ?_
        exact pv_iret X hr hlk (g_P_takeKey_ztd_1 re fl fr tk k, g_P_takeKey_zt_5 re fl fr tk cu k, g_P_takeKey_zt_6 re fl fr tk cv k, g_P_takeKey_zcl_1 lf re fl fr tk k (0 : Int64), g_P_takeKey_zcr_1 rg re fl fr tk k (0 : Int64)) (by show _ = f_P_check hm fi lf rg md re fl fr tk k; simp only [f_P_check, if_neg h1, if_neg h3, if_neg h5]) rfl d_P_check_43
      · skip
        refine pv_bipush X (-3) d_P_check_27 (by decide) ?_
        exact pv_iret X hr hlk (tk, cu, cv, kl, kr) (by show _ = f_P_check hm fi lf rg md re fl fr tk k; simp only [f_P_check, if_neg h1, if_neg h3, if_pos h5n]) rfl d_P_check_29
    · skip
      refine pv_bipush X (-2) d_P_check_16 (by decide) ?_
      exact pv_iret X hr hlk (tk, cu, cv, kl, kr) (by show _ = f_P_check hm fi lf rg md re fl fr tk k; simp only [f_P_check, if_neg h1, if_pos h3n]) rfl d_P_check_18
  · skip
    refine pv_iconst X (-1) d_P_check_7 (by decide) ?_
    exact pv_iret X hr hlk (tk, cu, cv, kl, kr) (by show _ = f_P_check hm fi lf rg md re fl fr tk k; simp only [f_P_check, if_pos h1n]) rfl d_P_check_8
def f_P_pin (hm : Int32) (fi : Nat → Int32) (us : Nat → Int32) (md : Nat → Int32) (k : Int32) (g : Int32) (a : Int64) (d : Int64) (z : Int64) : Int32 := if hm = 0 then (-1) else (if (f_P_isKeyNumber k) = 0 then (-2) else (if (f_B_isFormat (g >>> (4 &&& 31))) = 0 then (-2) else (if (f_B_isLength (g &&& 15)) = 0 then (-2) else (if (f_P_areDigits a 16) = 0 then (-2) else (if (f_P_areDigits d (g &&& 15)) = 0 then (-2) else (if (f_B_mayFill (g >>> (4 &&& 31)) z (f_B_fillCount (g &&& 15))) = 0 then (-2) else (if (f_P_hasKey fi md k) = 0 then (-3) else (if (f_P_isPinKey us k) = 0 then (-4) else 0))))))))
def g_P_pin_zpb (hm : Int32) (fi : Nat → Int32) (us : Nat → Int32) (lf : Nat → Int64) (rg : Nat → Int64) (md : Nat → Int32) (re : Nat → Int64) (fl : Nat → Int64) (fr : Nat → Int64) (tk : Int64) (bf : Nat → Int64) (k : Int32) (g : Int32) (a : Int64) (d : Int64) (z : Int64) : Nat → Int64 := if hm = 0 then bf else (if (f_P_isKeyNumber k) = 0 then bf else (if (f_B_isFormat (g >>> (4 &&& 31))) = 0 then bf else (if (f_B_isLength (g &&& 15)) = 0 then bf else (if (f_P_areDigits a 16) = 0 then bf else (if (f_P_areDigits d (g &&& 15)) = 0 then bf else (if (f_B_mayFill (g >>> (4 &&& 31)) z (f_B_fillCount (g &&& 15))) = 0 then bf else (if (f_P_hasKey fi md k) = 0 then bf else (if (f_P_isPinKey us k) = 0 then bf else (vp_updL bf 0 (sealB (g_P_takeKey_zcl_1 lf re fl fr tk k (255 : Int64)) (g_P_takeKey_zcr_1 rg re fl fr tk k (255 : Int64)) (f_B_made (g >>> (4 &&& 31)) a (g &&& 15) d z)))))))))))
abbrev rm_P_pin : Room := { frames := 6, cells := 0, slots := 0, locals := 155 }
theorem mf_P_pin : MF y_P_pin b_P_pin 11 (some .int) 5 := ⟨m_364, m_1, by decide, by decide, by decide +kernel⟩
theorem d_P_pin_0 : decode b_P_pin 0 = .ok (.aload_n 0, 1) := by decide +kernel
theorem d_P_pin_1 : decode b_P_pin 1 = .ok (.getfield 51, 3) := by decide +kernel
theorem d_P_pin_4 : decode b_P_pin 4 = .ok (.ifCond .ne 5, 3) := by decide +kernel
theorem d_P_pin_7 : decode b_P_pin 7 = .ok (.iconst (-1), 1) := by decide +kernel
theorem d_P_pin_8 : decode b_P_pin 8 = .ok (.ireturn, 1) := by decide +kernel
theorem d_P_pin_9 : decode b_P_pin 9 = .ok (.iload_n 2, 1) := by decide +kernel
theorem d_P_pin_10 : decode b_P_pin 10 = .ok (.iconst 4, 1) := by decide +kernel
theorem d_P_pin_11 : decode b_P_pin 11 = .ok (.ishr, 1) := by decide +kernel
theorem d_P_pin_12 : decode b_P_pin 12 = .ok (.istore 9, 2) := by decide +kernel
theorem d_P_pin_14 : decode b_P_pin 14 = .ok (.iload_n 2, 1) := by decide +kernel
theorem d_P_pin_15 : decode b_P_pin 15 = .ok (.bipush 15, 2) := by decide +kernel
theorem d_P_pin_17 : decode b_P_pin 17 = .ok (.iand, 1) := by decide +kernel
theorem d_P_pin_18 : decode b_P_pin 18 = .ok (.istore 10, 2) := by decide +kernel
theorem d_P_pin_20 : decode b_P_pin 20 = .ok (.iload_n 1, 1) := by decide +kernel
theorem d_P_pin_21 : decode b_P_pin 21 = .ok (.invokestatic 181, 3) := by decide +kernel
theorem d_P_pin_24 : decode b_P_pin 24 = .ok (.ifCond .eq 53, 3) := by decide +kernel
theorem d_P_pin_27 : decode b_P_pin 27 = .ok (.iload 9, 2) := by decide +kernel
theorem d_P_pin_29 : decode b_P_pin 29 = .ok (.invokestatic 191, 3) := by decide +kernel
theorem d_P_pin_32 : decode b_P_pin 32 = .ok (.ifCond .eq 45, 3) := by decide +kernel
theorem d_P_pin_35 : decode b_P_pin 35 = .ok (.iload 10, 2) := by decide +kernel
theorem d_P_pin_37 : decode b_P_pin 37 = .ok (.invokestatic 196, 3) := by decide +kernel
theorem d_P_pin_40 : decode b_P_pin 40 = .ok (.ifCond .eq 37, 3) := by decide +kernel
theorem d_P_pin_43 : decode b_P_pin 43 = .ok (.lload_n 3, 1) := by decide +kernel
theorem d_P_pin_44 : decode b_P_pin 44 = .ok (.bipush 16, 2) := by decide +kernel
theorem d_P_pin_46 : decode b_P_pin 46 = .ok (.invokestatic 199, 3) := by decide +kernel
theorem d_P_pin_49 : decode b_P_pin 49 = .ok (.ifCond .eq 28, 3) := by decide +kernel
theorem d_P_pin_52 : decode b_P_pin 52 = .ok (.lload 5, 2) := by decide +kernel
theorem d_P_pin_54 : decode b_P_pin 54 = .ok (.iload 10, 2) := by decide +kernel
theorem d_P_pin_56 : decode b_P_pin 56 = .ok (.invokestatic 199, 3) := by decide +kernel
theorem d_P_pin_59 : decode b_P_pin 59 = .ok (.ifCond .eq 18, 3) := by decide +kernel
theorem d_P_pin_62 : decode b_P_pin 62 = .ok (.iload 9, 2) := by decide +kernel
theorem d_P_pin_64 : decode b_P_pin 64 = .ok (.lload 7, 2) := by decide +kernel
theorem d_P_pin_66 : decode b_P_pin 66 = .ok (.iload 10, 2) := by decide +kernel
theorem d_P_pin_68 : decode b_P_pin 68 = .ok (.invokestatic 203, 3) := by decide +kernel
theorem d_P_pin_71 : decode b_P_pin 71 = .ok (.invokestatic 206, 3) := by decide +kernel
theorem d_P_pin_74 : decode b_P_pin 74 = .ok (.ifCond .ne 6, 3) := by decide +kernel
theorem d_P_pin_77 : decode b_P_pin 77 = .ok (.bipush (-2), 2) := by decide +kernel
theorem d_P_pin_79 : decode b_P_pin 79 = .ok (.ireturn, 1) := by decide +kernel
theorem d_P_pin_80 : decode b_P_pin 80 = .ok (.aload_n 0, 1) := by decide +kernel
theorem d_P_pin_81 : decode b_P_pin 81 = .ok (.iload_n 1, 1) := by decide +kernel
theorem d_P_pin_82 : decode b_P_pin 82 = .ok (.invokevirtual 184, 3) := by decide +kernel
theorem d_P_pin_85 : decode b_P_pin 85 = .ok (.ifCond .ne 6, 3) := by decide +kernel
theorem d_P_pin_88 : decode b_P_pin 88 = .ok (.bipush (-3), 2) := by decide +kernel
theorem d_P_pin_90 : decode b_P_pin 90 = .ok (.ireturn, 1) := by decide +kernel
theorem d_P_pin_91 : decode b_P_pin 91 = .ok (.aload_n 0, 1) := by decide +kernel
theorem d_P_pin_92 : decode b_P_pin 92 = .ok (.iload_n 1, 1) := by decide +kernel
theorem d_P_pin_93 : decode b_P_pin 93 = .ok (.invokevirtual 210, 3) := by decide +kernel
theorem d_P_pin_96 : decode b_P_pin 96 = .ok (.ifCond .ne 6, 3) := by decide +kernel
theorem d_P_pin_99 : decode b_P_pin 99 = .ok (.bipush (-4), 2) := by decide +kernel
theorem d_P_pin_101 : decode b_P_pin 101 = .ok (.ireturn, 1) := by decide +kernel
theorem d_P_pin_102 : decode b_P_pin 102 = .ok (.aload_n 0, 1) := by decide +kernel
theorem d_P_pin_103 : decode b_P_pin 103 = .ok (.iload_n 1, 1) := by decide +kernel
theorem d_P_pin_104 : decode b_P_pin 104 = .ok (.ldc2_w 213, 3) := by decide +kernel
theorem d_P_pin_107 : decode b_P_pin 107 = .ok (.invokevirtual 187, 3) := by decide +kernel
theorem d_P_pin_110 : decode b_P_pin 110 = .ok (.aload_n 0, 1) := by decide +kernel
theorem d_P_pin_111 : decode b_P_pin 111 = .ok (.getfield 38, 3) := by decide +kernel
theorem d_P_pin_114 : decode b_P_pin 114 = .ok (.iconst 0, 1) := by decide +kernel
theorem d_P_pin_115 : decode b_P_pin 115 = .ok (.aload_n 0, 1) := by decide +kernel
theorem d_P_pin_116 : decode b_P_pin 116 = .ok (.getfield 34, 3) := by decide +kernel
theorem d_P_pin_119 : decode b_P_pin 119 = .ok (.iload 9, 2) := by decide +kernel
theorem d_P_pin_121 : decode b_P_pin 121 = .ok (.lload_n 3, 1) := by decide +kernel
theorem d_P_pin_122 : decode b_P_pin 122 = .ok (.iload 10, 2) := by decide +kernel
theorem d_P_pin_124 : decode b_P_pin 124 = .ok (.lload 5, 2) := by decide +kernel
theorem d_P_pin_126 : decode b_P_pin 126 = .ok (.lload 7, 2) := by decide +kernel
theorem d_P_pin_128 : decode b_P_pin 128 = .ok (.invokestatic 215, 3) := by decide +kernel
theorem d_P_pin_131 : decode b_P_pin 131 = .ok (.invokevirtual 137, 3) := by decide +kernel
theorem d_P_pin_134 : decode b_P_pin 134 = .ok (.lastore, 1) := by decide +kernel
theorem d_P_pin_135 : decode b_P_pin 135 = .ok (.iconst 0, 1) := by decide +kernel
theorem d_P_pin_136 : decode b_P_pin 136 = .ok (.ireturn, 1) := by decide +kernel
set_option maxRecDepth 100000 in
set_option maxHeartbeats 4000000 in
theorem c_P_pin (l : Launch) (G : Gt) (zp zph zpt zs zsf zsu zse zsl zsr zt ztm ztr ztl ztf ztd ztdq zc zcl zclq zcr zcrq zpb zpm : Nat) (hv : Nat → Int64) (ht : Nat → Int32) (hm : Int32) (ml mr : Int64) (fi us ex : Nat → Int32) (lf rg : Nat → Int64) (md : Nat → Int32) (re fl fr : Nat → Int64) (tk cu cv kl kr : Int64) (bf mg : Nat → Int64) (k g : Int32) (a d z : Int64) (hfi : ∀ j, Bo (fi j)) (hmd : ∀ j, Bo (md j)) : CtI l G y_P_pin b_P_pin 11 (some .int) rm_P_pin Sx [.ref zp, .int k, .int g, .long a, .long d, .long z] [ob zp 0 [.ref zph, .ref zpt, .int hm, .long ml, .long mr, .ref zs, .ref zt, .ref zc, .ref zpb, .ref zpm], aJ G zph 6 hv, aZ G zpt 6 ht, ob zs 1 [.ref zsf, .ref zsu, .ref zse, .ref zsl, .ref zsr], aZ G zsf 16 fi, aI G zsu 16 us, aZ G zse 16 ex, aJ G zsl 16 lf, aJ G zsr 16 rg, ob zt 2 [.ref ztm, .ref ztr, .ref ztl, .ref ztf, .ref ztd, .long cu, .long cv], aZ G ztm 8 md, aJ G ztr 8 re, aJ G ztl 8 fl, aJ G ztf 8 fr, ob ztd 4 [.ref ztdq, .long tk], aJ G ztdq 16 (rkF tk), ob zc 3 [.ref zcl, .ref zcr], ob zcl 4 [.ref zclq, .long kl], aJ G zclq 16 (rkF kl), ob zcr 4 [.ref zcrq, .long kr], aJ G zcrq 16 (rkF kr), aJ G zpb 5 bf, aJ G zpm 8 mg] (fun r (_ : Int64 × Int64 × Int64 × Int64 × Int64) => r = f_P_pin hm fi us md k g a d z) (fun x => [ob zp 0 [.ref zph, .ref zpt, .int hm, .long ml, .long mr, .ref zs, .ref zt, .ref zc, .ref zpb, .ref zpm], aJ G zph 6 hv, aZ G zpt 6 ht, ob zs 1 [.ref zsf, .ref zsu, .ref zse, .ref zsl, .ref zsr], aZ G zsf 16 fi, aI G zsu 16 us, aZ G zse 16 ex, aJ G zsl 16 lf, aJ G zsr 16 rg, ob zt 2 [.ref ztm, .ref ztr, .ref ztl, .ref ztf, .ref ztd, .long x.2.1, .long x.2.2.1], aZ G ztm 8 md, aJ G ztr 8 re, aJ G ztl 8 fl, aJ G ztf 8 fr, ob ztd 4 [.ref ztdq, .long x.1], aJ G ztdq 16 (rkF x.1), ob zc 3 [.ref zcl, .ref zcr], ob zcl 4 [.ref zclq, .long x.2.2.2.1], aJ G zclq 16 (rkF x.2.2.2.1), ob zcr 4 [.ref zcrq, .long x.2.2.2.2], aJ G zcrq 16 (rkF x.2.2.2.2), aJ G zpb 5 (g_P_pin_zpb hm fi us lf rg md re fl fr tk bf k g a d z), aJ G zpm 8 mg]) 0 0 := by
  refine Ct.of (Qp := fun A => va_Qi _ (qB G A _) A) Sx_stb (by decide) (Nat.le_of_ble_eq_true rfl) ?_
  intro p e s m args below meth c A X hE hr hlk hini
  refine pv_eql (ll2 := [(0, .ref zp), (1, .int k), (2, .int g), (3, .long a), (5, .long d), (7, .long z)]) rfl ?_
  refine pv_aload_n X 0 d_P_pin_0 rfl ?_
  refine pv_get X 0 2 u_P_in m_117 rfl rfl (by decide) ⟨rfl, rfl, rfl⟩ rfl d_P_pin_1 ?_
  refine pv_if_ne X 9 d_P_pin_4 rfl (fun h1 => ?_) (fun h1n => ?_)
  · skip
    refine pv_iload_n X 2 d_P_pin_9 rfl ?_
    refine pv_iconst X 4 d_P_pin_10 (by decide) ?_
    refine pv_ishr X d_P_pin_11 ?_
    refine pv_istore (ll2 := [(9, .int (g >>> (4 &&& 31))), (0, .ref zp), (1, .int k), (2, .int g), (3, .long a), (5, .long d), (7, .long z)]) X d_P_pin_12 (by decide) rfl ?_
    refine pv_iload_n X 3 d_P_pin_14 rfl ?_
    refine pv_bipush X 15 d_P_pin_15 (by decide) ?_
    refine pv_iand X d_P_pin_17 ?_
    refine pv_istore (ll2 := [(10, .int (g &&& 15)), (9, .int (g >>> (4 &&& 31))), (0, .ref zp), (1, .int k), (2, .int g), (3, .long a), (5, .long d), (7, .long z)]) X d_P_pin_18 (by decide) rfl ?_
    refine pv_iload_n X 3 d_P_pin_20 rfl ?_
    refine pv_calli0 X (rn_S X (c_P_isKeyNumber l G k) trivial mf_P_isKeyNumber m_340 m_341 rfl (by decide) (by decide) rfl (Nat.le_of_ble_eq_true rfl) d_P_pin_21) ?_
    refine pv_if_eq X 77 d_P_pin_24 rfl (fun h3 => ?_) (fun h3n => ?_)
    · skip
      refine pv_bipush X (-2) d_P_pin_77 (by decide) ?_
      exact pv_iret X hr hlk (tk, cu, cv, kl, kr) (by show _ = f_P_pin hm fi us md k g a d z; simp only [f_P_pin, if_neg h1, if_pos h3]) (by simp only [g_P_pin_zpb, if_neg h1, if_pos h3]) d_P_pin_79
    · skip
      refine pv_iload X 1 d_P_pin_27 rfl ?_
      refine pv_calli0 X (rn_S X (c_B_isFormat l G (g >>> (4 &&& 31))) trivial mf_B_isFormat m_365 m_366 rfl (by decide) (by decide) rfl (Nat.le_of_ble_eq_true rfl) d_P_pin_29) ?_
      refine pv_if_eq X 77 d_P_pin_32 rfl (fun h5 => ?_) (fun h5n => ?_)
      · skip
        refine pv_bipush X (-2) d_P_pin_77 (by decide) ?_
        exact pv_iret X hr hlk (tk, cu, cv, kl, kr) (by show _ = f_P_pin hm fi us md k g a d z; simp only [f_P_pin, if_neg h1, if_neg h3n, if_pos h5]) (by simp only [g_P_pin_zpb, if_neg h1, if_neg h3n, if_pos h5]) d_P_pin_79
      · skip
        refine pv_iload X 0 d_P_pin_35 rfl ?_
        refine pv_calli0 X (rn_S X (c_B_isLength l G (g &&& 15)) trivial mf_B_isLength m_368 m_369 rfl (by decide) (by decide) rfl (Nat.le_of_ble_eq_true rfl) d_P_pin_37) ?_
        refine pv_if_eq X 77 d_P_pin_40 rfl (fun h7 => ?_) (fun h7n => ?_)
        · skip
          refine pv_bipush X (-2) d_P_pin_77 (by decide) ?_
          exact pv_iret X hr hlk (tk, cu, cv, kl, kr) (by show _ = f_P_pin hm fi us md k g a d z; simp only [f_P_pin, if_neg h1, if_neg h3n, if_neg h5n, if_pos h7]) (by simp only [g_P_pin_zpb, if_neg h1, if_neg h3n, if_neg h5n, if_pos h7]) d_P_pin_79
        · skip
          refine pv_lload_n X 5 d_P_pin_43 rfl ?_
          refine pv_bipush X 16 d_P_pin_44 (by decide) ?_
          refine pv_calli0 X (rn_S X (c_P_areDigits l G a 16) trivial mf_P_areDigits m_371 m_372 rfl (by decide) (by decide) rfl (Nat.le_of_ble_eq_true rfl) d_P_pin_46) ?_
          refine pv_if_eq X 77 d_P_pin_49 rfl (fun h9 => ?_) (fun h9n => ?_)
          · skip
            refine pv_bipush X (-2) d_P_pin_77 (by decide) ?_
            exact pv_iret X hr hlk (tk, cu, cv, kl, kr) (by show _ = f_P_pin hm fi us md k g a d z; simp only [f_P_pin, if_neg h1, if_neg h3n, if_neg h5n, if_neg h7n, if_pos h9]) (by simp only [g_P_pin_zpb, if_neg h1, if_neg h3n, if_neg h5n, if_neg h7n, if_pos h9]) d_P_pin_79
          · skip
            refine pv_lload X 6 d_P_pin_52 rfl ?_
            refine pv_iload X 0 d_P_pin_54 rfl ?_
            refine pv_calli0 X (rn_S X (c_P_areDigits l G d (g &&& 15)) trivial mf_P_areDigits m_371 m_372 rfl (by decide) (by decide) rfl (Nat.le_of_ble_eq_true rfl) d_P_pin_56) ?_
            refine pv_if_eq X 77 d_P_pin_59 rfl (fun h11 => ?_) (fun h11n => ?_)
            · skip
              refine pv_bipush X (-2) d_P_pin_77 (by decide) ?_
              exact pv_iret X hr hlk (tk, cu, cv, kl, kr) (by show _ = f_P_pin hm fi us md k g a d z; simp only [f_P_pin, if_neg h1, if_neg h3n, if_neg h5n, if_neg h7n, if_neg h9n, if_pos h11]) (by simp only [g_P_pin_zpb, if_neg h1, if_neg h3n, if_neg h5n, if_neg h7n, if_neg h9n, if_pos h11]) d_P_pin_79
            · skip
              refine pv_iload X 1 d_P_pin_62 rfl ?_
              refine pv_lload X 7 d_P_pin_64 rfl ?_
              refine pv_iload X 0 d_P_pin_66 rfl ?_
              refine pv_calli0 X (rn_S X (c_B_fillCount l G (g &&& 15)) trivial mf_B_fillCount m_376 m_377 rfl (by decide) (by decide) rfl (Nat.le_of_ble_eq_true rfl) d_P_pin_68) ?_
              refine pv_calli0 X (rn_S X (c_B_mayFill l G (g >>> (4 &&& 31)) z (f_B_fillCount (g &&& 15))) trivial mf_B_mayFill m_379 m_380 rfl (by decide) (by decide) rfl (Nat.le_of_ble_eq_true rfl) d_P_pin_71) ?_
              refine pv_if_ne X 80 d_P_pin_74 rfl (fun h14 => ?_) (fun h14n => ?_)
              · skip
                refine pv_aload_n X 2 d_P_pin_80 rfl ?_
                refine pv_iload_n X 3 d_P_pin_81 rfl ?_
                refine pv_calliE X (Cut.all _) (rn_V X (c_P_hasKey l G zp zph zpt zs zsf zsu zse zsl zsr zt ztm ztr ztl ztf ztd ztdq zc zcl zclq zcr zcrq zpb zpm hv ht hm ml mr fi us ex lf rg md re fl fr tk cu cv kl kr bf mg k h3n hfi hmd) hE mf_P_hasKey m_343 m_345 ms_4 rfl 0 rfl rfl rfl (by decide) (by decide) rfl (Nat.le_of_ble_eq_true rfl) d_P_pin_82) (fun x15 => ?_)
                refine pv_eqw (ws2 := [ob zp 0 [.ref zph, .ref zpt, .int hm, .long ml, .long mr, .ref zs, .ref zt, .ref zc, .ref zpb, .ref zpm], aJ G zph 6 hv, aZ G zpt 6 ht, ob zs 1 [.ref zsf, .ref zsu, .ref zse, .ref zsl, .ref zsr], aZ G zsf 16 fi, aI G zsu 16 us, aZ G zse 16 ex, aJ G zsl 16 lf, aJ G zsr 16 rg, ob zt 2 [.ref ztm, .ref ztr, .ref ztl, .ref ztf, .ref ztd, .long cu, .long cv], aZ G ztm 8 md, aJ G ztr 8 re, aJ G ztl 8 fl, aJ G ztf 8 fr, ob ztd 4 [.ref ztdq, .long tk], aJ G ztdq 16 (rkF tk), ob zc 3 [.ref zcl, .ref zcr], ob zcl 4 [.ref zclq, .long kl], aJ G zclq 16 (rkF kl), ob zcr 4 [.ref zcrq, .long kr], aJ G zcrq 16 (rkF kr), aJ G zpb 5 bf, aJ G zpm 8 mg]) rfl ?_
                refine pv_if_ne X 91 d_P_pin_85 rfl (fun h16 => ?_) (fun h16n => ?_)
                · skip
                  refine pv_aload_n X 2 d_P_pin_91 rfl ?_
                  refine pv_iload_n X 3 d_P_pin_92 rfl ?_
                  refine pv_calliE X (Cut.all _) (rn_V X (c_P_isPinKey l G zp zph zpt zs zsf zsu zse zsl zsr zt ztm ztr ztl ztf ztd ztdq zc zcl zclq zcr zcrq zpb zpm hv ht hm ml mr fi us ex lf rg md re fl fr tk cu cv kl kr bf mg k h3n) hE mf_P_isPinKey m_386 m_388 ms_7 rfl 0 rfl rfl rfl (by decide) (by decide) rfl (Nat.le_of_ble_eq_true rfl) d_P_pin_93) (fun x17 => ?_)
                  refine pv_eqw (ws2 := [ob zp 0 [.ref zph, .ref zpt, .int hm, .long ml, .long mr, .ref zs, .ref zt, .ref zc, .ref zpb, .ref zpm], aJ G zph 6 hv, aZ G zpt 6 ht, ob zs 1 [.ref zsf, .ref zsu, .ref zse, .ref zsl, .ref zsr], aZ G zsf 16 fi, aI G zsu 16 us, aZ G zse 16 ex, aJ G zsl 16 lf, aJ G zsr 16 rg, ob zt 2 [.ref ztm, .ref ztr, .ref ztl, .ref ztf, .ref ztd, .long cu, .long cv], aZ G ztm 8 md, aJ G ztr 8 re, aJ G ztl 8 fl, aJ G ztf 8 fr, ob ztd 4 [.ref ztdq, .long tk], aJ G ztdq 16 (rkF tk), ob zc 3 [.ref zcl, .ref zcr], ob zcl 4 [.ref zclq, .long kl], aJ G zclq 16 (rkF kl), ob zcr 4 [.ref zcrq, .long kr], aJ G zcrq 16 (rkF kr), aJ G zpb 5 bf, aJ G zpm 8 mg]) rfl ?_
                  refine pv_if_ne X 102 d_P_pin_96 rfl (fun h18 => ?_) (fun h18n => ?_)
                  · skip
                    refine pv_aload_n X 2 d_P_pin_102 rfl ?_
                    refine pv_iload_n X 3 d_P_pin_103 rfl ?_
                    refine pv_ldc2_w X m_156 d_P_pin_104 ?_
                    refine pv_callv X (Cut.all _) (rn_V X (c_P_takeKey l G zp zph zpt zs zsf zsu zse zsl zsr zt ztm ztr ztl ztf ztd ztdq zc zcl zclq zcr zcrq zpb zpm hv ht hm ml mr fi us ex lf rg md re fl fr tk cu cv kl kr bf mg k (255 : Int64) h3n) hE mf_P_takeKey m_347 m_349 ms_5 rfl 0 rfl rfl rfl (by decide) (by decide) rfl (Nat.le_of_ble_eq_true rfl) d_P_pin_107) (fun x19 e19 => ?_)
                    refine pv_eqw (ws2 := [ob zp 0 [.ref zph, .ref zpt, .int hm, .long ml, .long mr, .ref zs, .ref zt, .ref zc, .ref zpb, .ref zpm], aJ G zph 6 hv, aZ G zpt 6 ht, ob zs 1 [.ref zsf, .ref zsu, .ref zse, .ref zsl, .ref zsr], aZ G zsf 16 fi, aI G zsu 16 us, aZ G zse 16 ex, aJ G zsl 16 lf, aJ G zsr 16 rg, ob zt 2 [.ref ztm, .ref ztr, .ref ztl, .ref ztf, .ref ztd, .long (g_P_takeKey_zt_5 re fl fr tk cu k), .long (g_P_takeKey_zt_6 re fl fr tk cv k)], aZ G ztm 8 md, aJ G ztr 8 re, aJ G ztl 8 fl, aJ G ztf 8 fr, ob ztd 4 [.ref ztdq, .long (g_P_takeKey_ztd_1 re fl fr tk k)], aJ G ztdq 16 (rkF (g_P_takeKey_ztd_1 re fl fr tk k)), ob zc 3 [.ref zcl, .ref zcr], ob zcl 4 [.ref zclq, .long (g_P_takeKey_zcl_1 lf re fl fr tk k (255 : Int64))], aJ G zclq 16 (rkF (g_P_takeKey_zcl_1 lf re fl fr tk k (255 : Int64))), ob zcr 4 [.ref zcrq, .long (g_P_takeKey_zcr_1 rg re fl fr tk k (255 : Int64))], aJ G zcrq 16 (rkF (g_P_takeKey_zcr_1 rg re fl fr tk k (255 : Int64))), aJ G zpb 5 bf, aJ G zpm 8 mg]) rfl ?_
                    refine pv_aload_n X 2 d_P_pin_110 rfl ?_
                    refine pv_get X 0 8 u_P_in m_123 rfl rfl (by decide) ⟨rfl, rfl, rfl⟩ rfl d_P_pin_111 ?_
                    refine pv_iconst X 0 d_P_pin_114 (by decide) ?_
                    refine pv_aload_n X 2 d_P_pin_115 rfl ?_
                    refine pv_get X 0 7 u_P_in m_122 rfl rfl (by decide) ⟨rfl, rfl, rfl⟩ rfl d_P_pin_116 ?_
                    refine pv_iload X 1 d_P_pin_119 rfl ?_
                    refine pv_lload_n X 5 d_P_pin_121 rfl ?_
                    refine pv_iload X 0 d_P_pin_122 rfl ?_
                    refine pv_lload X 6 d_P_pin_124 rfl ?_
                    refine pv_lload X 7 d_P_pin_126 rfl ?_
                    refine pv_calll0 X (rn_S X (c_B_made l G (g >>> (4 &&& 31)) a (g &&& 15) d z) trivial mf_B_made m_390 m_391 rfl (by decide) (by decide) rfl (Nat.le_of_ble_eq_true rfl) d_P_pin_128) ?_
                    refine pv_calllE X (Cut.mk (w0 := [ob zc 3 [.ref zcl, .ref zcr], ob zcl 4 [.ref zclq, .long (g_P_takeKey_zcl_1 lf re fl fr tk k (255 : Int64))], aJ G zclq 16 (rkF (g_P_takeKey_zcl_1 lf re fl fr tk k (255 : Int64))), ob zcr 4 [.ref zcrq, .long (g_P_takeKey_zcr_1 rg re fl fr tk k (255 : Int64))], aJ G zcrq 16 (rkF (g_P_takeKey_zcr_1 rg re fl fr tk k (255 : Int64)))]) (wr := [ob zp 0 [.ref zph, .ref zpt, .int hm, .long ml, .long mr, .ref zs, .ref zt, .ref zc, .ref zpb, .ref zpm], aJ G zph 6 hv, aZ G zpt 6 ht, ob zs 1 [.ref zsf, .ref zsu, .ref zse, .ref zsl, .ref zsr], aZ G zsf 16 fi, aI G zsu 16 us, aZ G zse 16 ex, aJ G zsl 16 lf, aJ G zsr 16 rg, ob zt 2 [.ref ztm, .ref ztr, .ref ztl, .ref ztf, .ref ztd, .long (g_P_takeKey_zt_5 re fl fr tk cu k), .long (g_P_takeKey_zt_6 re fl fr tk cv k)], aZ G ztm 8 md, aJ G ztr 8 re, aJ G ztl 8 fl, aJ G ztf 8 fr, ob ztd 4 [.ref ztdq, .long (g_P_takeKey_ztd_1 re fl fr tk k)], aJ G ztdq 16 (rkF (g_P_takeKey_ztd_1 re fl fr tk k)), aJ G zpb 5 bf, aJ G zpm 8 mg]) [16, 17, 18, 19, 20] [0, 1, 2, 3, 4, 5, 6, 7, 8, 9, 10, 11, 12, 13, 14, 15, 21, 22] rfl rfl rfl rfl rfl) (rn_V X (c_C_sealBlock l G zc zcl zclq zcr zcrq (g_P_takeKey_zcl_1 lf re fl fr tk k (255 : Int64)) (g_P_takeKey_zcr_1 rg re fl fr tk k (255 : Int64)) (f_B_made (g >>> (4 &&& 31)) a (g &&& 15) d z)) hE mf_C_sealBlock m_255 m_193 m_194 rfl 0 rfl rfl rfl (by decide) (by decide) rfl (Nat.le_of_ble_eq_true rfl) d_P_pin_131) (fun x21 => ?_)
                    refine pv_ord (ws2 := [ob zp 0 [.ref zph, .ref zpt, .int hm, .long ml, .long mr, .ref zs, .ref zt, .ref zc, .ref zpb, .ref zpm], aJ G zph 6 hv, aZ G zpt 6 ht, ob zs 1 [.ref zsf, .ref zsu, .ref zse, .ref zsl, .ref zsr], aZ G zsf 16 fi, aI G zsu 16 us, aZ G zse 16 ex, aJ G zsl 16 lf, aJ G zsr 16 rg, ob zt 2 [.ref ztm, .ref ztr, .ref ztl, .ref ztf, .ref ztd, .long (g_P_takeKey_zt_5 re fl fr tk cu k), .long (g_P_takeKey_zt_6 re fl fr tk cv k)], aZ G ztm 8 md, aJ G ztr 8 re, aJ G ztl 8 fl, aJ G ztf 8 fr, ob ztd 4 [.ref ztdq, .long (g_P_takeKey_ztd_1 re fl fr tk k)], aJ G ztdq 16 (rkF (g_P_takeKey_ztd_1 re fl fr tk k)), ob zc 3 [.ref zcl, .ref zcr], ob zcl 4 [.ref zclq, .long (g_P_takeKey_zcl_1 lf re fl fr tk k (255 : Int64))], aJ G zclq 16 (rkF (g_P_takeKey_zcl_1 lf re fl fr tk k (255 : Int64))), ob zcr 4 [.ref zcrq, .long (g_P_takeKey_zcr_1 rg re fl fr tk k (255 : Int64))], aJ G zcrq 16 (rkF (g_P_takeKey_zcr_1 rg re fl fr tk k (255 : Int64))), aJ G zpb 5 bf, aJ G zpm 8 mg]) [0, 1, 2, 3, 4, 5, 6, 7, 8, 9, 10, 11, 12, 13, 14, 15, 18, 19, 20, 21, 22, 16, 17] rfl rfl ?_
                    refine pv_last (ws2 := [ob zp 0 [.ref zph, .ref zpt, .int hm, .long ml, .long mr, .ref zs, .ref zt, .ref zc, .ref zpb, .ref zpm], aJ G zph 6 hv, aZ G zpt 6 ht, ob zs 1 [.ref zsf, .ref zsu, .ref zse, .ref zsl, .ref zsr], aZ G zsf 16 fi, aI G zsu 16 us, aZ G zse 16 ex, aJ G zsl 16 lf, aJ G zsr 16 rg, ob zt 2 [.ref ztm, .ref ztr, .ref ztl, .ref ztf, .ref ztd, .long (g_P_takeKey_zt_5 re fl fr tk cu k), .long (g_P_takeKey_zt_6 re fl fr tk cv k)], aZ G ztm 8 md, aJ G ztr 8 re, aJ G ztl 8 fl, aJ G ztf 8 fr, ob ztd 4 [.ref ztdq, .long (g_P_takeKey_ztd_1 re fl fr tk k)], aJ G ztdq 16 (rkF (g_P_takeKey_ztd_1 re fl fr tk k)), ob zc 3 [.ref zcl, .ref zcr], ob zcl 4 [.ref zclq, .long (g_P_takeKey_zcl_1 lf re fl fr tk k (255 : Int64))], aJ G zclq 16 (rkF (g_P_takeKey_zcl_1 lf re fl fr tk k (255 : Int64))), ob zcr 4 [.ref zcrq, .long (g_P_takeKey_zcr_1 rg re fl fr tk k (255 : Int64))], aJ G zcrq 16 (rkF (g_P_takeKey_zcr_1 rg re fl fr tk k (255 : Int64))), aJ G zpb 5 (vp_updL bf 0 (sealB (g_P_takeKey_zcl_1 lf re fl fr tk k (255 : Int64)) (g_P_takeKey_zcr_1 rg re fl fr tk k (255 : Int64)) (f_B_made (g >>> (4 &&& 31)) a (g &&& 15) d z))), aJ G zpm 8 mg]) X 21 rfl (by unfold vp_in; decide) rfl d_P_pin_134 ?_
                    refine pv_iconst X 0 d_P_pin_135 (by decide) ?_
                    exact pv_iret X hr hlk (g_P_takeKey_ztd_1 re fl fr tk k, g_P_takeKey_zt_5 re fl fr tk cu k, g_P_takeKey_zt_6 re fl fr tk cv k, g_P_takeKey_zcl_1 lf re fl fr tk k (255 : Int64), g_P_takeKey_zcr_1 rg re fl fr tk k (255 : Int64)) (by show _ = f_P_pin hm fi us md k g a d z; simp only [f_P_pin, if_neg h1, if_neg h3n, if_neg h5n, if_neg h7n, if_neg h9n, if_neg h11n, if_neg h14, if_neg h16, if_neg h18]) (by simp only [g_P_pin_zpb, if_neg h1, if_neg h3n, if_neg h5n, if_neg h7n, if_neg h9n, if_neg h11n, if_neg h14, if_neg h16, if_neg h18]) d_P_pin_136
                  · skip
                    refine pv_bipush X (-4) d_P_pin_99 (by decide) ?_
                    exact pv_iret X hr hlk (tk, cu, cv, kl, kr) (by show _ = f_P_pin hm fi us md k g a d z; simp only [f_P_pin, if_neg h1, if_neg h3n, if_neg h5n, if_neg h7n, if_neg h9n, if_neg h11n, if_neg h14, if_neg h16, if_pos h18n]) (by simp only [g_P_pin_zpb, if_neg h1, if_neg h3n, if_neg h5n, if_neg h7n, if_neg h9n, if_neg h11n, if_neg h14, if_neg h16, if_pos h18n]) d_P_pin_101
                · skip
                  refine pv_bipush X (-3) d_P_pin_88 (by decide) ?_
                  exact pv_iret X hr hlk (tk, cu, cv, kl, kr) (by show _ = f_P_pin hm fi us md k g a d z; simp only [f_P_pin, if_neg h1, if_neg h3n, if_neg h5n, if_neg h7n, if_neg h9n, if_neg h11n, if_neg h14, if_pos h16n]) (by simp only [g_P_pin_zpb, if_neg h1, if_neg h3n, if_neg h5n, if_neg h7n, if_neg h9n, if_neg h11n, if_neg h14, if_pos h16n]) d_P_pin_90
              · skip
                refine pv_bipush X (-2) d_P_pin_77 (by decide) ?_
                exact pv_iret X hr hlk (tk, cu, cv, kl, kr) (by show _ = f_P_pin hm fi us md k g a d z; simp only [f_P_pin, if_neg h1, if_neg h3n, if_neg h5n, if_neg h7n, if_neg h9n, if_neg h11n, if_pos h14n]) (by simp only [g_P_pin_zpb, if_neg h1, if_neg h3n, if_neg h5n, if_neg h7n, if_neg h9n, if_neg h11n, if_pos h14n]) d_P_pin_79
  · skip
    refine pv_iconst X (-1) d_P_pin_7 (by decide) ?_
    exact pv_iret X hr hlk (tk, cu, cv, kl, kr) (by show _ = f_P_pin hm fi us md k g a d z; simp only [f_P_pin, if_pos h1n]) (by simp only [g_P_pin_zpb, if_pos h1n]) d_P_pin_8
def f_P_translate (hm : Int32) (fi : Nat → Int32) (us : Nat → Int32) (lf : Nat → Int64) (rg : Nat → Int64) (md : Nat → Int32) (re : Nat → Int64) (fl : Nat → Int64) (fr : Nat → Int64) (tk : Int64) (bf : Nat → Int64) (k : Int32) (k2 : Int32) (g : Int32) (a : Int64) (z : Int64) : Int32 := if hm = 0 then (-1) else (if (f_P_isKeyNumber k) = 0 then (-2) else (if (f_P_isKeyNumber k2) = 0 then (-2) else (if (f_B_isFormat (g >>> (4 &&& 31))) = 0 then (-2) else (if (f_B_isFormat (g &&& 15)) = 0 then (-2) else (if (f_P_areDigits a 16) = 0 then (-2) else (if (f_B_mayFill (g &&& 15) z (f_B_fillCount 4)) = 0 then (-2) else (if (f_P_hasKey fi md k) = 0 then (-3) else (if (f_P_hasKey fi md k2) = 0 then (-3) else (if (f_P_isPinKey us k) = 0 then (-4) else (if (f_P_isPinKey us k2) = 0 then (-4) else (if (f_B_isOf (g >>> (4 &&& 31)) (f_P_openedPinBlock (g_P_takeKey_zcl_1 lf re fl fr tk k (255 : Int64)) (g_P_takeKey_zcr_1 rg re fl fr tk k (255 : Int64)) bf (g >>> (4 &&& 31)) a)) = 0 then (-6) else (f_B_lengthOf (f_P_openedPinBlock (g_P_takeKey_zcl_1 lf re fl fr tk k (255 : Int64)) (g_P_takeKey_zcr_1 rg re fl fr tk k (255 : Int64)) bf (g >>> (4 &&& 31)) a)))))))))))))
def g_P_translate_zpb (hm : Int32) (fi : Nat → Int32) (us : Nat → Int32) (lf : Nat → Int64) (rg : Nat → Int64) (md : Nat → Int32) (re : Nat → Int64) (fl : Nat → Int64) (fr : Nat → Int64) (tk : Int64) (bf : Nat → Int64) (k : Int32) (k2 : Int32) (g : Int32) (a : Int64) (z : Int64) : Nat → Int64 := if hm = 0 then bf else (if (f_P_isKeyNumber k) = 0 then bf else (if (f_P_isKeyNumber k2) = 0 then bf else (if (f_B_isFormat (g >>> (4 &&& 31))) = 0 then bf else (if (f_B_isFormat (g &&& 15)) = 0 then bf else (if (f_P_areDigits a 16) = 0 then bf else (if (f_B_mayFill (g &&& 15) z (f_B_fillCount 4)) = 0 then bf else (if (f_P_hasKey fi md k) = 0 then bf else (if (f_P_hasKey fi md k2) = 0 then bf else (if (f_P_isPinKey us k) = 0 then bf else (if (f_P_isPinKey us k2) = 0 then bf else (if (f_B_isOf (g >>> (4 &&& 31)) (f_P_openedPinBlock (g_P_takeKey_zcl_1 lf re fl fr tk k (255 : Int64)) (g_P_takeKey_zcr_1 rg re fl fr tk k (255 : Int64)) bf (g >>> (4 &&& 31)) a)) = 0 then bf else (vp_updL bf 0 (sealB (g_P_takeKey_zcl_1 lf re fl fr (g_P_takeKey_ztd_1 re fl fr tk k) k2 (255 : Int64)) (g_P_takeKey_zcr_1 rg re fl fr (g_P_takeKey_ztd_1 re fl fr tk k) k2 (255 : Int64)) (f_B_made (g &&& 15) a (f_B_lengthOf (f_P_openedPinBlock (g_P_takeKey_zcl_1 lf re fl fr tk k (255 : Int64)) (g_P_takeKey_zcr_1 rg re fl fr tk k (255 : Int64)) bf (g >>> (4 &&& 31)) a)) (f_B_digitsOf (f_P_openedPinBlock (g_P_takeKey_zcl_1 lf re fl fr tk k (255 : Int64)) (g_P_takeKey_zcr_1 rg re fl fr tk k (255 : Int64)) bf (g >>> (4 &&& 31)) a) (f_B_lengthOf (f_P_openedPinBlock (g_P_takeKey_zcl_1 lf re fl fr tk k (255 : Int64)) (g_P_takeKey_zcr_1 rg re fl fr tk k (255 : Int64)) bf (g >>> (4 &&& 31)) a))) z))))))))))))))
abbrev rm_P_translate : Room := { frames := 6, cells := 0, slots := 0, locals := 155 }
theorem mf_P_translate : MF y_P_translate b_P_translate 13 (some .int) 5 := ⟨m_402, m_1, by decide, by decide, by decide +kernel⟩
theorem d_P_translate_0 : decode b_P_translate 0 = .ok (.aload_n 0, 1) := by decide +kernel
theorem d_P_translate_1 : decode b_P_translate 1 = .ok (.getfield 51, 3) := by decide +kernel
theorem d_P_translate_4 : decode b_P_translate 4 = .ok (.ifCond .ne 5, 3) := by decide +kernel
theorem d_P_translate_7 : decode b_P_translate 7 = .ok (.iconst (-1), 1) := by decide +kernel
theorem d_P_translate_8 : decode b_P_translate 8 = .ok (.ireturn, 1) := by decide +kernel
theorem d_P_translate_9 : decode b_P_translate 9 = .ok (.iload_n 3, 1) := by decide +kernel
theorem d_P_translate_10 : decode b_P_translate 10 = .ok (.iconst 4, 1) := by decide +kernel
theorem d_P_translate_11 : decode b_P_translate 11 = .ok (.ishr, 1) := by decide +kernel
theorem d_P_translate_12 : decode b_P_translate 12 = .ok (.istore 8, 2) := by decide +kernel
theorem d_P_translate_14 : decode b_P_translate 14 = .ok (.iload_n 3, 1) := by decide +kernel
theorem d_P_translate_15 : decode b_P_translate 15 = .ok (.bipush 15, 2) := by decide +kernel
theorem d_P_translate_17 : decode b_P_translate 17 = .ok (.iand, 1) := by decide +kernel
theorem d_P_translate_18 : decode b_P_translate 18 = .ok (.istore 9, 2) := by decide +kernel
theorem d_P_translate_20 : decode b_P_translate 20 = .ok (.iload_n 1, 1) := by decide +kernel
theorem d_P_translate_21 : decode b_P_translate 21 = .ok (.invokestatic 181, 3) := by decide +kernel
theorem d_P_translate_24 : decode b_P_translate 24 = .ok (.ifCond .eq 50, 3) := by decide +kernel
theorem d_P_translate_27 : decode b_P_translate 27 = .ok (.iload_n 2, 1) := by decide +kernel
theorem d_P_translate_28 : decode b_P_translate 28 = .ok (.invokestatic 181, 3) := by decide +kernel
theorem d_P_translate_31 : decode b_P_translate 31 = .ok (.ifCond .eq 43, 3) := by decide +kernel
theorem d_P_translate_34 : decode b_P_translate 34 = .ok (.iload 8, 2) := by decide +kernel
theorem d_P_translate_36 : decode b_P_translate 36 = .ok (.invokestatic 191, 3) := by decide +kernel
theorem d_P_translate_39 : decode b_P_translate 39 = .ok (.ifCond .eq 35, 3) := by decide +kernel
theorem d_P_translate_42 : decode b_P_translate 42 = .ok (.iload 9, 2) := by decide +kernel
theorem d_P_translate_44 : decode b_P_translate 44 = .ok (.invokestatic 191, 3) := by decide +kernel
theorem d_P_translate_47 : decode b_P_translate 47 = .ok (.ifCond .eq 27, 3) := by decide +kernel
theorem d_P_translate_50 : decode b_P_translate 50 = .ok (.lload 4, 2) := by decide +kernel
theorem d_P_translate_52 : decode b_P_translate 52 = .ok (.bipush 16, 2) := by decide +kernel
theorem d_P_translate_54 : decode b_P_translate 54 = .ok (.invokestatic 199, 3) := by decide +kernel
theorem d_P_translate_57 : decode b_P_translate 57 = .ok (.ifCond .eq 17, 3) := by decide +kernel
theorem d_P_translate_60 : decode b_P_translate 60 = .ok (.iload 9, 2) := by decide +kernel
theorem d_P_translate_62 : decode b_P_translate 62 = .ok (.lload 6, 2) := by decide +kernel
theorem d_P_translate_64 : decode b_P_translate 64 = .ok (.iconst 4, 1) := by decide +kernel
theorem d_P_translate_65 : decode b_P_translate 65 = .ok (.invokestatic 203, 3) := by decide +kernel
theorem d_P_translate_68 : decode b_P_translate 68 = .ok (.invokestatic 206, 3) := by decide +kernel
theorem d_P_translate_71 : decode b_P_translate 71 = .ok (.ifCond .ne 6, 3) := by decide +kernel
theorem d_P_translate_74 : decode b_P_translate 74 = .ok (.bipush (-2), 2) := by decide +kernel
theorem d_P_translate_76 : decode b_P_translate 76 = .ok (.ireturn, 1) := by decide +kernel
theorem d_P_translate_77 : decode b_P_translate 77 = .ok (.aload_n 0, 1) := by decide +kernel
theorem d_P_translate_78 : decode b_P_translate 78 = .ok (.iload_n 1, 1) := by decide +kernel
theorem d_P_translate_79 : decode b_P_translate 79 = .ok (.invokevirtual 184, 3) := by decide +kernel
theorem d_P_translate_82 : decode b_P_translate 82 = .ok (.ifCond .eq 11, 3) := by decide +kernel
theorem d_P_translate_85 : decode b_P_translate 85 = .ok (.aload_n 0, 1) := by decide +kernel
theorem d_P_translate_86 : decode b_P_translate 86 = .ok (.iload_n 2, 1) := by decide +kernel
theorem d_P_translate_87 : decode b_P_translate 87 = .ok (.invokevirtual 184, 3) := by decide +kernel
theorem d_P_translate_90 : decode b_P_translate 90 = .ok (.ifCond .ne 6, 3) := by decide +kernel
theorem d_P_translate_93 : decode b_P_translate 93 = .ok (.bipush (-3), 2) := by decide +kernel
theorem d_P_translate_95 : decode b_P_translate 95 = .ok (.ireturn, 1) := by decide +kernel
theorem d_P_translate_96 : decode b_P_translate 96 = .ok (.aload_n 0, 1) := by decide +kernel
theorem d_P_translate_97 : decode b_P_translate 97 = .ok (.iload_n 1, 1) := by decide +kernel
theorem d_P_translate_98 : decode b_P_translate 98 = .ok (.invokevirtual 210, 3) := by decide +kernel
theorem d_P_translate_101 : decode b_P_translate 101 = .ok (.ifCond .eq 11, 3) := by decide +kernel
theorem d_P_translate_104 : decode b_P_translate 104 = .ok (.aload_n 0, 1) := by decide +kernel
theorem d_P_translate_105 : decode b_P_translate 105 = .ok (.iload_n 2, 1) := by decide +kernel
theorem d_P_translate_106 : decode b_P_translate 106 = .ok (.invokevirtual 210, 3) := by decide +kernel
theorem d_P_translate_109 : decode b_P_translate 109 = .ok (.ifCond .ne 6, 3) := by decide +kernel
theorem d_P_translate_112 : decode b_P_translate 112 = .ok (.bipush (-4), 2) := by decide +kernel
theorem d_P_translate_114 : decode b_P_translate 114 = .ok (.ireturn, 1) := by decide +kernel
theorem d_P_translate_115 : decode b_P_translate 115 = .ok (.aload_n 0, 1) := by decide +kernel
theorem d_P_translate_116 : decode b_P_translate 116 = .ok (.iload_n 1, 1) := by decide +kernel
theorem d_P_translate_117 : decode b_P_translate 117 = .ok (.ldc2_w 213, 3) := by decide +kernel
theorem d_P_translate_120 : decode b_P_translate 120 = .ok (.invokevirtual 187, 3) := by decide +kernel
theorem d_P_translate_123 : decode b_P_translate 123 = .ok (.aload_n 0, 1) := by decide +kernel
theorem d_P_translate_124 : decode b_P_translate 124 = .ok (.iload 8, 2) := by decide +kernel
theorem d_P_translate_126 : decode b_P_translate 126 = .ok (.lload 4, 2) := by decide +kernel
theorem d_P_translate_128 : decode b_P_translate 128 = .ok (.invokevirtual 218, 3) := by decide +kernel
theorem d_P_translate_131 : decode b_P_translate 131 = .ok (.lstore 10, 2) := by decide +kernel
theorem d_P_translate_133 : decode b_P_translate 133 = .ok (.iload 8, 2) := by decide +kernel
theorem d_P_translate_135 : decode b_P_translate 135 = .ok (.lload 10, 2) := by decide +kernel
theorem d_P_translate_137 : decode b_P_translate 137 = .ok (.invokestatic 222, 3) := by decide +kernel
theorem d_P_translate_140 : decode b_P_translate 140 = .ok (.ifCond .ne 6, 3) := by decide +kernel
theorem d_P_translate_143 : decode b_P_translate 143 = .ok (.bipush (-6), 2) := by decide +kernel
theorem d_P_translate_145 : decode b_P_translate 145 = .ok (.ireturn, 1) := by decide +kernel
theorem d_P_translate_146 : decode b_P_translate 146 = .ok (.lload 10, 2) := by decide +kernel
theorem d_P_translate_148 : decode b_P_translate 148 = .ok (.invokestatic 226, 3) := by decide +kernel
theorem d_P_translate_151 : decode b_P_translate 151 = .ok (.istore 12, 2) := by decide +kernel
theorem d_P_translate_153 : decode b_P_translate 153 = .ok (.aload_n 0, 1) := by decide +kernel
theorem d_P_translate_154 : decode b_P_translate 154 = .ok (.iload_n 2, 1) := by decide +kernel
theorem d_P_translate_155 : decode b_P_translate 155 = .ok (.ldc2_w 213, 3) := by decide +kernel
theorem d_P_translate_158 : decode b_P_translate 158 = .ok (.invokevirtual 187, 3) := by decide +kernel
theorem d_P_translate_161 : decode b_P_translate 161 = .ok (.aload_n 0, 1) := by decide +kernel
theorem d_P_translate_162 : decode b_P_translate 162 = .ok (.getfield 38, 3) := by decide +kernel
theorem d_P_translate_165 : decode b_P_translate 165 = .ok (.iconst 0, 1) := by decide +kernel
theorem d_P_translate_166 : decode b_P_translate 166 = .ok (.aload_n 0, 1) := by decide +kernel
theorem d_P_translate_167 : decode b_P_translate 167 = .ok (.getfield 34, 3) := by decide +kernel
theorem d_P_translate_170 : decode b_P_translate 170 = .ok (.iload 9, 2) := by decide +kernel
theorem d_P_translate_172 : decode b_P_translate 172 = .ok (.lload 4, 2) := by decide +kernel
theorem d_P_translate_174 : decode b_P_translate 174 = .ok (.iload 12, 2) := by decide +kernel
theorem d_P_translate_176 : decode b_P_translate 176 = .ok (.lload 10, 2) := by decide +kernel
theorem d_P_translate_178 : decode b_P_translate 178 = .ok (.iload 12, 2) := by decide +kernel
theorem d_P_translate_180 : decode b_P_translate 180 = .ok (.invokestatic 229, 3) := by decide +kernel
theorem d_P_translate_183 : decode b_P_translate 183 = .ok (.lload 6, 2) := by decide +kernel
theorem d_P_translate_185 : decode b_P_translate 185 = .ok (.invokestatic 215, 3) := by decide +kernel
theorem d_P_translate_188 : decode b_P_translate 188 = .ok (.invokevirtual 137, 3) := by decide +kernel
theorem d_P_translate_191 : decode b_P_translate 191 = .ok (.lastore, 1) := by decide +kernel
theorem d_P_translate_192 : decode b_P_translate 192 = .ok (.iload 12, 2) := by decide +kernel
theorem d_P_translate_194 : decode b_P_translate 194 = .ok (.ireturn, 1) := by decide +kernel
set_option maxRecDepth 100000 in
set_option maxHeartbeats 4000000 in
theorem c_P_translate (l : Launch) (G : Gt) (zp zph zpt zs zsf zsu zse zsl zsr zt ztm ztr ztl ztf ztd ztdq zc zcl zclq zcr zcrq zpb zpm : Nat) (hv : Nat → Int64) (ht : Nat → Int32) (hm : Int32) (ml mr : Int64) (fi us ex : Nat → Int32) (lf rg : Nat → Int64) (md : Nat → Int32) (re fl fr : Nat → Int64) (tk cu cv kl kr : Int64) (bf mg : Nat → Int64) (k k2 g : Int32) (a z : Int64) (hfi : ∀ j, Bo (fi j)) (hmd : ∀ j, Bo (md j)) : CtI l G y_P_translate b_P_translate 13 (some .int) rm_P_translate Sx [.ref zp, .int k, .int k2, .int g, .long a, .long z] [ob zp 0 [.ref zph, .ref zpt, .int hm, .long ml, .long mr, .ref zs, .ref zt, .ref zc, .ref zpb, .ref zpm], aJ G zph 6 hv, aZ G zpt 6 ht, ob zs 1 [.ref zsf, .ref zsu, .ref zse, .ref zsl, .ref zsr], aZ G zsf 16 fi, aI G zsu 16 us, aZ G zse 16 ex, aJ G zsl 16 lf, aJ G zsr 16 rg, ob zt 2 [.ref ztm, .ref ztr, .ref ztl, .ref ztf, .ref ztd, .long cu, .long cv], aZ G ztm 8 md, aJ G ztr 8 re, aJ G ztl 8 fl, aJ G ztf 8 fr, ob ztd 4 [.ref ztdq, .long tk], aJ G ztdq 16 (rkF tk), ob zc 3 [.ref zcl, .ref zcr], ob zcl 4 [.ref zclq, .long kl], aJ G zclq 16 (rkF kl), ob zcr 4 [.ref zcrq, .long kr], aJ G zcrq 16 (rkF kr), aJ G zpb 5 bf, aJ G zpm 8 mg] (fun r (_ : Int64 × Int64 × Int64 × Int64 × Int64) => r = f_P_translate hm fi us lf rg md re fl fr tk bf k k2 g a z) (fun x => [ob zp 0 [.ref zph, .ref zpt, .int hm, .long ml, .long mr, .ref zs, .ref zt, .ref zc, .ref zpb, .ref zpm], aJ G zph 6 hv, aZ G zpt 6 ht, ob zs 1 [.ref zsf, .ref zsu, .ref zse, .ref zsl, .ref zsr], aZ G zsf 16 fi, aI G zsu 16 us, aZ G zse 16 ex, aJ G zsl 16 lf, aJ G zsr 16 rg, ob zt 2 [.ref ztm, .ref ztr, .ref ztl, .ref ztf, .ref ztd, .long x.2.1, .long x.2.2.1], aZ G ztm 8 md, aJ G ztr 8 re, aJ G ztl 8 fl, aJ G ztf 8 fr, ob ztd 4 [.ref ztdq, .long x.1], aJ G ztdq 16 (rkF x.1), ob zc 3 [.ref zcl, .ref zcr], ob zcl 4 [.ref zclq, .long x.2.2.2.1], aJ G zclq 16 (rkF x.2.2.2.1), ob zcr 4 [.ref zcrq, .long x.2.2.2.2], aJ G zcrq 16 (rkF x.2.2.2.2), aJ G zpb 5 (g_P_translate_zpb hm fi us lf rg md re fl fr tk bf k k2 g a z), aJ G zpm 8 mg]) 0 0 := by
  refine Ct.of (Qp := fun A => va_Qi _ (qB G A _) A) Sx_stb (by decide) (Nat.le_of_ble_eq_true rfl) ?_
  intro p e s m args below meth c A X hE hr hlk hini
  refine pv_eql (ll2 := [(0, .ref zp), (1, .int k), (2, .int k2), (3, .int g), (4, .long a), (6, .long z)]) rfl ?_
  refine pv_aload_n X 0 d_P_translate_0 rfl ?_
  refine pv_get X 0 2 u_P_in m_117 rfl rfl (by decide) ⟨rfl, rfl, rfl⟩ rfl d_P_translate_1 ?_
  refine pv_if_ne X 9 d_P_translate_4 rfl (fun h1 => ?_) (fun h1n => ?_)
  · skip
    refine pv_iload_n X 3 d_P_translate_9 rfl ?_
    refine pv_iconst X 4 d_P_translate_10 (by decide) ?_
    refine pv_ishr X d_P_translate_11 ?_
    refine pv_istore (ll2 := [(8, .int (g >>> (4 &&& 31))), (0, .ref zp), (1, .int k), (2, .int k2), (3, .int g), (4, .long a), (6, .long z)]) X d_P_translate_12 (by decide) rfl ?_
    refine pv_iload_n X 4 d_P_translate_14 rfl ?_
    refine pv_bipush X 15 d_P_translate_15 (by decide) ?_
    refine pv_iand X d_P_translate_17 ?_
    refine pv_istore (ll2 := [(9, .int (g &&& 15)), (8, .int (g >>> (4 &&& 31))), (0, .ref zp), (1, .int k), (2, .int k2), (3, .int g), (4, .long a), (6, .long z)]) X d_P_translate_18 (by decide) rfl ?_
    refine pv_iload_n X 3 d_P_translate_20 rfl ?_
    refine pv_calli0 X (rn_S X (c_P_isKeyNumber l G k) trivial mf_P_isKeyNumber m_340 m_341 rfl (by decide) (by decide) rfl (Nat.le_of_ble_eq_true rfl) d_P_translate_21) ?_
    refine pv_if_eq X 74 d_P_translate_24 rfl (fun h3 => ?_) (fun h3n => ?_)
    · skip
      refine pv_bipush X (-2) d_P_translate_74 (by decide) ?_
      exact pv_iret X hr hlk (tk, cu, cv, kl, kr) (by show _ = f_P_translate hm fi us lf rg md re fl fr tk bf k k2 g a z; simp only [f_P_translate, if_neg h1, if_pos h3]) (by simp only [g_P_translate_zpb, if_neg h1, if_pos h3]) d_P_translate_76
    · skip
      refine pv_iload_n X 4 d_P_translate_27 rfl ?_
      refine pv_calli0 X (rn_S X (c_P_isKeyNumber l G k2) trivial mf_P_isKeyNumber m_340 m_341 rfl (by decide) (by decide) rfl (Nat.le_of_ble_eq_true rfl) d_P_translate_28) ?_
      refine pv_if_eq X 74 d_P_translate_31 rfl (fun h5 => ?_) (fun h5n => ?_)
      · skip
        refine pv_bipush X (-2) d_P_translate_74 (by decide) ?_
        exact pv_iret X hr hlk (tk, cu, cv, kl, kr) (by show _ = f_P_translate hm fi us lf rg md re fl fr tk bf k k2 g a z; simp only [f_P_translate, if_neg h1, if_neg h3n, if_pos h5]) (by simp only [g_P_translate_zpb, if_neg h1, if_neg h3n, if_pos h5]) d_P_translate_76
      · skip
        refine pv_iload X 1 d_P_translate_34 rfl ?_
        refine pv_calli0 X (rn_S X (c_B_isFormat l G (g >>> (4 &&& 31))) trivial mf_B_isFormat m_365 m_366 rfl (by decide) (by decide) rfl (Nat.le_of_ble_eq_true rfl) d_P_translate_36) ?_
        refine pv_if_eq X 74 d_P_translate_39 rfl (fun h7 => ?_) (fun h7n => ?_)
        · skip
          refine pv_bipush X (-2) d_P_translate_74 (by decide) ?_
          exact pv_iret X hr hlk (tk, cu, cv, kl, kr) (by show _ = f_P_translate hm fi us lf rg md re fl fr tk bf k k2 g a z; simp only [f_P_translate, if_neg h1, if_neg h3n, if_neg h5n, if_pos h7]) (by simp only [g_P_translate_zpb, if_neg h1, if_neg h3n, if_neg h5n, if_pos h7]) d_P_translate_76
        · skip
          refine pv_iload X 0 d_P_translate_42 rfl ?_
          refine pv_calli0 X (rn_S X (c_B_isFormat l G (g &&& 15)) trivial mf_B_isFormat m_365 m_366 rfl (by decide) (by decide) rfl (Nat.le_of_ble_eq_true rfl) d_P_translate_44) ?_
          refine pv_if_eq X 74 d_P_translate_47 rfl (fun h9 => ?_) (fun h9n => ?_)
          · skip
            refine pv_bipush X (-2) d_P_translate_74 (by decide) ?_
            exact pv_iret X hr hlk (tk, cu, cv, kl, kr) (by show _ = f_P_translate hm fi us lf rg md re fl fr tk bf k k2 g a z; simp only [f_P_translate, if_neg h1, if_neg h3n, if_neg h5n, if_neg h7n, if_pos h9]) (by simp only [g_P_translate_zpb, if_neg h1, if_neg h3n, if_neg h5n, if_neg h7n, if_pos h9]) d_P_translate_76
          · skip
            refine pv_lload X 6 d_P_translate_50 rfl ?_
            refine pv_bipush X 16 d_P_translate_52 (by decide) ?_
            refine pv_calli0 X (rn_S X (c_P_areDigits l G a 16) trivial mf_P_areDigits m_371 m_372 rfl (by decide) (by decide) rfl (Nat.le_of_ble_eq_true rfl) d_P_translate_54) ?_
            refine pv_if_eq X 74 d_P_translate_57 rfl (fun h11 => ?_) (fun h11n => ?_)
            · skip
              refine pv_bipush X (-2) d_P_translate_74 (by decide) ?_
              exact pv_iret X hr hlk (tk, cu, cv, kl, kr) (by show _ = f_P_translate hm fi us lf rg md re fl fr tk bf k k2 g a z; simp only [f_P_translate, if_neg h1, if_neg h3n, if_neg h5n, if_neg h7n, if_neg h9n, if_pos h11]) (by simp only [g_P_translate_zpb, if_neg h1, if_neg h3n, if_neg h5n, if_neg h7n, if_neg h9n, if_pos h11]) d_P_translate_76
            · skip
              refine pv_iload X 0 d_P_translate_60 rfl ?_
              refine pv_lload X 7 d_P_translate_62 rfl ?_
              refine pv_iconst X 4 d_P_translate_64 (by decide) ?_
              refine pv_calli0 X (rn_S X (c_B_fillCount l G 4) trivial mf_B_fillCount m_376 m_377 rfl (by decide) (by decide) rfl (Nat.le_of_ble_eq_true rfl) d_P_translate_65) ?_
              refine pv_calli0 X (rn_S X (c_B_mayFill l G (g &&& 15) z (f_B_fillCount 4)) trivial mf_B_mayFill m_379 m_380 rfl (by decide) (by decide) rfl (Nat.le_of_ble_eq_true rfl) d_P_translate_68) ?_
              refine pv_if_ne X 77 d_P_translate_71 rfl (fun h14 => ?_) (fun h14n => ?_)
              · skip
                refine pv_aload_n X 2 d_P_translate_77 rfl ?_
                refine pv_iload_n X 3 d_P_translate_78 rfl ?_
                refine pv_calliE X (Cut.all _) (rn_V X (c_P_hasKey l G zp zph zpt zs zsf zsu zse zsl zsr zt ztm ztr ztl ztf ztd ztdq zc zcl zclq zcr zcrq zpb zpm hv ht hm ml mr fi us ex lf rg md re fl fr tk cu cv kl kr bf mg k h3n hfi hmd) hE mf_P_hasKey m_343 m_345 ms_4 rfl 0 rfl rfl rfl (by decide) (by decide) rfl (Nat.le_of_ble_eq_true rfl) d_P_translate_79) (fun x15 => ?_)
                refine pv_eqw (ws2 := [ob zp 0 [.ref zph, .ref zpt, .int hm, .long ml, .long mr, .ref zs, .ref zt, .ref zc, .ref zpb, .ref zpm], aJ G zph 6 hv, aZ G zpt 6 ht, ob zs 1 [.ref zsf, .ref zsu, .ref zse, .ref zsl, .ref zsr], aZ G zsf 16 fi, aI G zsu 16 us, aZ G zse 16 ex, aJ G zsl 16 lf, aJ G zsr 16 rg, ob zt 2 [.ref ztm, .ref ztr, .ref ztl, .ref ztf, .ref ztd, .long cu, .long cv], aZ G ztm 8 md, aJ G ztr 8 re, aJ G ztl 8 fl, aJ G ztf 8 fr, ob ztd 4 [.ref ztdq, .long tk], aJ G ztdq 16 (rkF tk), ob zc 3 [.ref zcl, .ref zcr], ob zcl 4 [.ref zclq, .long kl], aJ G zclq 16 (rkF kl), ob zcr 4 [.ref zcrq, .long kr], aJ G zcrq 16 (rkF kr), aJ G zpb 5 bf, aJ G zpm 8 mg]) rfl ?_
                refine pv_if_eq X 93 d_P_translate_82 rfl (fun h16 => ?_) (fun h16n => ?_)
                · skip
                  refine pv_bipush X (-3) d_P_translate_93 (by decide) ?_
                  exact pv_iret X hr hlk (tk, cu, cv, kl, kr) (by show _ = f_P_translate hm fi us lf rg md re fl fr tk bf k k2 g a z; simp only [f_P_translate, if_neg h1, if_neg h3n, if_neg h5n, if_neg h7n, if_neg h9n, if_neg h11n, if_neg h14, if_pos h16]) (by simp only [g_P_translate_zpb, if_neg h1, if_neg h3n, if_neg h5n, if_neg h7n, if_neg h9n, if_neg h11n, if_neg h14, if_pos h16]) d_P_translate_95
                · skip
                  refine pv_aload_n X 2 d_P_translate_85 rfl ?_
                  refine pv_iload_n X 4 d_P_translate_86 rfl ?_
                  refine pv_calliE X (Cut.all _) (rn_V X (c_P_hasKey l G zp zph zpt zs zsf zsu zse zsl zsr zt ztm ztr ztl ztf ztd ztdq zc zcl zclq zcr zcrq zpb zpm hv ht hm ml mr fi us ex lf rg md re fl fr tk cu cv kl kr bf mg k2 h5n hfi hmd) hE mf_P_hasKey m_343 m_345 ms_4 rfl 0 rfl rfl rfl (by decide) (by decide) rfl (Nat.le_of_ble_eq_true rfl) d_P_translate_87) (fun x17 => ?_)
                  refine pv_eqw (ws2 := [ob zp 0 [.ref zph, .ref zpt, .int hm, .long ml, .long mr, .ref zs, .ref zt, .ref zc, .ref zpb, .ref zpm], aJ G zph 6 hv, aZ G zpt 6 ht, ob zs 1 [.ref zsf, .ref zsu, .ref zse, .ref zsl, .ref zsr], aZ G zsf 16 fi, aI G zsu 16 us, aZ G zse 16 ex, aJ G zsl 16 lf, aJ G zsr 16 rg, ob zt 2 [.ref ztm, .ref ztr, .ref ztl, .ref ztf, .ref ztd, .long cu, .long cv], aZ G ztm 8 md, aJ G ztr 8 re, aJ G ztl 8 fl, aJ G ztf 8 fr, ob ztd 4 [.ref ztdq, .long tk], aJ G ztdq 16 (rkF tk), ob zc 3 [.ref zcl, .ref zcr], ob zcl 4 [.ref zclq, .long kl], aJ G zclq 16 (rkF kl), ob zcr 4 [.ref zcrq, .long kr], aJ G zcrq 16 (rkF kr), aJ G zpb 5 bf, aJ G zpm 8 mg]) rfl ?_
                  refine pv_if_ne X 96 d_P_translate_90 rfl (fun h18 => ?_) (fun h18n => ?_)
                  · skip
                    refine pv_aload_n X 2 d_P_translate_96 rfl ?_
                    refine pv_iload_n X 3 d_P_translate_97 rfl ?_
                    refine pv_calliE X (Cut.all _) (rn_V X (c_P_isPinKey l G zp zph zpt zs zsf zsu zse zsl zsr zt ztm ztr ztl ztf ztd ztdq zc zcl zclq zcr zcrq zpb zpm hv ht hm ml mr fi us ex lf rg md re fl fr tk cu cv kl kr bf mg k h3n) hE mf_P_isPinKey m_386 m_388 ms_7 rfl 0 rfl rfl rfl (by decide) (by decide) rfl (Nat.le_of_ble_eq_true rfl) d_P_translate_98) (fun x19 => ?_)
                    refine pv_eqw (ws2 := [ob zp 0 [.ref zph, .ref zpt, .int hm, .long ml, .long mr, .ref zs, .ref zt, .ref zc, .ref zpb, .ref zpm], aJ G zph 6 hv, aZ G zpt 6 ht, ob zs 1 [.ref zsf, .ref zsu, .ref zse, .ref zsl, .ref zsr], aZ G zsf 16 fi, aI G zsu 16 us, aZ G zse 16 ex, aJ G zsl 16 lf, aJ G zsr 16 rg, ob zt 2 [.ref ztm, .ref ztr, .ref ztl, .ref ztf, .ref ztd, .long cu, .long cv], aZ G ztm 8 md, aJ G ztr 8 re, aJ G ztl 8 fl, aJ G ztf 8 fr, ob ztd 4 [.ref ztdq, .long tk], aJ G ztdq 16 (rkF tk), ob zc 3 [.ref zcl, .ref zcr], ob zcl 4 [.ref zclq, .long kl], aJ G zclq 16 (rkF kl), ob zcr 4 [.ref zcrq, .long kr], aJ G zcrq 16 (rkF kr), aJ G zpb 5 bf, aJ G zpm 8 mg]) rfl ?_
                    refine pv_if_eq X 112 d_P_translate_101 rfl (fun h20 => ?_) (fun h20n => ?_)
                    · skip
                      refine pv_bipush X (-4) d_P_translate_112 (by decide) ?_
                      exact pv_iret X hr hlk (tk, cu, cv, kl, kr) (by show _ = f_P_translate hm fi us lf rg md re fl fr tk bf k k2 g a z; simp only [f_P_translate, if_neg h1, if_neg h3n, if_neg h5n, if_neg h7n, if_neg h9n, if_neg h11n, if_neg h14, if_neg h16n, if_neg h18, if_pos h20]) (by simp only [g_P_translate_zpb, if_neg h1, if_neg h3n, if_neg h5n, if_neg h7n, if_neg h9n, if_neg h11n, if_neg h14, if_neg h16n, if_neg h18, if_pos h20]) d_P_translate_114
                    · skip
                      refine pv_aload_n X 2 d_P_translate_104 rfl ?_
                      refine pv_iload_n X 4 d_P_translate_105 rfl ?_
                      refine pv_calliE X (Cut.all _) (rn_V X (c_P_isPinKey l G zp zph zpt zs zsf zsu zse zsl zsr zt ztm ztr ztl ztf ztd ztdq zc zcl zclq zcr zcrq zpb zpm hv ht hm ml mr fi us ex lf rg md re fl fr tk cu cv kl kr bf mg k2 h5n) hE mf_P_isPinKey m_386 m_388 ms_7 rfl 0 rfl rfl rfl (by decide) (by decide) rfl (Nat.le_of_ble_eq_true rfl) d_P_translate_106) (fun x21 => ?_)
                      refine pv_eqw (ws2 := [ob zp 0 [.ref zph, .ref zpt, .int hm, .long ml, .long mr, .ref zs, .ref zt, .ref zc, .ref zpb, .ref zpm], aJ G zph 6 hv, aZ G zpt 6 ht, ob zs 1 [.ref zsf, .ref zsu, .ref zse, .ref zsl, .ref zsr], aZ G zsf 16 fi, aI G zsu 16 us, aZ G zse 16 ex, aJ G zsl 16 lf, aJ G zsr 16 rg, ob zt 2 [.ref ztm, .ref ztr, .ref ztl, .ref ztf, .ref ztd, .long cu, .long cv], aZ G ztm 8 md, aJ G ztr 8 re, aJ G ztl 8 fl, aJ G ztf 8 fr, ob ztd 4 [.ref ztdq, .long tk], aJ G ztdq 16 (rkF tk), ob zc 3 [.ref zcl, .ref zcr], ob zcl 4 [.ref zclq, .long kl], aJ G zclq 16 (rkF kl), ob zcr 4 [.ref zcrq, .long kr], aJ G zcrq 16 (rkF kr), aJ G zpb 5 bf, aJ G zpm 8 mg]) rfl ?_
                      refine pv_if_ne X 115 d_P_translate_109 rfl (fun h22 => ?_) (fun h22n => ?_)
                      · skip
                        refine pv_aload_n X 2 d_P_translate_115 rfl ?_
                        refine pv_iload_n X 3 d_P_translate_116 rfl ?_
                        refine pv_ldc2_w X m_156 d_P_translate_117 ?_
                        refine pv_callv X (Cut.all _) (rn_V X (c_P_takeKey l G zp zph zpt zs zsf zsu zse zsl zsr zt ztm ztr ztl ztf ztd ztdq zc zcl zclq zcr zcrq zpb zpm hv ht hm ml mr fi us ex lf rg md re fl fr tk cu cv kl kr bf mg k (255 : Int64) h3n) hE mf_P_takeKey m_347 m_349 ms_5 rfl 0 rfl rfl rfl (by decide) (by decide) rfl (Nat.le_of_ble_eq_true rfl) d_P_translate_120) (fun x23 e23 => ?_)
                        refine pv_eqw (ws2 := [ob zp 0 [.ref zph, .ref zpt, .int hm, .long ml, .long mr, .ref zs, .ref zt, .ref zc, .ref zpb, .ref zpm], aJ G zph 6 hv, aZ G zpt 6 ht, ob zs 1 [.ref zsf, .ref zsu, .ref zse, .ref zsl, .ref zsr], aZ G zsf 16 fi, aI G zsu 16 us, aZ G zse 16 ex, aJ G zsl 16 lf, aJ G zsr 16 rg, ob zt 2 [.ref ztm, .ref ztr, .ref ztl, .ref ztf, .ref ztd, .long (g_P_takeKey_zt_5 re fl fr tk cu k), .long (g_P_takeKey_zt_6 re fl fr tk cv k)], aZ G ztm 8 md, aJ G ztr 8 re, aJ G ztl 8 fl, aJ G ztf 8 fr, ob ztd 4 [.ref ztdq, .long (g_P_takeKey_ztd_1 re fl fr tk k)], aJ G ztdq 16 (rkF (g_P_takeKey_ztd_1 re fl fr tk k)), ob zc 3 [.ref zcl, .ref zcr], ob zcl 4 [.ref zclq, .long (g_P_takeKey_zcl_1 lf re fl fr tk k (255 : Int64))], aJ G zclq 16 (rkF (g_P_takeKey_zcl_1 lf re fl fr tk k (255 : Int64))), ob zcr 4 [.ref zcrq, .long (g_P_takeKey_zcr_1 rg re fl fr tk k (255 : Int64))], aJ G zcrq 16 (rkF (g_P_takeKey_zcr_1 rg re fl fr tk k (255 : Int64))), aJ G zpb 5 bf, aJ G zpm 8 mg]) rfl ?_
                        refine pv_aload_n X 2 d_P_translate_123 rfl ?_
                        refine pv_iload X 1 d_P_translate_124 rfl ?_
                        refine pv_lload X 6 d_P_translate_126 rfl ?_
                        refine pv_calllE X (Cut.all _) (rn_V X (c_P_openedPinBlock l G zp zph zpt zs zsf zsu zse zsl zsr zt ztm ztr ztl ztf ztd ztdq zc zcl zclq zcr zcrq zpb zpm hv ht hm ml mr fi us ex lf rg md re fl fr (g_P_takeKey_ztd_1 re fl fr tk k) (g_P_takeKey_zt_5 re fl fr tk cu k) (g_P_takeKey_zt_6 re fl fr tk cv k) (g_P_takeKey_zcl_1 lf re fl fr tk k (255 : Int64)) (g_P_takeKey_zcr_1 rg re fl fr tk k (255 : Int64)) bf mg (g >>> (4 &&& 31)) a ) hE mf_P_openedPinBlock m_403 m_405 ms_8 rfl 0 rfl rfl rfl (by decide) (by decide) rfl (Nat.le_of_ble_eq_true rfl) d_P_translate_128) (fun x24 => ?_)
                        refine pv_eqw (ws2 := [ob zp 0 [.ref zph, .ref zpt, .int hm, .long ml, .long mr, .ref zs, .ref zt, .ref zc, .ref zpb, .ref zpm], aJ G zph 6 hv, aZ G zpt 6 ht, ob zs 1 [.ref zsf, .ref zsu, .ref zse, .ref zsl, .ref zsr], aZ G zsf 16 fi, aI G zsu 16 us, aZ G zse 16 ex, aJ G zsl 16 lf, aJ G zsr 16 rg, ob zt 2 [.ref ztm, .ref ztr, .ref ztl, .ref ztf, .ref ztd, .long (g_P_takeKey_zt_5 re fl fr tk cu k), .long (g_P_takeKey_zt_6 re fl fr tk cv k)], aZ G ztm 8 md, aJ G ztr 8 re, aJ G ztl 8 fl, aJ G ztf 8 fr, ob ztd 4 [.ref ztdq, .long (g_P_takeKey_ztd_1 re fl fr tk k)], aJ G ztdq 16 (rkF (g_P_takeKey_ztd_1 re fl fr tk k)), ob zc 3 [.ref zcl, .ref zcr], ob zcl 4 [.ref zclq, .long (g_P_takeKey_zcl_1 lf re fl fr tk k (255 : Int64))], aJ G zclq 16 (rkF (g_P_takeKey_zcl_1 lf re fl fr tk k (255 : Int64))), ob zcr 4 [.ref zcrq, .long (g_P_takeKey_zcr_1 rg re fl fr tk k (255 : Int64))], aJ G zcrq 16 (rkF (g_P_takeKey_zcr_1 rg re fl fr tk k (255 : Int64))), aJ G zpb 5 bf, aJ G zpm 8 mg]) rfl ?_
                        refine pv_lstore (ll2 := [(10, .long (f_P_openedPinBlock (g_P_takeKey_zcl_1 lf re fl fr tk k (255 : Int64)) (g_P_takeKey_zcr_1 rg re fl fr tk k (255 : Int64)) bf (g >>> (4 &&& 31)) a)), (9, .int (g &&& 15)), (8, .int (g >>> (4 &&& 31))), (0, .ref zp), (1, .int k), (2, .int k2), (3, .int g), (4, .long a), (6, .long z)]) X d_P_translate_131 (by decide) rfl ?_
                        refine pv_iload X 2 d_P_translate_133 rfl ?_
                        refine pv_lload X 0 d_P_translate_135 rfl ?_
                        refine pv_calli0 X (rn_S X (c_B_isOf l G (g >>> (4 &&& 31)) (f_P_openedPinBlock (g_P_takeKey_zcl_1 lf re fl fr tk k (255 : Int64)) (g_P_takeKey_zcr_1 rg re fl fr tk k (255 : Int64)) bf (g >>> (4 &&& 31)) a)) hE mf_B_isOf m_408 m_409 rfl (by decide) (by decide) rfl (Nat.le_of_ble_eq_true rfl) d_P_translate_137) ?_
                        refine pv_if_ne X 146 d_P_translate_140 rfl (fun h26 => ?_) (fun h26n => ?_)
                        · skip
                          refine pv_lload X 0 d_P_translate_146 rfl ?_
                          refine pv_calli0 X (rn_S X (c_B_lengthOf l G (f_P_openedPinBlock (g_P_takeKey_zcl_1 lf re fl fr tk k (255 : Int64)) (g_P_takeKey_zcr_1 rg re fl fr tk k (255 : Int64)) bf (g >>> (4 &&& 31)) a)) trivial mf_B_lengthOf m_419 m_412 rfl (by decide) (by decide) rfl (Nat.le_of_ble_eq_true rfl) d_P_translate_148) ?_
                          refine pv_istore (ll2 := [(12, .int (f_B_lengthOf (f_P_openedPinBlock (g_P_takeKey_zcl_1 lf re fl fr tk k (255 : Int64)) (g_P_takeKey_zcr_1 rg re fl fr tk k (255 : Int64)) bf (g >>> (4 &&& 31)) a))), (10, .long (f_P_openedPinBlock (g_P_takeKey_zcl_1 lf re fl fr tk k (255 : Int64)) (g_P_takeKey_zcr_1 rg re fl fr tk k (255 : Int64)) bf (g >>> (4 &&& 31)) a)), (9, .int (g &&& 15)), (8, .int (g >>> (4 &&& 31))), (0, .ref zp), (1, .int k), (2, .int k2), (3, .int g), (4, .long a), (6, .long z)]) X d_P_translate_151 (by decide) rfl ?_
                          refine pv_aload_n X 4 d_P_translate_153 rfl ?_
                          refine pv_iload_n X 6 d_P_translate_154 rfl ?_
                          refine pv_ldc2_w X m_156 d_P_translate_155 ?_
                          refine pv_callv X (Cut.all _) (rn_V X (c_P_takeKey l G zp zph zpt zs zsf zsu zse zsl zsr zt ztm ztr ztl ztf ztd ztdq zc zcl zclq zcr zcrq zpb zpm hv ht hm ml mr fi us ex lf rg md re fl fr (g_P_takeKey_ztd_1 re fl fr tk k) (g_P_takeKey_zt_5 re fl fr tk cu k) (g_P_takeKey_zt_6 re fl fr tk cv k) (g_P_takeKey_zcl_1 lf re fl fr tk k (255 : Int64)) (g_P_takeKey_zcr_1 rg re fl fr tk k (255 : Int64)) bf mg k2 (255 : Int64) h5n) hE mf_P_takeKey m_347 m_349 ms_5 rfl 0 rfl rfl rfl (by decide) (by decide) rfl (Nat.le_of_ble_eq_true rfl) d_P_translate_158) (fun x28 e28 => ?_)
                          refine pv_eqw (ws2 := [ob zp 0 [.ref zph, .ref zpt, .int hm, .long ml, .long mr, .ref zs, .ref zt, .ref zc, .ref zpb, .ref zpm], aJ G zph 6 hv, aZ G zpt 6 ht, ob zs 1 [.ref zsf, .ref zsu, .ref zse, .ref zsl, .ref zsr], aZ G zsf 16 fi, aI G zsu 16 us, aZ G zse 16 ex, aJ G zsl 16 lf, aJ G zsr 16 rg, ob zt 2 [.ref ztm, .ref ztr, .ref ztl, .ref ztf, .ref ztd, .long (g_P_takeKey_zt_5 re fl fr (g_P_takeKey_ztd_1 re fl fr tk k) (g_P_takeKey_zt_5 re fl fr tk cu k) k2), .long (g_P_takeKey_zt_6 re fl fr (g_P_takeKey_ztd_1 re fl fr tk k) (g_P_takeKey_zt_6 re fl fr tk cv k) k2)], aZ G ztm 8 md, aJ G ztr 8 re, aJ G ztl 8 fl, aJ G ztf 8 fr, ob ztd 4 [.ref ztdq, .long (g_P_takeKey_ztd_1 re fl fr (g_P_takeKey_ztd_1 re fl fr tk k) k2)], aJ G ztdq 16 (rkF (g_P_takeKey_ztd_1 re fl fr (g_P_takeKey_ztd_1 re fl fr tk k) k2)), ob zc 3 [.ref zcl, .ref zcr], ob zcl 4 [.ref zclq, .long (g_P_takeKey_zcl_1 lf re fl fr (g_P_takeKey_ztd_1 re fl fr tk k) k2 (255 : Int64))], aJ G zclq 16 (rkF (g_P_takeKey_zcl_1 lf re fl fr (g_P_takeKey_ztd_1 re fl fr tk k) k2 (255 : Int64))), ob zcr 4 [.ref zcrq, .long (g_P_takeKey_zcr_1 rg re fl fr (g_P_takeKey_ztd_1 re fl fr tk k) k2 (255 : Int64))], aJ G zcrq 16 (rkF (g_P_takeKey_zcr_1 rg re fl fr (g_P_takeKey_ztd_1 re fl fr tk k) k2 (255 : Int64))), aJ G zpb 5 bf, aJ G zpm 8 mg]) rfl ?_
                          refine pv_aload_n X 4 d_P_translate_161 rfl ?_
                          refine pv_get X 0 8 u_P_in m_123 rfl rfl (by decide) ⟨rfl, rfl, rfl⟩ rfl d_P_translate_162 ?_
                          refine pv_iconst X 0 d_P_translate_165 (by decide) ?_
                          refine pv_aload_n X 4 d_P_translate_166 rfl ?_
                          refine pv_get X 0 7 u_P_in m_122 rfl rfl (by decide) ⟨rfl, rfl, rfl⟩ rfl d_P_translate_167 ?_
                          refine pv_iload X 2 d_P_translate_170 rfl ?_
                          refine pv_lload X 8 d_P_translate_172 rfl ?_
                          refine pv_iload X 0 d_P_translate_174 rfl ?_
                          refine pv_lload X 1 d_P_translate_176 rfl ?_
                          refine pv_iload X 0 d_P_translate_178 rfl ?_
                          refine pv_calll0 X (rn_S X (c_B_digitsOf l G (f_P_openedPinBlock (g_P_takeKey_zcl_1 lf re fl fr tk k (255 : Int64)) (g_P_takeKey_zcr_1 rg re fl fr tk k (255 : Int64)) bf (g >>> (4 &&& 31)) a) (f_B_lengthOf (f_P_openedPinBlock (g_P_takeKey_zcl_1 lf re fl fr tk k (255 : Int64)) (g_P_takeKey_zcr_1 rg re fl fr tk k (255 : Int64)) bf (g >>> (4 &&& 31)) a))) trivial mf_B_digitsOf m_420 m_416 rfl (by decide) (by decide) rfl (Nat.le_of_ble_eq_true rfl) d_P_translate_180) ?_
                          refine pv_lload X 9 d_P_translate_183 rfl ?_
                          refine pv_calll0 X (rn_S X (c_B_made l G (g &&& 15) a (f_B_lengthOf (f_P_openedPinBlock (g_P_takeKey_zcl_1 lf re fl fr tk k (255 : Int64)) (g_P_takeKey_zcr_1 rg re fl fr tk k (255 : Int64)) bf (g >>> (4 &&& 31)) a)) (f_B_digitsOf (f_P_openedPinBlock (g_P_takeKey_zcl_1 lf re fl fr tk k (255 : Int64)) (g_P_takeKey_zcr_1 rg re fl fr tk k (255 : Int64)) bf (g >>> (4 &&& 31)) a) (f_B_lengthOf (f_P_openedPinBlock (g_P_takeKey_zcl_1 lf re fl fr tk k (255 : Int64)) (g_P_takeKey_zcr_1 rg re fl fr tk k (255 : Int64)) bf (g >>> (4 &&& 31)) a))) z) trivial mf_B_made m_390 m_391 rfl (by decide) (by decide) rfl (Nat.le_of_ble_eq_true rfl) d_P_translate_185) ?_
                          refine pv_calllE X (Cut.mk (w0 := [ob zc 3 [.ref zcl, .ref zcr], ob zcl 4 [.ref zclq, .long (g_P_takeKey_zcl_1 lf re fl fr (g_P_takeKey_ztd_1 re fl fr tk k) k2 (255 : Int64))], aJ G zclq 16 (rkF (g_P_takeKey_zcl_1 lf re fl fr (g_P_takeKey_ztd_1 re fl fr tk k) k2 (255 : Int64))), ob zcr 4 [.ref zcrq, .long (g_P_takeKey_zcr_1 rg re fl fr (g_P_takeKey_ztd_1 re fl fr tk k) k2 (255 : Int64))], aJ G zcrq 16 (rkF (g_P_takeKey_zcr_1 rg re fl fr (g_P_takeKey_ztd_1 re fl fr tk k) k2 (255 : Int64)))]) (wr := [ob zp 0 [.ref zph, .ref zpt, .int hm, .long ml, .long mr, .ref zs, .ref zt, .ref zc, .ref zpb, .ref zpm], aJ G zph 6 hv, aZ G zpt 6 ht, ob zs 1 [.ref zsf, .ref zsu, .ref zse, .ref zsl, .ref zsr], aZ G zsf 16 fi, aI G zsu 16 us, aZ G zse 16 ex, aJ G zsl 16 lf, aJ G zsr 16 rg, ob zt 2 [.ref ztm, .ref ztr, .ref ztl, .ref ztf, .ref ztd, .long (g_P_takeKey_zt_5 re fl fr (g_P_takeKey_ztd_1 re fl fr tk k) (g_P_takeKey_zt_5 re fl fr tk cu k) k2), .long (g_P_takeKey_zt_6 re fl fr (g_P_takeKey_ztd_1 re fl fr tk k) (g_P_takeKey_zt_6 re fl fr tk cv k) k2)], aZ G ztm 8 md, aJ G ztr 8 re, aJ G ztl 8 fl, aJ G ztf 8 fr, ob ztd 4 [.ref ztdq, .long (g_P_takeKey_ztd_1 re fl fr (g_P_takeKey_ztd_1 re fl fr tk k) k2)], aJ G ztdq 16 (rkF (g_P_takeKey_ztd_1 re fl fr (g_P_takeKey_ztd_1 re fl fr tk k) k2)), aJ G zpb 5 bf, aJ G zpm 8 mg]) [16, 17, 18, 19, 20] [0, 1, 2, 3, 4, 5, 6, 7, 8, 9, 10, 11, 12, 13, 14, 15, 21, 22] rfl rfl rfl rfl rfl) (rn_V X (c_C_sealBlock l G zc zcl zclq zcr zcrq (g_P_takeKey_zcl_1 lf re fl fr (g_P_takeKey_ztd_1 re fl fr tk k) k2 (255 : Int64)) (g_P_takeKey_zcr_1 rg re fl fr (g_P_takeKey_ztd_1 re fl fr tk k) k2 (255 : Int64)) (f_B_made (g &&& 15) a (f_B_lengthOf (f_P_openedPinBlock (g_P_takeKey_zcl_1 lf re fl fr tk k (255 : Int64)) (g_P_takeKey_zcr_1 rg re fl fr tk k (255 : Int64)) bf (g >>> (4 &&& 31)) a)) (f_B_digitsOf (f_P_openedPinBlock (g_P_takeKey_zcl_1 lf re fl fr tk k (255 : Int64)) (g_P_takeKey_zcr_1 rg re fl fr tk k (255 : Int64)) bf (g >>> (4 &&& 31)) a) (f_B_lengthOf (f_P_openedPinBlock (g_P_takeKey_zcl_1 lf re fl fr tk k (255 : Int64)) (g_P_takeKey_zcr_1 rg re fl fr tk k (255 : Int64)) bf (g >>> (4 &&& 31)) a))) z)) hE mf_C_sealBlock m_255 m_193 m_194 rfl 0 rfl rfl rfl (by decide) (by decide) rfl (Nat.le_of_ble_eq_true rfl) d_P_translate_188) (fun x31 => ?_)
                          refine pv_ord (ws2 := [ob zp 0 [.ref zph, .ref zpt, .int hm, .long ml, .long mr, .ref zs, .ref zt, .ref zc, .ref zpb, .ref zpm], aJ G zph 6 hv, aZ G zpt 6 ht, ob zs 1 [.ref zsf, .ref zsu, .ref zse, .ref zsl, .ref zsr], aZ G zsf 16 fi, aI G zsu 16 us, aZ G zse 16 ex, aJ G zsl 16 lf, aJ G zsr 16 rg, ob zt 2 [.ref ztm, .ref ztr, .ref ztl, .ref ztf, .ref ztd, .long (g_P_takeKey_zt_5 re fl fr (g_P_takeKey_ztd_1 re fl fr tk k) (g_P_takeKey_zt_5 re fl fr tk cu k) k2), .long (g_P_takeKey_zt_6 re fl fr (g_P_takeKey_ztd_1 re fl fr tk k) (g_P_takeKey_zt_6 re fl fr tk cv k) k2)], aZ G ztm 8 md, aJ G ztr 8 re, aJ G ztl 8 fl, aJ G ztf 8 fr, ob ztd 4 [.ref ztdq, .long (g_P_takeKey_ztd_1 re fl fr (g_P_takeKey_ztd_1 re fl fr tk k) k2)], aJ G ztdq 16 (rkF (g_P_takeKey_ztd_1 re fl fr (g_P_takeKey_ztd_1 re fl fr tk k) k2)), ob zc 3 [.ref zcl, .ref zcr], ob zcl 4 [.ref zclq, .long (g_P_takeKey_zcl_1 lf re fl fr (g_P_takeKey_ztd_1 re fl fr tk k) k2 (255 : Int64))], aJ G zclq 16 (rkF (g_P_takeKey_zcl_1 lf re fl fr (g_P_takeKey_ztd_1 re fl fr tk k) k2 (255 : Int64))), ob zcr 4 [.ref zcrq, .long (g_P_takeKey_zcr_1 rg re fl fr (g_P_takeKey_ztd_1 re fl fr tk k) k2 (255 : Int64))], aJ G zcrq 16 (rkF (g_P_takeKey_zcr_1 rg re fl fr (g_P_takeKey_ztd_1 re fl fr tk k) k2 (255 : Int64))), aJ G zpb 5 bf, aJ G zpm 8 mg]) [0, 1, 2, 3, 4, 5, 6, 7, 8, 9, 10, 11, 12, 13, 14, 15, 18, 19, 20, 21, 22, 16, 17] rfl rfl ?_
                          refine pv_last (ws2 := [ob zp 0 [.ref zph, .ref zpt, .int hm, .long ml, .long mr, .ref zs, .ref zt, .ref zc, .ref zpb, .ref zpm], aJ G zph 6 hv, aZ G zpt 6 ht, ob zs 1 [.ref zsf, .ref zsu, .ref zse, .ref zsl, .ref zsr], aZ G zsf 16 fi, aI G zsu 16 us, aZ G zse 16 ex, aJ G zsl 16 lf, aJ G zsr 16 rg, ob zt 2 [.ref ztm, .ref ztr, .ref ztl, .ref ztf, .ref ztd, .long (g_P_takeKey_zt_5 re fl fr (g_P_takeKey_ztd_1 re fl fr tk k) (g_P_takeKey_zt_5 re fl fr tk cu k) k2), .long (g_P_takeKey_zt_6 re fl fr (g_P_takeKey_ztd_1 re fl fr tk k) (g_P_takeKey_zt_6 re fl fr tk cv k) k2)], aZ G ztm 8 md, aJ G ztr 8 re, aJ G ztl 8 fl, aJ G ztf 8 fr, ob ztd 4 [.ref ztdq, .long (g_P_takeKey_ztd_1 re fl fr (g_P_takeKey_ztd_1 re fl fr tk k) k2)], aJ G ztdq 16 (rkF (g_P_takeKey_ztd_1 re fl fr (g_P_takeKey_ztd_1 re fl fr tk k) k2)), ob zc 3 [.ref zcl, .ref zcr], ob zcl 4 [.ref zclq, .long (g_P_takeKey_zcl_1 lf re fl fr (g_P_takeKey_ztd_1 re fl fr tk k) k2 (255 : Int64))], aJ G zclq 16 (rkF (g_P_takeKey_zcl_1 lf re fl fr (g_P_takeKey_ztd_1 re fl fr tk k) k2 (255 : Int64))), ob zcr 4 [.ref zcrq, .long (g_P_takeKey_zcr_1 rg re fl fr (g_P_takeKey_ztd_1 re fl fr tk k) k2 (255 : Int64))], aJ G zcrq 16 (rkF (g_P_takeKey_zcr_1 rg re fl fr (g_P_takeKey_ztd_1 re fl fr tk k) k2 (255 : Int64))), aJ G zpb 5 (vp_updL bf 0 (sealB (g_P_takeKey_zcl_1 lf re fl fr (g_P_takeKey_ztd_1 re fl fr tk k) k2 (255 : Int64)) (g_P_takeKey_zcr_1 rg re fl fr (g_P_takeKey_ztd_1 re fl fr tk k) k2 (255 : Int64)) (f_B_made (g &&& 15) a (f_B_lengthOf (f_P_openedPinBlock (g_P_takeKey_zcl_1 lf re fl fr tk k (255 : Int64)) (g_P_takeKey_zcr_1 rg re fl fr tk k (255 : Int64)) bf (g >>> (4 &&& 31)) a)) (f_B_digitsOf (f_P_openedPinBlock (g_P_takeKey_zcl_1 lf re fl fr tk k (255 : Int64)) (g_P_takeKey_zcr_1 rg re fl fr tk k (255 : Int64)) bf (g >>> (4 &&& 31)) a) (f_B_lengthOf (f_P_openedPinBlock (g_P_takeKey_zcl_1 lf re fl fr tk k (255 : Int64)) (g_P_takeKey_zcr_1 rg re fl fr tk k (255 : Int64)) bf (g >>> (4 &&& 31)) a))) z))), aJ G zpm 8 mg]) X 21 rfl (by unfold vp_in; decide) rfl d_P_translate_191 ?_
                          refine pv_iload X 0 d_P_translate_192 rfl ?_
                          exact pv_iret X hr hlk (g_P_takeKey_ztd_1 re fl fr (g_P_takeKey_ztd_1 re fl fr tk k) k2, g_P_takeKey_zt_5 re fl fr (g_P_takeKey_ztd_1 re fl fr tk k) (g_P_takeKey_zt_5 re fl fr tk cu k) k2, g_P_takeKey_zt_6 re fl fr (g_P_takeKey_ztd_1 re fl fr tk k) (g_P_takeKey_zt_6 re fl fr tk cv k) k2, g_P_takeKey_zcl_1 lf re fl fr (g_P_takeKey_ztd_1 re fl fr tk k) k2 (255 : Int64), g_P_takeKey_zcr_1 rg re fl fr (g_P_takeKey_ztd_1 re fl fr tk k) k2 (255 : Int64)) (by show _ = f_P_translate hm fi us lf rg md re fl fr tk bf k k2 g a z; simp only [f_P_translate, if_neg h1, if_neg h3n, if_neg h5n, if_neg h7n, if_neg h9n, if_neg h11n, if_neg h14, if_neg h16n, if_neg h18, if_neg h20n, if_neg h22, if_neg h26]) (by simp only [g_P_translate_zpb, if_neg h1, if_neg h3n, if_neg h5n, if_neg h7n, if_neg h9n, if_neg h11n, if_neg h14, if_neg h16n, if_neg h18, if_neg h20n, if_neg h22, if_neg h26]) d_P_translate_194
                        · skip
                          refine pv_bipush X (-6) d_P_translate_143 (by decide) ?_
                          exact pv_iret X hr hlk (g_P_takeKey_ztd_1 re fl fr tk k, g_P_takeKey_zt_5 re fl fr tk cu k, g_P_takeKey_zt_6 re fl fr tk cv k, g_P_takeKey_zcl_1 lf re fl fr tk k (255 : Int64), g_P_takeKey_zcr_1 rg re fl fr tk k (255 : Int64)) (by show _ = f_P_translate hm fi us lf rg md re fl fr tk bf k k2 g a z; simp only [f_P_translate, if_neg h1, if_neg h3n, if_neg h5n, if_neg h7n, if_neg h9n, if_neg h11n, if_neg h14, if_neg h16n, if_neg h18, if_neg h20n, if_neg h22, if_pos h26n]) (by simp only [g_P_translate_zpb, if_neg h1, if_neg h3n, if_neg h5n, if_neg h7n, if_neg h9n, if_neg h11n, if_neg h14, if_neg h16n, if_neg h18, if_neg h20n, if_neg h22, if_pos h26n]) d_P_translate_145
                      · skip
                        refine pv_bipush X (-4) d_P_translate_112 (by decide) ?_
                        exact pv_iret X hr hlk (tk, cu, cv, kl, kr) (by show _ = f_P_translate hm fi us lf rg md re fl fr tk bf k k2 g a z; simp only [f_P_translate, if_neg h1, if_neg h3n, if_neg h5n, if_neg h7n, if_neg h9n, if_neg h11n, if_neg h14, if_neg h16n, if_neg h18, if_neg h20n, if_pos h22n]) (by simp only [g_P_translate_zpb, if_neg h1, if_neg h3n, if_neg h5n, if_neg h7n, if_neg h9n, if_neg h11n, if_neg h14, if_neg h16n, if_neg h18, if_neg h20n, if_pos h22n]) d_P_translate_114
                  · skip
                    refine pv_bipush X (-3) d_P_translate_93 (by decide) ?_
                    exact pv_iret X hr hlk (tk, cu, cv, kl, kr) (by show _ = f_P_translate hm fi us lf rg md re fl fr tk bf k k2 g a z; simp only [f_P_translate, if_neg h1, if_neg h3n, if_neg h5n, if_neg h7n, if_neg h9n, if_neg h11n, if_neg h14, if_neg h16n, if_pos h18n]) (by simp only [g_P_translate_zpb, if_neg h1, if_neg h3n, if_neg h5n, if_neg h7n, if_neg h9n, if_neg h11n, if_neg h14, if_neg h16n, if_pos h18n]) d_P_translate_95
              · skip
                refine pv_bipush X (-2) d_P_translate_74 (by decide) ?_
                exact pv_iret X hr hlk (tk, cu, cv, kl, kr) (by show _ = f_P_translate hm fi us lf rg md re fl fr tk bf k k2 g a z; simp only [f_P_translate, if_neg h1, if_neg h3n, if_neg h5n, if_neg h7n, if_neg h9n, if_neg h11n, if_pos h14n]) (by simp only [g_P_translate_zpb, if_neg h1, if_neg h3n, if_neg h5n, if_neg h7n, if_neg h9n, if_neg h11n, if_pos h14n]) d_P_translate_76
  · skip
    refine pv_iconst X (-1) d_P_translate_7 (by decide) ?_
    exact pv_iret X hr hlk (tk, cu, cv, kl, kr) (by show _ = f_P_translate hm fi us lf rg md re fl fr tk bf k k2 g a z; simp only [f_P_translate, if_pos h1n]) (by simp only [g_P_translate_zpb, if_pos h1n]) d_P_translate_8
def f_P_verify (hm : Int32) (fi : Nat → Int32) (us : Nat → Int32) (lf : Nat → Int64) (rg : Nat → Int64) (md : Nat → Int32) (re : Nat → Int64) (fl : Nat → Int64) (fr : Nat → Int64) (tk : Int64) (bf : Nat → Int64) (k : Int32) (g : Int32) (a : Int64) (o : Int32) : Int32 := if hm = 0 then (-1) else (if (f_P_isKeyNumber k) = 0 then (-2) else (if (f_S_isNumber (g >>> (4 &&& 31))) = 0 then (-2) else (if (f_B_isFormat (g &&& 15)) = 0 then (-2) else (if (f_P_areDigits a 16) = 0 then (-2) else (if (f_P_areDigits o.toInt64 4) = 0 then (-2) else (if (f_P_hasKey fi md k) = 0 then (-3) else (if (fi (g >>> (4 &&& 31)).toNatClampNeg) = 0 then (-3) else (if (f_P_isPinKey us k) = 0 then (-4) else (if (us (g >>> (4 &&& 31)).toNatClampNeg) = 3 then (if (f_B_isOf (g &&& 15) (f_P_openedPinBlock (g_P_takeKey_zcl_1 lf re fl fr tk k (255 : Int64)) (g_P_takeKey_zcr_1 rg re fl fr tk k (255 : Int64)) bf (g &&& 15) a)) = 0 then (-6) else (if (f_B_lengthOf (f_P_openedPinBlock (g_P_takeKey_zcl_1 lf re fl fr tk k (255 : Int64)) (g_P_takeKey_zcr_1 rg re fl fr tk k (255 : Int64)) bf (g &&& 15) a)) = 4 then (if (f_P_isRightPin (f_B_digitsOf (f_P_openedPinBlock (g_P_takeKey_zcl_1 lf re fl fr tk k (255 : Int64)) (g_P_takeKey_zcr_1 rg re fl fr tk k (255 : Int64)) bf (g &&& 15) a) 4) (((sealB (lf (g >>> (4 &&& 31)).toNatClampNeg) (rg (g >>> (4 &&& 31)).toNatClampNeg) a).toUInt64 >>> ((48 : Int32).toInt64.toUInt64 &&& Int64.toUInt64 63)).toInt64) o.toInt64) = 0 then (-6) else 0) else (-6))) else (-4))))))))))
abbrev rm_P_verify : Room := { frames := 6, cells := 0, slots := 0, locals := 155 }
theorem mf_P_verify : MF y_P_verify b_P_verify 12 (some .int) 4 := ⟨m_424, m_1, by decide, by decide, by decide +kernel⟩
theorem d_P_verify_0 : decode b_P_verify 0 = .ok (.aload_n 0, 1) := by decide +kernel
theorem d_P_verify_1 : decode b_P_verify 1 = .ok (.getfield 51, 3) := by decide +kernel
theorem d_P_verify_4 : decode b_P_verify 4 = .ok (.ifCond .ne 5, 3) := by decide +kernel
theorem d_P_verify_7 : decode b_P_verify 7 = .ok (.iconst (-1), 1) := by decide +kernel
theorem d_P_verify_8 : decode b_P_verify 8 = .ok (.ireturn, 1) := by decide +kernel
theorem d_P_verify_9 : decode b_P_verify 9 = .ok (.iload_n 2, 1) := by decide +kernel
theorem d_P_verify_10 : decode b_P_verify 10 = .ok (.iconst 4, 1) := by decide +kernel
theorem d_P_verify_11 : decode b_P_verify 11 = .ok (.ishr, 1) := by decide +kernel
theorem d_P_verify_12 : decode b_P_verify 12 = .ok (.istore 6, 2) := by decide +kernel
theorem d_P_verify_14 : decode b_P_verify 14 = .ok (.iload_n 2, 1) := by decide +kernel
theorem d_P_verify_15 : decode b_P_verify 15 = .ok (.bipush 15, 2) := by decide +kernel
theorem d_P_verify_17 : decode b_P_verify 17 = .ok (.iand, 1) := by decide +kernel
theorem d_P_verify_18 : decode b_P_verify 18 = .ok (.istore 7, 2) := by decide +kernel
theorem d_P_verify_20 : decode b_P_verify 20 = .ok (.iload_n 1, 1) := by decide +kernel
theorem d_P_verify_21 : decode b_P_verify 21 = .ok (.invokestatic 181, 3) := by decide +kernel
theorem d_P_verify_24 : decode b_P_verify 24 = .ok (.ifCond .eq 38, 3) := by decide +kernel
theorem d_P_verify_27 : decode b_P_verify 27 = .ok (.iload 6, 2) := by decide +kernel
theorem d_P_verify_29 : decode b_P_verify 29 = .ok (.invokestatic 89, 3) := by decide +kernel
theorem d_P_verify_32 : decode b_P_verify 32 = .ok (.ifCond .eq 30, 3) := by decide +kernel
theorem d_P_verify_35 : decode b_P_verify 35 = .ok (.iload 7, 2) := by decide +kernel
theorem d_P_verify_37 : decode b_P_verify 37 = .ok (.invokestatic 191, 3) := by decide +kernel
theorem d_P_verify_40 : decode b_P_verify 40 = .ok (.ifCond .eq 22, 3) := by decide +kernel
theorem d_P_verify_43 : decode b_P_verify 43 = .ok (.lload_n 3, 1) := by decide +kernel
theorem d_P_verify_44 : decode b_P_verify 44 = .ok (.bipush 16, 2) := by decide +kernel
theorem d_P_verify_46 : decode b_P_verify 46 = .ok (.invokestatic 199, 3) := by decide +kernel
theorem d_P_verify_49 : decode b_P_verify 49 = .ok (.ifCond .eq 13, 3) := by decide +kernel
theorem d_P_verify_52 : decode b_P_verify 52 = .ok (.iload 5, 2) := by decide +kernel
theorem d_P_verify_54 : decode b_P_verify 54 = .ok (.i2l, 1) := by decide +kernel
theorem d_P_verify_55 : decode b_P_verify 55 = .ok (.iconst 4, 1) := by decide +kernel
theorem d_P_verify_56 : decode b_P_verify 56 = .ok (.invokestatic 199, 3) := by decide +kernel
theorem d_P_verify_59 : decode b_P_verify 59 = .ok (.ifCond .ne 6, 3) := by decide +kernel
theorem d_P_verify_62 : decode b_P_verify 62 = .ok (.bipush (-2), 2) := by decide +kernel
theorem d_P_verify_64 : decode b_P_verify 64 = .ok (.ireturn, 1) := by decide +kernel
theorem d_P_verify_65 : decode b_P_verify 65 = .ok (.aload_n 0, 1) := by decide +kernel
theorem d_P_verify_66 : decode b_P_verify 66 = .ok (.iload_n 1, 1) := by decide +kernel
theorem d_P_verify_67 : decode b_P_verify 67 = .ok (.invokevirtual 184, 3) := by decide +kernel
theorem d_P_verify_70 : decode b_P_verify 70 = .ok (.ifCond .eq 16, 3) := by decide +kernel
theorem d_P_verify_73 : decode b_P_verify 73 = .ok (.aload_n 0, 1) := by decide +kernel
theorem d_P_verify_74 : decode b_P_verify 74 = .ok (.getfield 20, 3) := by decide +kernel
theorem d_P_verify_77 : decode b_P_verify 77 = .ok (.getfield 93, 3) := by decide +kernel
theorem d_P_verify_80 : decode b_P_verify 80 = .ok (.iload 6, 2) := by decide +kernel
theorem d_P_verify_82 : decode b_P_verify 82 = .ok (.baload, 1) := by decide +kernel
theorem d_P_verify_83 : decode b_P_verify 83 = .ok (.ifCond .ne 6, 3) := by decide +kernel
theorem d_P_verify_86 : decode b_P_verify 86 = .ok (.bipush (-3), 2) := by decide +kernel
theorem d_P_verify_88 : decode b_P_verify 88 = .ok (.ireturn, 1) := by decide +kernel
theorem d_P_verify_89 : decode b_P_verify 89 = .ok (.aload_n 0, 1) := by decide +kernel
theorem d_P_verify_90 : decode b_P_verify 90 = .ok (.iload_n 1, 1) := by decide +kernel
theorem d_P_verify_91 : decode b_P_verify 91 = .ok (.invokevirtual 210, 3) := by decide +kernel
theorem d_P_verify_94 : decode b_P_verify 94 = .ok (.ifCond .eq 17, 3) := by decide +kernel
theorem d_P_verify_97 : decode b_P_verify 97 = .ok (.aload_n 0, 1) := by decide +kernel
theorem d_P_verify_98 : decode b_P_verify 98 = .ok (.getfield 20, 3) := by decide +kernel
theorem d_P_verify_101 : decode b_P_verify 101 = .ok (.getfield 114, 3) := by decide +kernel
theorem d_P_verify_104 : decode b_P_verify 104 = .ok (.iload 6, 2) := by decide +kernel
theorem d_P_verify_106 : decode b_P_verify 106 = .ok (.iaload, 1) := by decide +kernel
theorem d_P_verify_107 : decode b_P_verify 107 = .ok (.iconst 3, 1) := by decide +kernel
theorem d_P_verify_108 : decode b_P_verify 108 = .ok (.if_icmp .eq 6, 3) := by decide +kernel
theorem d_P_verify_111 : decode b_P_verify 111 = .ok (.bipush (-4), 2) := by decide +kernel
theorem d_P_verify_113 : decode b_P_verify 113 = .ok (.ireturn, 1) := by decide +kernel
theorem d_P_verify_114 : decode b_P_verify 114 = .ok (.aload_n 0, 1) := by decide +kernel
theorem d_P_verify_115 : decode b_P_verify 115 = .ok (.iload_n 1, 1) := by decide +kernel
theorem d_P_verify_116 : decode b_P_verify 116 = .ok (.ldc2_w 213, 3) := by decide +kernel
theorem d_P_verify_119 : decode b_P_verify 119 = .ok (.invokevirtual 187, 3) := by decide +kernel
theorem d_P_verify_122 : decode b_P_verify 122 = .ok (.aload_n 0, 1) := by decide +kernel
theorem d_P_verify_123 : decode b_P_verify 123 = .ok (.iload 7, 2) := by decide +kernel
theorem d_P_verify_125 : decode b_P_verify 125 = .ok (.lload_n 3, 1) := by decide +kernel
theorem d_P_verify_126 : decode b_P_verify 126 = .ok (.invokevirtual 218, 3) := by decide +kernel
theorem d_P_verify_129 : decode b_P_verify 129 = .ok (.lstore 8, 2) := by decide +kernel
theorem d_P_verify_131 : decode b_P_verify 131 = .ok (.iload 7, 2) := by decide +kernel
theorem d_P_verify_133 : decode b_P_verify 133 = .ok (.lload 8, 2) := by decide +kernel
theorem d_P_verify_135 : decode b_P_verify 135 = .ok (.invokestatic 222, 3) := by decide +kernel
theorem d_P_verify_138 : decode b_P_verify 138 = .ok (.ifCond .eq 12, 3) := by decide +kernel
theorem d_P_verify_141 : decode b_P_verify 141 = .ok (.lload 8, 2) := by decide +kernel
theorem d_P_verify_143 : decode b_P_verify 143 = .ok (.invokestatic 226, 3) := by decide +kernel
theorem d_P_verify_146 : decode b_P_verify 146 = .ok (.iconst 4, 1) := by decide +kernel
theorem d_P_verify_147 : decode b_P_verify 147 = .ok (.if_icmp .eq 6, 3) := by decide +kernel
theorem d_P_verify_150 : decode b_P_verify 150 = .ok (.bipush (-6), 2) := by decide +kernel
theorem d_P_verify_152 : decode b_P_verify 152 = .ok (.ireturn, 1) := by decide +kernel
theorem d_P_verify_153 : decode b_P_verify 153 = .ok (.aload_n 0, 1) := by decide +kernel
theorem d_P_verify_154 : decode b_P_verify 154 = .ok (.getfield 34, 3) := by decide +kernel
theorem d_P_verify_157 : decode b_P_verify 157 = .ok (.aload_n 0, 1) := by decide +kernel
theorem d_P_verify_158 : decode b_P_verify 158 = .ok (.getfield 20, 3) := by decide +kernel
theorem d_P_verify_161 : decode b_P_verify 161 = .ok (.getfield 100, 3) := by decide +kernel
theorem d_P_verify_164 : decode b_P_verify 164 = .ok (.iload 6, 2) := by decide +kernel
theorem d_P_verify_166 : decode b_P_verify 166 = .ok (.laload, 1) := by decide +kernel
theorem d_P_verify_167 : decode b_P_verify 167 = .ok (.aload_n 0, 1) := by decide +kernel
theorem d_P_verify_168 : decode b_P_verify 168 = .ok (.getfield 20, 3) := by decide +kernel
theorem d_P_verify_171 : decode b_P_verify 171 = .ok (.getfield 103, 3) := by decide +kernel
theorem d_P_verify_174 : decode b_P_verify 174 = .ok (.iload 6, 2) := by decide +kernel
theorem d_P_verify_176 : decode b_P_verify 176 = .ok (.laload, 1) := by decide +kernel
theorem d_P_verify_177 : decode b_P_verify 177 = .ok (.invokevirtual 77, 3) := by decide +kernel
theorem d_P_verify_180 : decode b_P_verify 180 = .ok (.aload_n 0, 1) := by decide +kernel
theorem d_P_verify_181 : decode b_P_verify 181 = .ok (.getfield 34, 3) := by decide +kernel
theorem d_P_verify_184 : decode b_P_verify 184 = .ok (.lload_n 3, 1) := by decide +kernel
theorem d_P_verify_185 : decode b_P_verify 185 = .ok (.invokevirtual 137, 3) := by decide +kernel
theorem d_P_verify_188 : decode b_P_verify 188 = .ok (.bipush 48, 2) := by decide +kernel
theorem d_P_verify_190 : decode b_P_verify 190 = .ok (.lushr, 1) := by decide +kernel
theorem d_P_verify_191 : decode b_P_verify 191 = .ok (.lstore 10, 2) := by decide +kernel
theorem d_P_verify_193 : decode b_P_verify 193 = .ok (.lload 8, 2) := by decide +kernel
theorem d_P_verify_195 : decode b_P_verify 195 = .ok (.iconst 4, 1) := by decide +kernel
theorem d_P_verify_196 : decode b_P_verify 196 = .ok (.invokestatic 229, 3) := by decide +kernel
theorem d_P_verify_199 : decode b_P_verify 199 = .ok (.lload 10, 2) := by decide +kernel
theorem d_P_verify_201 : decode b_P_verify 201 = .ok (.iload 5, 2) := by decide +kernel
theorem d_P_verify_203 : decode b_P_verify 203 = .ok (.i2l, 1) := by decide +kernel
theorem d_P_verify_204 : decode b_P_verify 204 = .ok (.invokestatic 233, 3) := by decide +kernel
theorem d_P_verify_207 : decode b_P_verify 207 = .ok (.ifCond .eq 7, 3) := by decide +kernel
theorem d_P_verify_210 : decode b_P_verify 210 = .ok (.iconst 0, 1) := by decide +kernel
theorem d_P_verify_211 : decode b_P_verify 211 = .ok (.goto 5, 3) := by decide +kernel
theorem d_P_verify_214 : decode b_P_verify 214 = .ok (.bipush (-6), 2) := by decide +kernel
theorem d_P_verify_216 : decode b_P_verify 216 = .ok (.ireturn, 1) := by decide +kernel
set_option maxRecDepth 100000 in
set_option maxHeartbeats 4000000 in
theorem c_P_verify (l : Launch) (G : Gt) (zp zph zpt zs zsf zsu zse zsl zsr zt ztm ztr ztl ztf ztd ztdq zc zcl zclq zcr zcrq zpb zpm : Nat) (hv : Nat → Int64) (ht : Nat → Int32) (hm : Int32) (ml mr : Int64) (fi us ex : Nat → Int32) (lf rg : Nat → Int64) (md : Nat → Int32) (re fl fr : Nat → Int64) (tk cu cv kl kr : Int64) (bf mg : Nat → Int64) (k g : Int32) (a : Int64) (o : Int32) (hfi : ∀ j, Bo (fi j)) (hmd : ∀ j, Bo (md j)) : CtI l G y_P_verify b_P_verify 12 (some .int) rm_P_verify Sx [.ref zp, .int k, .int g, .long a, .int o] [ob zp 0 [.ref zph, .ref zpt, .int hm, .long ml, .long mr, .ref zs, .ref zt, .ref zc, .ref zpb, .ref zpm], aJ G zph 6 hv, aZ G zpt 6 ht, ob zs 1 [.ref zsf, .ref zsu, .ref zse, .ref zsl, .ref zsr], aZ G zsf 16 fi, aI G zsu 16 us, aZ G zse 16 ex, aJ G zsl 16 lf, aJ G zsr 16 rg, ob zt 2 [.ref ztm, .ref ztr, .ref ztl, .ref ztf, .ref ztd, .long cu, .long cv], aZ G ztm 8 md, aJ G ztr 8 re, aJ G ztl 8 fl, aJ G ztf 8 fr, ob ztd 4 [.ref ztdq, .long tk], aJ G ztdq 16 (rkF tk), ob zc 3 [.ref zcl, .ref zcr], ob zcl 4 [.ref zclq, .long kl], aJ G zclq 16 (rkF kl), ob zcr 4 [.ref zcrq, .long kr], aJ G zcrq 16 (rkF kr), aJ G zpb 5 bf, aJ G zpm 8 mg] (fun r (_ : Int64 × Int64 × Int64 × Int64 × Int64) => r = f_P_verify hm fi us lf rg md re fl fr tk bf k g a o) (fun x => [ob zp 0 [.ref zph, .ref zpt, .int hm, .long ml, .long mr, .ref zs, .ref zt, .ref zc, .ref zpb, .ref zpm], aJ G zph 6 hv, aZ G zpt 6 ht, ob zs 1 [.ref zsf, .ref zsu, .ref zse, .ref zsl, .ref zsr], aZ G zsf 16 fi, aI G zsu 16 us, aZ G zse 16 ex, aJ G zsl 16 lf, aJ G zsr 16 rg, ob zt 2 [.ref ztm, .ref ztr, .ref ztl, .ref ztf, .ref ztd, .long x.2.1, .long x.2.2.1], aZ G ztm 8 md, aJ G ztr 8 re, aJ G ztl 8 fl, aJ G ztf 8 fr, ob ztd 4 [.ref ztdq, .long x.1], aJ G ztdq 16 (rkF x.1), ob zc 3 [.ref zcl, .ref zcr], ob zcl 4 [.ref zclq, .long x.2.2.2.1], aJ G zclq 16 (rkF x.2.2.2.1), ob zcr 4 [.ref zcrq, .long x.2.2.2.2], aJ G zcrq 16 (rkF x.2.2.2.2), aJ G zpb 5 bf, aJ G zpm 8 mg]) 0 0 := by
  refine Ct.of (Qp := fun A => va_Qi _ (qB G A _) A) Sx_stb (by decide) (Nat.le_of_ble_eq_true rfl) ?_
  intro p e s m args below meth c A X hE hr hlk hini
  refine pv_eql (ll2 := [(0, .ref zp), (1, .int k), (2, .int g), (3, .long a), (5, .int o)]) rfl ?_
  refine pv_aload_n X 0 d_P_verify_0 rfl ?_
  refine pv_get X 0 2 u_P_in m_117 rfl rfl (by decide) ⟨rfl, rfl, rfl⟩ rfl d_P_verify_1 ?_
  refine pv_if_ne X 9 d_P_verify_4 rfl (fun h1 => ?_) (fun h1n => ?_)
  · skip
    refine pv_iload_n X 2 d_P_verify_9 rfl ?_
    refine pv_iconst X 4 d_P_verify_10 (by decide) ?_
    refine pv_ishr X d_P_verify_11 ?_
    refine pv_istore (ll2 := [(6, .int (g >>> (4 &&& 31))), (0, .ref zp), (1, .int k), (2, .int g), (3, .long a), (5, .int o)]) X d_P_verify_12 (by decide) rfl ?_
    refine pv_iload_n X 3 d_P_verify_14 rfl ?_
    refine pv_bipush X 15 d_P_verify_15 (by decide) ?_
    refine pv_iand X d_P_verify_17 ?_
    refine pv_istore (ll2 := [(7, .int (g &&& 15)), (6, .int (g >>> (4 &&& 31))), (0, .ref zp), (1, .int k), (2, .int g), (3, .long a), (5, .int o)]) X d_P_verify_18 (by decide) rfl ?_
    refine pv_iload_n X 3 d_P_verify_20 rfl ?_
    refine pv_calli0 X (rn_S X (c_P_isKeyNumber l G k) trivial mf_P_isKeyNumber m_340 m_341 rfl (by decide) (by decide) rfl (Nat.le_of_ble_eq_true rfl) d_P_verify_21) ?_
    refine pv_if_eq X 62 d_P_verify_24 rfl (fun h3 => ?_) (fun h3n => ?_)
    · skip
      refine pv_bipush X (-2) d_P_verify_62 (by decide) ?_
      exact pv_iret X hr hlk (tk, cu, cv, kl, kr) (by show _ = f_P_verify hm fi us lf rg md re fl fr tk bf k g a o; simp only [f_P_verify, if_neg h1, if_pos h3]) rfl d_P_verify_64
    · skip
      refine pv_iload X 1 d_P_verify_27 rfl ?_
      refine pv_calli0 X (rn_S X (c_S_isNumber l G (g >>> (4 &&& 31))) trivial mf_S_isNumber m_150 m_151 rfl (by decide) (by decide) rfl (Nat.le_of_ble_eq_true rfl) d_P_verify_29) ?_
      refine pv_if_eq X 62 d_P_verify_32 rfl (fun h5 => ?_) (fun h5n => ?_)
      · skip
        refine pv_bipush X (-2) d_P_verify_62 (by decide) ?_
        exact pv_iret X hr hlk (tk, cu, cv, kl, kr) (by show _ = f_P_verify hm fi us lf rg md re fl fr tk bf k g a o; simp only [f_P_verify, if_neg h1, if_neg h3n, if_pos h5]) rfl d_P_verify_64
      · skip
        refine pv_iload X 0 d_P_verify_35 rfl ?_
        refine pv_calli0 X (rn_S X (c_B_isFormat l G (g &&& 15)) trivial mf_B_isFormat m_365 m_366 rfl (by decide) (by decide) rfl (Nat.le_of_ble_eq_true rfl) d_P_verify_37) ?_
        refine pv_if_eq X 62 d_P_verify_40 rfl (fun h7 => ?_) (fun h7n => ?_)
        · skip
          refine pv_bipush X (-2) d_P_verify_62 (by decide) ?_
          exact pv_iret X hr hlk (tk, cu, cv, kl, kr) (by show _ = f_P_verify hm fi us lf rg md re fl fr tk bf k g a o; simp only [f_P_verify, if_neg h1, if_neg h3n, if_neg h5n, if_pos h7]) rfl d_P_verify_64
        · skip
          refine pv_lload_n X 5 d_P_verify_43 rfl ?_
          refine pv_bipush X 16 d_P_verify_44 (by decide) ?_
          refine pv_calli0 X (rn_S X (c_P_areDigits l G a 16) trivial mf_P_areDigits m_371 m_372 rfl (by decide) (by decide) rfl (Nat.le_of_ble_eq_true rfl) d_P_verify_46) ?_
          refine pv_if_eq X 62 d_P_verify_49 rfl (fun h9 => ?_) (fun h9n => ?_)
          · skip
            refine pv_bipush X (-2) d_P_verify_62 (by decide) ?_
            exact pv_iret X hr hlk (tk, cu, cv, kl, kr) (by show _ = f_P_verify hm fi us lf rg md re fl fr tk bf k g a o; simp only [f_P_verify, if_neg h1, if_neg h3n, if_neg h5n, if_neg h7n, if_pos h9]) rfl d_P_verify_64
          · skip
            refine pv_iload X 6 d_P_verify_52 rfl ?_
            refine pv_i2l X d_P_verify_54 ?_
            refine pv_iconst X 4 d_P_verify_55 (by decide) ?_
            refine pv_calli0 X (rn_S X (c_P_areDigits l G o.toInt64 4) trivial mf_P_areDigits m_371 m_372 rfl (by decide) (by decide) rfl (Nat.le_of_ble_eq_true rfl) d_P_verify_56) ?_
            refine pv_if_ne X 65 d_P_verify_59 rfl (fun h11 => ?_) (fun h11n => ?_)
            · skip
              refine pv_aload_n X 2 d_P_verify_65 rfl ?_
              refine pv_iload_n X 3 d_P_verify_66 rfl ?_
              refine pv_calliE X (Cut.all _) (rn_V X (c_P_hasKey l G zp zph zpt zs zsf zsu zse zsl zsr zt ztm ztr ztl ztf ztd ztdq zc zcl zclq zcr zcrq zpb zpm hv ht hm ml mr fi us ex lf rg md re fl fr tk cu cv kl kr bf mg k h3n hfi hmd) hE mf_P_hasKey m_343 m_345 ms_4 rfl 0 rfl rfl rfl (by decide) (by decide) rfl (Nat.le_of_ble_eq_true rfl) d_P_verify_67) (fun x12 => ?_)
              refine pv_eqw (ws2 := [ob zp 0 [.ref zph, .ref zpt, .int hm, .long ml, .long mr, .ref zs, .ref zt, .ref zc, .ref zpb, .ref zpm], aJ G zph 6 hv, aZ G zpt 6 ht, ob zs 1 [.ref zsf, .ref zsu, .ref zse, .ref zsl, .ref zsr], aZ G zsf 16 fi, aI G zsu 16 us, aZ G zse 16 ex, aJ G zsl 16 lf, aJ G zsr 16 rg, ob zt 2 [.ref ztm, .ref ztr, .ref ztl, .ref ztf, .ref ztd, .long cu, .long cv], aZ G ztm 8 md, aJ G ztr 8 re, aJ G ztl 8 fl, aJ G ztf 8 fr, ob ztd 4 [.ref ztdq, .long tk], aJ G ztdq 16 (rkF tk), ob zc 3 [.ref zcl, .ref zcr], ob zcl 4 [.ref zclq, .long kl], aJ G zclq 16 (rkF kl), ob zcr 4 [.ref zcrq, .long kr], aJ G zcrq 16 (rkF kr), aJ G zpb 5 bf, aJ G zpm 8 mg]) rfl ?_
              refine pv_if_eq X 86 d_P_verify_70 rfl (fun h13 => ?_) (fun h13n => ?_)
              · skip
                refine pv_bipush X (-3) d_P_verify_86 (by decide) ?_
                exact pv_iret X hr hlk (tk, cu, cv, kl, kr) (by show _ = f_P_verify hm fi us lf rg md re fl fr tk bf k g a o; simp only [f_P_verify, if_neg h1, if_neg h3n, if_neg h5n, if_neg h7n, if_neg h9n, if_neg h11, if_pos h13]) rfl d_P_verify_88
              · skip
                refine pv_aload_n X 2 d_P_verify_73 rfl ?_
                refine pv_get X 0 5 u_P_in m_120 rfl rfl (by decide) ⟨rfl, rfl, rfl⟩ rfl d_P_verify_74 ?_
                refine pv_get X 3 0 u_S_in m_31 rfl rfl (by decide) ⟨rfl, rfl, rfl⟩ rfl d_P_verify_77 ?_
                refine pv_iload X 1 d_P_verify_80 rfl ?_
                refine pv_zald X 4 rfl (S_in h5n) d_P_verify_82 ?_
                refine pv_if_ne X 89 d_P_verify_83 rfl (fun h14 => ?_) (fun h14n => ?_)
                · skip
                  refine pv_aload_n X 2 d_P_verify_89 rfl ?_
                  refine pv_iload_n X 3 d_P_verify_90 rfl ?_
                  refine pv_calliE X (Cut.all _) (rn_V X (c_P_isPinKey l G zp zph zpt zs zsf zsu zse zsl zsr zt ztm ztr ztl ztf ztd ztdq zc zcl zclq zcr zcrq zpb zpm hv ht hm ml mr fi us ex lf rg md re fl fr tk cu cv kl kr bf mg k h3n) hE mf_P_isPinKey m_386 m_388 ms_7 rfl 0 rfl rfl rfl (by decide) (by decide) rfl (Nat.le_of_ble_eq_true rfl) d_P_verify_91) (fun x15 => ?_)
                  refine pv_eqw (ws2 := [ob zp 0 [.ref zph, .ref zpt, .int hm, .long ml, .long mr, .ref zs, .ref zt, .ref zc, .ref zpb, .ref zpm], aJ G zph 6 hv, aZ G zpt 6 ht, ob zs 1 [.ref zsf, .ref zsu, .ref zse, .ref zsl, .ref zsr], aZ G zsf 16 fi, aI G zsu 16 us, aZ G zse 16 ex, aJ G zsl 16 lf, aJ G zsr 16 rg, ob zt 2 [.ref ztm, .ref ztr, .ref ztl, .ref ztf, .ref ztd, .long cu, .long cv], aZ G ztm 8 md, aJ G ztr 8 re, aJ G ztl 8 fl, aJ G ztf 8 fr, ob ztd 4 [.ref ztdq, .long tk], aJ G ztdq 16 (rkF tk), ob zc 3 [.ref zcl, .ref zcr], ob zcl 4 [.ref zclq, .long kl], aJ G zclq 16 (rkF kl), ob zcr 4 [.ref zcrq, .long kr], aJ G zcrq 16 (rkF kr), aJ G zpb 5 bf, aJ G zpm 8 mg]) rfl ?_
                  refine pv_if_eq X 111 d_P_verify_94 rfl (fun h16 => ?_) (fun h16n => ?_)
                  · skip
                    refine pv_bipush X (-4) d_P_verify_111 (by decide) ?_
                    exact pv_iret X hr hlk (tk, cu, cv, kl, kr) (by show _ = f_P_verify hm fi us lf rg md re fl fr tk bf k g a o; simp only [f_P_verify, if_neg h1, if_neg h3n, if_neg h5n, if_neg h7n, if_neg h9n, if_neg h11, if_neg h13n, if_neg h14, if_pos h16]) rfl d_P_verify_113
                  · skip
                    refine pv_aload_n X 2 d_P_verify_97 rfl ?_
                    refine pv_get X 0 5 u_P_in m_120 rfl rfl (by decide) ⟨rfl, rfl, rfl⟩ rfl d_P_verify_98 ?_
                    refine pv_get X 3 1 u_S_in m_33 rfl rfl (by decide) ⟨rfl, rfl, rfl⟩ rfl d_P_verify_101 ?_
                    refine pv_iload X 1 d_P_verify_104 rfl ?_
                    refine pv_iald X 5 rfl (S_in h5n) d_P_verify_106 ?_
                    refine pv_iconst X 3 d_P_verify_107 (by decide) ?_
                    refine pv_icmp_eq X 114 d_P_verify_108 rfl (fun h17 => ?_) (fun h17n => ?_)
                    · skip
                      refine pv_aload_n X 2 d_P_verify_114 rfl ?_
                      refine pv_iload_n X 3 d_P_verify_115 rfl ?_
                      refine pv_ldc2_w X m_156 d_P_verify_116 ?_
                      refine pv_callv X (Cut.all _) (rn_V X (c_P_takeKey l G zp zph zpt zs zsf zsu zse zsl zsr zt ztm ztr ztl ztf ztd ztdq zc zcl zclq zcr zcrq zpb zpm hv ht hm ml mr fi us ex lf rg md re fl fr tk cu cv kl kr bf mg k (255 : Int64) h3n) hE mf_P_takeKey m_347 m_349 ms_5 rfl 0 rfl rfl rfl (by decide) (by decide) rfl (Nat.le_of_ble_eq_true rfl) d_P_verify_119) (fun x18 e18 => ?_)
                      refine pv_eqw (ws2 := [ob zp 0 [.ref zph, .ref zpt, .int hm, .long ml, .long mr, .ref zs, .ref zt, .ref zc, .ref zpb, .ref zpm], aJ G zph 6 hv, aZ G zpt 6 ht, ob zs 1 [.ref zsf, .ref zsu, .ref zse, .ref zsl, .ref zsr], aZ G zsf 16 fi, aI G zsu 16 us, aZ G zse 16 ex, aJ G zsl 16 lf, aJ G zsr 16 rg, ob zt 2 [.ref ztm, .ref ztr, .ref ztl, .ref ztf, .ref ztd, .long (g_P_takeKey_zt_5 re fl fr tk cu k), .long (g_P_takeKey_zt_6 re fl fr tk cv k)], aZ G ztm 8 md, aJ G ztr 8 re, aJ G ztl 8 fl, aJ G ztf 8 fr, ob ztd 4 [.ref ztdq, .long (g_P_takeKey_ztd_1 re fl fr tk k)], aJ G ztdq 16 (rkF (g_P_takeKey_ztd_1 re fl fr tk k)), ob zc 3 [.ref zcl, .ref zcr], ob zcl 4 [.ref zclq, .long (g_P_takeKey_zcl_1 lf re fl fr tk k (255 : Int64))], aJ G zclq 16 (rkF (g_P_takeKey_zcl_1 lf re fl fr tk k (255 : Int64))), ob zcr 4 [.ref zcrq, .long (g_P_takeKey_zcr_1 rg re fl fr tk k (255 : Int64))], aJ G zcrq 16 (rkF (g_P_takeKey_zcr_1 rg re fl fr tk k (255 : Int64))), aJ G zpb 5 bf, aJ G zpm 8 mg]) rfl ?_
                      refine pv_aload_n X 2 d_P_verify_122 rfl ?_
                      refine pv_iload X 0 d_P_verify_123 rfl ?_
                      refine pv_lload_n X 5 d_P_verify_125 rfl ?_
                      refine pv_calllE X (Cut.all _) (rn_V X (c_P_openedPinBlock l G zp zph zpt zs zsf zsu zse zsl zsr zt ztm ztr ztl ztf ztd ztdq zc zcl zclq zcr zcrq zpb zpm hv ht hm ml mr fi us ex lf rg md re fl fr (g_P_takeKey_ztd_1 re fl fr tk k) (g_P_takeKey_zt_5 re fl fr tk cu k) (g_P_takeKey_zt_6 re fl fr tk cv k) (g_P_takeKey_zcl_1 lf re fl fr tk k (255 : Int64)) (g_P_takeKey_zcr_1 rg re fl fr tk k (255 : Int64)) bf mg (g &&& 15) a ) hE mf_P_openedPinBlock m_403 m_405 ms_8 rfl 0 rfl rfl rfl (by decide) (by decide) rfl (Nat.le_of_ble_eq_true rfl) d_P_verify_126) (fun x19 => ?_)
                      refine pv_eqw (ws2 := [ob zp 0 [.ref zph, .ref zpt, .int hm, .long ml, .long mr, .ref zs, .ref zt, .ref zc, .ref zpb, .ref zpm], aJ G zph 6 hv, aZ G zpt 6 ht, ob zs 1 [.ref zsf, .ref zsu, .ref zse, .ref zsl, .ref zsr], aZ G zsf 16 fi, aI G zsu 16 us, aZ G zse 16 ex, aJ G zsl 16 lf, aJ G zsr 16 rg, ob zt 2 [.ref ztm, .ref ztr, .ref ztl, .ref ztf, .ref ztd, .long (g_P_takeKey_zt_5 re fl fr tk cu k), .long (g_P_takeKey_zt_6 re fl fr tk cv k)], aZ G ztm 8 md, aJ G ztr 8 re, aJ G ztl 8 fl, aJ G ztf 8 fr, ob ztd 4 [.ref ztdq, .long (g_P_takeKey_ztd_1 re fl fr tk k)], aJ G ztdq 16 (rkF (g_P_takeKey_ztd_1 re fl fr tk k)), ob zc 3 [.ref zcl, .ref zcr], ob zcl 4 [.ref zclq, .long (g_P_takeKey_zcl_1 lf re fl fr tk k (255 : Int64))], aJ G zclq 16 (rkF (g_P_takeKey_zcl_1 lf re fl fr tk k (255 : Int64))), ob zcr 4 [.ref zcrq, .long (g_P_takeKey_zcr_1 rg re fl fr tk k (255 : Int64))], aJ G zcrq 16 (rkF (g_P_takeKey_zcr_1 rg re fl fr tk k (255 : Int64))), aJ G zpb 5 bf, aJ G zpm 8 mg]) rfl ?_
                      refine pv_lstore (ll2 := [(8, .long (f_P_openedPinBlock (g_P_takeKey_zcl_1 lf re fl fr tk k (255 : Int64)) (g_P_takeKey_zcr_1 rg re fl fr tk k (255 : Int64)) bf (g &&& 15) a)), (7, .int (g &&& 15)), (6, .int (g >>> (4 &&& 31))), (0, .ref zp), (1, .int k), (2, .int g), (3, .long a), (5, .int o)]) X d_P_verify_129 (by decide) rfl ?_
                      refine pv_iload X 1 d_P_verify_131 rfl ?_
                      refine pv_lload X 0 d_P_verify_133 rfl ?_
                      refine pv_calli0 X (rn_S X (c_B_isOf l G (g &&& 15) (f_P_openedPinBlock (g_P_takeKey_zcl_1 lf re fl fr tk k (255 : Int64)) (g_P_takeKey_zcr_1 rg re fl fr tk k (255 : Int64)) bf (g &&& 15) a)) hE mf_B_isOf m_408 m_409 rfl (by decide) (by decide) rfl (Nat.le_of_ble_eq_true rfl) d_P_verify_135) ?_
                      refine pv_if_eq X 150 d_P_verify_138 rfl (fun h21 => ?_) (fun h21n => ?_)
                      · skip
                        refine pv_bipush X (-6) d_P_verify_150 (by decide) ?_
                        exact pv_iret X hr hlk (g_P_takeKey_ztd_1 re fl fr tk k, g_P_takeKey_zt_5 re fl fr tk cu k, g_P_takeKey_zt_6 re fl fr tk cv k, g_P_takeKey_zcl_1 lf re fl fr tk k (255 : Int64), g_P_takeKey_zcr_1 rg re fl fr tk k (255 : Int64)) (by show _ = f_P_verify hm fi us lf rg md re fl fr tk bf k g a o; simp only [f_P_verify, if_neg h1, if_neg h3n, if_neg h5n, if_neg h7n, if_neg h9n, if_neg h11, if_neg h13n, if_neg h14, if_neg h16n, if_pos h17, if_pos h21]) rfl d_P_verify_152
                      · skip
                        refine pv_lload X 0 d_P_verify_141 rfl ?_
                        refine pv_calli0 X (rn_S X (c_B_lengthOf l G (f_P_openedPinBlock (g_P_takeKey_zcl_1 lf re fl fr tk k (255 : Int64)) (g_P_takeKey_zcr_1 rg re fl fr tk k (255 : Int64)) bf (g &&& 15) a)) trivial mf_B_lengthOf m_419 m_412 rfl (by decide) (by decide) rfl (Nat.le_of_ble_eq_true rfl) d_P_verify_143) ?_
                        refine pv_iconst X 4 d_P_verify_146 (by decide) ?_
                        refine pv_icmp_eq X 153 d_P_verify_147 rfl (fun h23 => ?_) (fun h23n => ?_)
                        · skip
                          refine pv_aload_n X 3 d_P_verify_153 rfl ?_
                          refine pv_get X 0 7 u_P_in m_122 rfl rfl (by decide) ⟨rfl, rfl, rfl⟩ rfl d_P_verify_154 ?_
                          refine pv_aload_n X 3 d_P_verify_157 rfl ?_
                          refine pv_get X 0 5 u_P_in m_120 rfl rfl (by decide) ⟨rfl, rfl, rfl⟩ rfl d_P_verify_158 ?_
                          refine pv_get X 3 3 u_S_in m_37 rfl rfl (by decide) ⟨rfl, rfl, rfl⟩ rfl d_P_verify_161 ?_
                          refine pv_iload X 2 d_P_verify_164 rfl ?_
                          refine pv_lald X 7 rfl (S_in h5n) d_P_verify_166 ?_
                          refine pv_aload_n X 3 d_P_verify_167 rfl ?_
                          refine pv_get X 0 5 u_P_in m_120 rfl rfl (by decide) ⟨rfl, rfl, rfl⟩ rfl d_P_verify_168 ?_
                          refine pv_get X 3 4 u_S_in m_39 rfl rfl (by decide) ⟨rfl, rfl, rfl⟩ rfl d_P_verify_171 ?_
                          refine pv_iload X 2 d_P_verify_174 rfl ?_
                          refine pv_lald X 8 rfl (S_in h5n) d_P_verify_176 ?_
                          refine pv_callv X (Cut.mk (w0 := [ob zc 3 [.ref zcl, .ref zcr], ob zcl 4 [.ref zclq, .long (g_P_takeKey_zcl_1 lf re fl fr tk k (255 : Int64))], aJ G zclq 16 (rkF (g_P_takeKey_zcl_1 lf re fl fr tk k (255 : Int64))), ob zcr 4 [.ref zcrq, .long (g_P_takeKey_zcr_1 rg re fl fr tk k (255 : Int64))], aJ G zcrq 16 (rkF (g_P_takeKey_zcr_1 rg re fl fr tk k (255 : Int64)))]) (wr := [ob zp 0 [.ref zph, .ref zpt, .int hm, .long ml, .long mr, .ref zs, .ref zt, .ref zc, .ref zpb, .ref zpm], aJ G zph 6 hv, aZ G zpt 6 ht, ob zs 1 [.ref zsf, .ref zsu, .ref zse, .ref zsl, .ref zsr], aZ G zsf 16 fi, aI G zsu 16 us, aZ G zse 16 ex, aJ G zsl 16 lf, aJ G zsr 16 rg, ob zt 2 [.ref ztm, .ref ztr, .ref ztl, .ref ztf, .ref ztd, .long (g_P_takeKey_zt_5 re fl fr tk cu k), .long (g_P_takeKey_zt_6 re fl fr tk cv k)], aZ G ztm 8 md, aJ G ztr 8 re, aJ G ztl 8 fl, aJ G ztf 8 fr, ob ztd 4 [.ref ztdq, .long (g_P_takeKey_ztd_1 re fl fr tk k)], aJ G ztdq 16 (rkF (g_P_takeKey_ztd_1 re fl fr tk k)), aJ G zpb 5 bf, aJ G zpm 8 mg]) [16, 17, 18, 19, 20] [0, 1, 2, 3, 4, 5, 6, 7, 8, 9, 10, 11, 12, 13, 14, 15, 21, 22] rfl rfl rfl rfl rfl) (rn_V X (c_C_take l G zc zcl zclq zcr zcrq (g_P_takeKey_zcl_1 lf re fl fr tk k (255 : Int64)) (g_P_takeKey_zcr_1 rg re fl fr tk k (255 : Int64)) (lf (g >>> (4 &&& 31)).toNatClampNeg) (rg (g >>> (4 &&& 31)).toNatClampNeg)) hE mf_C_take m_167 m_168 m_169 rfl 0 rfl rfl rfl (by decide) (by decide) rfl (Nat.le_of_ble_eq_true rfl) d_P_verify_177) (fun x24 e24 => ?_)
                          refine pv_ord (ws2 := [ob zp 0 [.ref zph, .ref zpt, .int hm, .long ml, .long mr, .ref zs, .ref zt, .ref zc, .ref zpb, .ref zpm], aJ G zph 6 hv, aZ G zpt 6 ht, ob zs 1 [.ref zsf, .ref zsu, .ref zse, .ref zsl, .ref zsr], aZ G zsf 16 fi, aI G zsu 16 us, aZ G zse 16 ex, aJ G zsl 16 lf, aJ G zsr 16 rg, ob zt 2 [.ref ztm, .ref ztr, .ref ztl, .ref ztf, .ref ztd, .long (g_P_takeKey_zt_5 re fl fr tk cu k), .long (g_P_takeKey_zt_6 re fl fr tk cv k)], aZ G ztm 8 md, aJ G ztr 8 re, aJ G ztl 8 fl, aJ G ztf 8 fr, ob ztd 4 [.ref ztdq, .long (g_P_takeKey_ztd_1 re fl fr tk k)], aJ G ztdq 16 (rkF (g_P_takeKey_ztd_1 re fl fr tk k)), ob zc 3 [.ref zcl, .ref zcr], ob zcl 4 [.ref zclq, .long (lf (g >>> (4 &&& 31)).toNatClampNeg)], aJ G zclq 16 (rkF (lf (g >>> (4 &&& 31)).toNatClampNeg)), ob zcr 4 [.ref zcrq, .long (rg (g >>> (4 &&& 31)).toNatClampNeg)], aJ G zcrq 16 (rkF (rg (g >>> (4 &&& 31)).toNatClampNeg)), aJ G zpb 5 bf, aJ G zpm 8 mg]) [0, 1, 2, 3, 4, 5, 6, 7, 8, 9, 10, 11, 12, 13, 14, 15, 18, 19, 20, 21, 22, 16, 17] rfl rfl ?_
                          refine pv_aload_n X 3 d_P_verify_180 rfl ?_
                          refine pv_get X 0 7 u_P_in m_122 rfl rfl (by decide) ⟨rfl, rfl, rfl⟩ rfl d_P_verify_181 ?_
                          refine pv_lload_n X 6 d_P_verify_184 rfl ?_
                          refine pv_calllE X (Cut.mk (w0 := [ob zc 3 [.ref zcl, .ref zcr], ob zcl 4 [.ref zclq, .long (lf (g >>> (4 &&& 31)).toNatClampNeg)], aJ G zclq 16 (rkF (lf (g >>> (4 &&& 31)).toNatClampNeg)), ob zcr 4 [.ref zcrq, .long (rg (g >>> (4 &&& 31)).toNatClampNeg)], aJ G zcrq 16 (rkF (rg (g >>> (4 &&& 31)).toNatClampNeg))]) (wr := [ob zp 0 [.ref zph, .ref zpt, .int hm, .long ml, .long mr, .ref zs, .ref zt, .ref zc, .ref zpb, .ref zpm], aJ G zph 6 hv, aZ G zpt 6 ht, ob zs 1 [.ref zsf, .ref zsu, .ref zse, .ref zsl, .ref zsr], aZ G zsf 16 fi, aI G zsu 16 us, aZ G zse 16 ex, aJ G zsl 16 lf, aJ G zsr 16 rg, ob zt 2 [.ref ztm, .ref ztr, .ref ztl, .ref ztf, .ref ztd, .long (g_P_takeKey_zt_5 re fl fr tk cu k), .long (g_P_takeKey_zt_6 re fl fr tk cv k)], aZ G ztm 8 md, aJ G ztr 8 re, aJ G ztl 8 fl, aJ G ztf 8 fr, ob ztd 4 [.ref ztdq, .long (g_P_takeKey_ztd_1 re fl fr tk k)], aJ G ztdq 16 (rkF (g_P_takeKey_ztd_1 re fl fr tk k)), aJ G zpb 5 bf, aJ G zpm 8 mg]) [16, 17, 18, 19, 20] [0, 1, 2, 3, 4, 5, 6, 7, 8, 9, 10, 11, 12, 13, 14, 15, 21, 22] rfl rfl rfl rfl rfl) (rn_V X (c_C_sealBlock l G zc zcl zclq zcr zcrq (lf (g >>> (4 &&& 31)).toNatClampNeg) (rg (g >>> (4 &&& 31)).toNatClampNeg) a) hE mf_C_sealBlock m_255 m_193 m_194 rfl 0 rfl rfl rfl (by decide) (by decide) rfl (Nat.le_of_ble_eq_true rfl) d_P_verify_185) (fun x25 => ?_)
                          refine pv_ord (ws2 := [ob zp 0 [.ref zph, .ref zpt, .int hm, .long ml, .long mr, .ref zs, .ref zt, .ref zc, .ref zpb, .ref zpm], aJ G zph 6 hv, aZ G zpt 6 ht, ob zs 1 [.ref zsf, .ref zsu, .ref zse, .ref zsl, .ref zsr], aZ G zsf 16 fi, aI G zsu 16 us, aZ G zse 16 ex, aJ G zsl 16 lf, aJ G zsr 16 rg, ob zt 2 [.ref ztm, .ref ztr, .ref ztl, .ref ztf, .ref ztd, .long (g_P_takeKey_zt_5 re fl fr tk cu k), .long (g_P_takeKey_zt_6 re fl fr tk cv k)], aZ G ztm 8 md, aJ G ztr 8 re, aJ G ztl 8 fl, aJ G ztf 8 fr, ob ztd 4 [.ref ztdq, .long (g_P_takeKey_ztd_1 re fl fr tk k)], aJ G ztdq 16 (rkF (g_P_takeKey_ztd_1 re fl fr tk k)), ob zc 3 [.ref zcl, .ref zcr], ob zcl 4 [.ref zclq, .long (lf (g >>> (4 &&& 31)).toNatClampNeg)], aJ G zclq 16 (rkF (lf (g >>> (4 &&& 31)).toNatClampNeg)), ob zcr 4 [.ref zcrq, .long (rg (g >>> (4 &&& 31)).toNatClampNeg)], aJ G zcrq 16 (rkF (rg (g >>> (4 &&& 31)).toNatClampNeg)), aJ G zpb 5 bf, aJ G zpm 8 mg]) [0, 1, 2, 3, 4, 5, 6, 7, 8, 9, 10, 11, 12, 13, 14, 15, 18, 19, 20, 21, 22, 16, 17] rfl rfl ?_
                          refine pv_bipush X 48 d_P_verify_188 (by decide) ?_
                          refine pv_lushr X d_P_verify_190 ?_
                          refine pv_lstore (ll2 := [(10, .long (((sealB (lf (g >>> (4 &&& 31)).toNatClampNeg) (rg (g >>> (4 &&& 31)).toNatClampNeg) a).toUInt64 >>> ((48 : Int32).toInt64.toUInt64 &&& Int64.toUInt64 63)).toInt64)), (8, .long (f_P_openedPinBlock (g_P_takeKey_zcl_1 lf re fl fr tk k (255 : Int64)) (g_P_takeKey_zcr_1 rg re fl fr tk k (255 : Int64)) bf (g &&& 15) a)), (7, .int (g &&& 15)), (6, .int (g >>> (4 &&& 31))), (0, .ref zp), (1, .int k), (2, .int g), (3, .long a), (5, .int o)]) X d_P_verify_191 (by decide) rfl ?_
                          refine pv_lload X 1 d_P_verify_193 rfl ?_
                          refine pv_iconst X 4 d_P_verify_195 (by decide) ?_
                          refine pv_calll0 X (rn_S X (c_B_digitsOf l G (f_P_openedPinBlock (g_P_takeKey_zcl_1 lf re fl fr tk k (255 : Int64)) (g_P_takeKey_zcr_1 rg re fl fr tk k (255 : Int64)) bf (g &&& 15) a) 4) trivial mf_B_digitsOf m_420 m_416 rfl (by decide) (by decide) rfl (Nat.le_of_ble_eq_true rfl) d_P_verify_196) ?_
                          refine pv_lload X 0 d_P_verify_199 rfl ?_
                          refine pv_iload X 8 d_P_verify_201 rfl ?_
                          refine pv_i2l X d_P_verify_203 ?_
                          refine pv_calli0 X (rn_S X (c_P_isRightPin l G (f_B_digitsOf (f_P_openedPinBlock (g_P_takeKey_zcl_1 lf re fl fr tk k (255 : Int64)) (g_P_takeKey_zcr_1 rg re fl fr tk k (255 : Int64)) bf (g &&& 15) a) 4) (((sealB (lf (g >>> (4 &&& 31)).toNatClampNeg) (rg (g >>> (4 &&& 31)).toNatClampNeg) a).toUInt64 >>> ((48 : Int32).toInt64.toUInt64 &&& Int64.toUInt64 63)).toInt64) o.toInt64) trivial mf_P_isRightPin m_425 m_426 rfl (by decide) (by decide) rfl (Nat.le_of_ble_eq_true rfl) d_P_verify_204) ?_
                          refine pv_if_eq X 214 d_P_verify_207 rfl (fun h28 => ?_) (fun h28n => ?_)
                          · skip
                            refine pv_bipush X (-6) d_P_verify_214 (by decide) ?_
                            exact pv_iret X hr hlk (g_P_takeKey_ztd_1 re fl fr tk k, g_P_takeKey_zt_5 re fl fr tk cu k, g_P_takeKey_zt_6 re fl fr tk cv k, lf (g >>> (4 &&& 31)).toNatClampNeg, rg (g >>> (4 &&& 31)).toNatClampNeg) (by show _ = f_P_verify hm fi us lf rg md re fl fr tk bf k g a o; simp only [f_P_verify, if_neg h1, if_neg h3n, if_neg h5n, if_neg h7n, if_neg h9n, if_neg h11, if_neg h13n, if_neg h14, if_neg h16n, if_pos h17, if_neg h21n, if_pos h23, if_pos h28]) rfl d_P_verify_216
                          · skip
                            refine pv_iconst X 0 d_P_verify_210 (by decide) ?_
                            refine pv_goto X 216 d_P_verify_211 rfl ?_
                            exact pv_iret X hr hlk (g_P_takeKey_ztd_1 re fl fr tk k, g_P_takeKey_zt_5 re fl fr tk cu k, g_P_takeKey_zt_6 re fl fr tk cv k, lf (g >>> (4 &&& 31)).toNatClampNeg, rg (g >>> (4 &&& 31)).toNatClampNeg) (by show _ = f_P_verify hm fi us lf rg md re fl fr tk bf k g a o; simp only [f_P_verify, if_neg h1, if_neg h3n, if_neg h5n, if_neg h7n, if_neg h9n, if_neg h11, if_neg h13n, if_neg h14, if_neg h16n, if_pos h17, if_neg h21n, if_pos h23, if_neg h28n]) rfl d_P_verify_216
                        · skip
                          refine pv_bipush X (-6) d_P_verify_150 (by decide) ?_
                          exact pv_iret X hr hlk (g_P_takeKey_ztd_1 re fl fr tk k, g_P_takeKey_zt_5 re fl fr tk cu k, g_P_takeKey_zt_6 re fl fr tk cv k, g_P_takeKey_zcl_1 lf re fl fr tk k (255 : Int64), g_P_takeKey_zcr_1 rg re fl fr tk k (255 : Int64)) (by show _ = f_P_verify hm fi us lf rg md re fl fr tk bf k g a o; simp only [f_P_verify, if_neg h1, if_neg h3n, if_neg h5n, if_neg h7n, if_neg h9n, if_neg h11, if_neg h13n, if_neg h14, if_neg h16n, if_pos h17, if_neg h21n, if_neg h23n]) rfl d_P_verify_152
                    · skip
                      refine pv_bipush X (-4) d_P_verify_111 (by decide) ?_
                      exact pv_iret X hr hlk (tk, cu, cv, kl, kr) (by show _ = f_P_verify hm fi us lf rg md re fl fr tk bf k g a o; simp only [f_P_verify, if_neg h1, if_neg h3n, if_neg h5n, if_neg h7n, if_neg h9n, if_neg h11, if_neg h13n, if_neg h14, if_neg h16n, if_neg h17n]) rfl d_P_verify_113
                · skip
                  refine pv_bipush X (-3) d_P_verify_86 (by decide) ?_
                  exact pv_iret X hr hlk (tk, cu, cv, kl, kr) (by show _ = f_P_verify hm fi us lf rg md re fl fr tk bf k g a o; simp only [f_P_verify, if_neg h1, if_neg h3n, if_neg h5n, if_neg h7n, if_neg h9n, if_neg h11, if_neg h13n, if_pos h14n]) rfl d_P_verify_88
            · skip
              refine pv_bipush X (-2) d_P_verify_62 (by decide) ?_
              exact pv_iret X hr hlk (tk, cu, cv, kl, kr) (by show _ = f_P_verify hm fi us lf rg md re fl fr tk bf k g a o; simp only [f_P_verify, if_neg h1, if_neg h3n, if_neg h5n, if_neg h7n, if_neg h9n, if_pos h11n]) rfl d_P_verify_64
  · skip
    refine pv_iconst X (-1) d_P_verify_7 (by decide) ?_
    exact pv_iret X hr hlk (tk, cu, cv, kl, kr) (by show _ = f_P_verify hm fi us lf rg md re fl fr tk bf k g a o; simp only [f_P_verify, if_pos h1n]) rfl d_P_verify_8
