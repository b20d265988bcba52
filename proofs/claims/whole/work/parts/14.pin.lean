theorem i32_le {a b : Int32} : a ≤ b ↔ a.toInt ≤ b.toInt := Int32.le_iff_toInt_le
theorem i32_lt {a b : Int32} : a < b ↔ a.toInt < b.toInt := Int32.lt_iff_toInt_lt
theorem S_in {k : Int32} (h : ¬ f_S_isNumber k = 0) : vp_in k 16 := by
  unfold f_S_isNumber at h
  rw [vp_in_iff]
  by_cases h1 : k < 0
  · rw [if_pos h1] at h; exact absurd rfl h
  · rw [if_neg h1] at h
    by_cases h2 : 16 ≤ k
    · rw [if_pos h2] at h; exact absurd rfl h
    · rw [i32_lt] at h1; rw [i32_le] at h2
      have e1 : (0 : Int32).toInt = 0 := rfl
      have e2 : (16 : Int32).toInt = 16 := rfl
      omega
theorem T_in {k : Int32} (h : ¬ f_T_isNumber k = 0) : vp_in k 8 := by
  unfold f_T_isNumber at h
  rw [vp_in_iff]
  by_cases h1 : k < 0
  · rw [if_pos h1] at h; exact absurd rfl h
  · rw [if_neg h1] at h
    by_cases h2 : 8 ≤ k
    · rw [if_pos h2] at h; exact absurd rfl h
    · rw [i32_lt] at h1; rw [i32_le] at h2
      have e1 : (0 : Int32).toInt = 0 := rfl
      have e2 : (8 : Int32).toInt = 8 := rfl
      omega
theorem K_rng {k : Int32} (h : ¬ f_P_isKeyNumber k = 0) : 0 ≤ k.toInt ∧ k.toInt < 24 := by
  unfold f_P_isKeyNumber at h
  by_cases h1 : k < 0
  · rw [if_pos h1] at h; exact absurd rfl h
  · rw [if_neg h1] at h
    by_cases h2 : 24 ≤ k
    · rw [if_pos h2] at h; exact absurd rfl h
    · rw [i32_lt] at h1; rw [i32_le] at h2
      have e1 : (0 : Int32).toInt = 0 := rfl
      have e2 : (24 : Int32).toInt = 24 := rfl
      omega
theorem K_in1 {k : Int32} (h : ¬ f_P_isKeyNumber k = 0) (h2 : ¬ 16 ≤ k) : vp_in k 16 := by
  have h1 := K_rng h
  rw [vp_in_iff]; rw [i32_le] at h2
  have e2 : (16 : Int32).toInt = 16 := rfl
  omega
theorem K_in2 {k : Int32} (h : ¬ f_P_isKeyNumber k = 0) (h2 : 16 ≤ k) : vp_in (k - 16) 8 := by
  have h1 := K_rng h
  rw [i32_le] at h2
  have e2 : (16 : Int32).toInt = 16 := rfl
  obtain ⟨j, hj, e⟩ := vp_in_of (n := 24) (vp_in_iff.mpr ⟨h1.1, h1.2⟩) (by decide)
  subst e
  rw [nI_toInt (by omega)] at h2
  rw [show (16 : Int32) = nI 16 from rfl, pk_sub (by omega)]
  exact vp_in_nI (by omega) (by decide)
theorem c_K_header2 (l : Launch) (G : Gt) (x : Int32) (hx : vp_in x 4) : CtL l G y_K_header b_K_header 1 (some .long) rm_K_header Sx [.int x] [] (fun r (_ : Unit) => r = K_hd x.toNatClampNeg) (fun _ => []) 0 0 := by
  obtain ⟨u, hu, rfl⟩ := vp_in_of hx (by decide)
  rw [nI_clamp (by omega)]
  exact c_K_header l G u hu
def f_P_refusalOfSlot (hm : Int32) (fi : Nat → Int32) (k : Int32) : Int32 := if hm = 0 then (-1) else (if (f_S_isNumber k) = 0 then (-2) else (if (fi k.toNatClampNeg) = 0 then (-3) else 0))
abbrev rm_P_refusalOfSlot : Room := { frames := 1, cells := 0, slots := 0, locals := 20 }
theorem mf_P_refusalOfSlot : MF y_P_refusalOfSlot b_P_refusalOfSlot 2 (some .int) 1 := ⟨m_225, m_1, by decide, by decide, by decide +kernel⟩
theorem d_P_refusalOfSlot_0 : decode b_P_refusalOfSlot 0 = .ok (.aload_n 0, 1) := by decide +kernel
theorem d_P_refusalOfSlot_1 : decode b_P_refusalOfSlot 1 = .ok (.getfield 51, 3) := by decide +kernel
theorem d_P_refusalOfSlot_4 : decode b_P_refusalOfSlot 4 = .ok (.ifCond .ne 5, 3) := by decide +kernel
theorem d_P_refusalOfSlot_7 : decode b_P_refusalOfSlot 7 = .ok (.iconst (-1), 1) := by decide +kernel
theorem d_P_refusalOfSlot_8 : decode b_P_refusalOfSlot 8 = .ok (.ireturn, 1) := by decide +kernel
theorem d_P_refusalOfSlot_9 : decode b_P_refusalOfSlot 9 = .ok (.iload_n 1, 1) := by decide +kernel
theorem d_P_refusalOfSlot_10 : decode b_P_refusalOfSlot 10 = .ok (.invokestatic 89, 3) := by decide +kernel
theorem d_P_refusalOfSlot_13 : decode b_P_refusalOfSlot 13 = .ok (.ifCond .ne 6, 3) := by decide +kernel
theorem d_P_refusalOfSlot_16 : decode b_P_refusalOfSlot 16 = .ok (.bipush (-2), 2) := by decide +kernel
theorem d_P_refusalOfSlot_18 : decode b_P_refusalOfSlot 18 = .ok (.ireturn, 1) := by decide +kernel
theorem d_P_refusalOfSlot_19 : decode b_P_refusalOfSlot 19 = .ok (.aload_n 0, 1) := by decide +kernel
theorem d_P_refusalOfSlot_20 : decode b_P_refusalOfSlot 20 = .ok (.getfield 20, 3) := by decide +kernel
theorem d_P_refusalOfSlot_23 : decode b_P_refusalOfSlot 23 = .ok (.getfield 93, 3) := by decide +kernel
theorem d_P_refusalOfSlot_26 : decode b_P_refusalOfSlot 26 = .ok (.iload_n 1, 1) := by decide +kernel
theorem d_P_refusalOfSlot_27 : decode b_P_refusalOfSlot 27 = .ok (.baload, 1) := by decide +kernel
theorem d_P_refusalOfSlot_28 : decode b_P_refusalOfSlot 28 = .ok (.ifCond .eq 7, 3) := by decide +kernel
theorem d_P_refusalOfSlot_31 : decode b_P_refusalOfSlot 31 = .ok (.iconst 0, 1) := by decide +kernel
theorem d_P_refusalOfSlot_32 : decode b_P_refusalOfSlot 32 = .ok (.goto 5, 3) := by decide +kernel
theorem d_P_refusalOfSlot_35 : decode b_P_refusalOfSlot 35 = .ok (.bipush (-3), 2) := by decide +kernel
theorem d_P_refusalOfSlot_37 : decode b_P_refusalOfSlot 37 = .ok (.ireturn, 1) := by decide +kernel
set_option maxRecDepth 100000 in
set_option maxHeartbeats 4000000 in
theorem c_P_refusalOfSlot (l : Launch) (G : Gt) (zp zph zpt zs zsf zsu zse zsl zsr zt ztm ztr ztl ztf ztd ztdq zc zcl zclq zcr zcrq zpb zpm : Nat) (hv : Nat → Int64) (ht : Nat → Int32) (hm : Int32) (ml mr : Int64) (fi us ex : Nat → Int32) (lf rg : Nat → Int64) (md : Nat → Int32) (re fl fr : Nat → Int64) (tk cu cv kl kr : Int64) (bf mg : Nat → Int64) (k : Int32) : CtI l G y_P_refusalOfSlot b_P_refusalOfSlot 2 (some .int) rm_P_refusalOfSlot Sx [.ref zp, .int k] [ob zp 0 [.ref zph, .ref zpt, .int hm, .long ml, .long mr, .ref zs, .ref zt, .ref zc, .ref zpb, .ref zpm], aJ G zph 6 hv, aZ G zpt 6 ht, ob zs 1 [.ref zsf, .ref zsu, .ref zse, .ref zsl, .ref zsr], aZ G zsf 16 fi, aI G zsu 16 us, aZ G zse 16 ex, aJ G zsl 16 lf, aJ G zsr 16 rg, ob zt 2 [.ref ztm, .ref ztr, .ref ztl, .ref ztf, .ref ztd, .long cu, .long cv], aZ G ztm 8 md, aJ G ztr 8 re, aJ G ztl 8 fl, aJ G ztf 8 fr, ob ztd 4 [.ref ztdq, .long tk], aJ G ztdq 16 (rkF tk), ob zc 3 [.ref zcl, .ref zcr], ob zcl 4 [.ref zclq, .long kl], aJ G zclq 16 (rkF kl), ob zcr 4 [.ref zcrq, .long kr], aJ G zcrq 16 (rkF kr), aJ G zpb 5 bf, aJ G zpm 8 mg] (fun r (_ : Unit) => r = f_P_refusalOfSlot hm fi k) (fun _ => [ob zp 0 [.ref zph, .ref zpt, .int hm, .long ml, .long mr, .ref zs, .ref zt, .ref zc, .ref zpb, .ref zpm], aJ G zph 6 hv, aZ G zpt 6 ht, ob zs 1 [.ref zsf, .ref zsu, .ref zse, .ref zsl, .ref zsr], aZ G zsf 16 fi, aI G zsu 16 us, aZ G zse 16 ex, aJ G zsl 16 lf, aJ G zsr 16 rg, ob zt 2 [.ref ztm, .ref ztr, .ref ztl, .ref ztf, .ref ztd, .long cu, .long cv], aZ G ztm 8 md, aJ G ztr 8 re, aJ G ztl 8 fl, aJ G ztf 8 fr, ob ztd 4 [.ref ztdq, .long tk], aJ G ztdq 16 (rkF tk), ob zc 3 [.ref zcl, .ref zcr], ob zcl 4 [.ref zclq, .long kl], aJ G zclq 16 (rkF kl), ob zcr 4 [.ref zcrq, .long kr], aJ G zcrq 16 (rkF kr), aJ G zpb 5 bf, aJ G zpm 8 mg]) 0 0 := by
  refine Ct.of (Qp := fun A => va_Qi _ (qB G A _) A) Sx_stb (by decide) (Nat.le_of_ble_eq_true rfl) ?_
  intro p e s m args below meth c A X hE hr hlk hini
  refine pv_eql (ll2 := [(0, .ref zp), (1, .int k)]) rfl ?_
  refine pv_aload_n X 0 d_P_refusalOfSlot_0 rfl ?_
  refine pv_get X 0 2 u_P_in m_117 rfl rfl (by decide) ⟨rfl, rfl, rfl⟩ rfl d_P_refusalOfSlot_1 ?_
  refine pv_if_ne X 9 d_P_refusalOfSlot_4 rfl (fun h1 => ?_) (fun h1n => ?_)
  · skip
    refine pv_iload_n X 1 d_P_refusalOfSlot_9 rfl ?_
    refine pv_calli0 X (rn_S X (c_S_isNumber l G k) trivial mf_S_isNumber m_150 m_151 rfl (by decide) (by decide) rfl (Nat.le_of_ble_eq_true rfl) d_P_refusalOfSlot_10) ?_
    refine pv_if_ne X 19 d_P_refusalOfSlot_13 rfl (fun h3 => ?_) (fun h3n => ?_)
    · skip
      refine pv_aload_n X 0 d_P_refusalOfSlot_19 rfl ?_
      refine pv_get X 0 5 u_P_in m_120 rfl rfl (by decide) ⟨rfl, rfl, rfl⟩ rfl d_P_refusalOfSlot_20 ?_
      refine pv_get X 3 0 u_S_in m_31 rfl rfl (by decide) ⟨rfl, rfl, rfl⟩ rfl d_P_refusalOfSlot_23 ?_
      refine pv_iload_n X 1 d_P_refusalOfSlot_26 rfl ?_
      refine pv_zald X 4 rfl (S_in h3) d_P_refusalOfSlot_27 ?_
      refine pv_if_eq X 35 d_P_refusalOfSlot_28 rfl (fun h4 => ?_) (fun h4n => ?_)
      · skip
        refine pv_bipush X (-3) d_P_refusalOfSlot_35 (by decide) ?_
        exact pv_iret X hr hlk () (by show _ = f_P_refusalOfSlot hm fi k; simp only [f_P_refusalOfSlot, if_neg h1, if_neg h3, if_pos h4]) rfl d_P_refusalOfSlot_37
      · skip
        refine pv_iconst X 0 d_P_refusalOfSlot_31 (by decide) ?_
        refine pv_goto X 37 d_P_refusalOfSlot_32 rfl ?_
        exact pv_iret X hr hlk () (by show _ = f_P_refusalOfSlot hm fi k; simp only [f_P_refusalOfSlot, if_neg h1, if_neg h3, if_neg h4n]) rfl d_P_refusalOfSlot_37
    · skip
      refine pv_bipush X (-2) d_P_refusalOfSlot_16 (by decide) ?_
      exact pv_iret X hr hlk () (by show _ = f_P_refusalOfSlot hm fi k; simp only [f_P_refusalOfSlot, if_neg h1, if_pos h3n]) rfl d_P_refusalOfSlot_18
  · skip
    refine pv_iconst X (-1) d_P_refusalOfSlot_7 (by decide) ?_
    exact pv_iret X hr hlk () (by show _ = f_P_refusalOfSlot hm fi k; simp only [f_P_refusalOfSlot, if_pos h1n]) rfl d_P_refusalOfSlot_8
theorem refusal_ok {hm k : Int32} {fi : Nat → Int32} (h : f_P_refusalOfSlot hm fi k = 0) : vp_in k 16 := by
  unfold f_P_refusalOfSlot at h
  by_cases h1 : hm = 0
  · rw [if_pos h1] at h; exact absurd h (by decide)
  · rw [if_neg h1] at h
    by_cases h2 : f_S_isNumber k = 0
    · rw [if_pos h2] at h; exact absurd h (by decide)
    · exact S_in h2
def f_P_allHalvesTold (ht : Nat → Int32) : Int32 := if (ht 0) = 0 then 0 else (if (ht 1) = 0 then 0 else (if (ht 2) = 0 then 0 else (if (ht 3) = 0 then 0 else (if (ht 4) = 0 then 0 else (if (ht 5) = 0 then 0 else 1)))))
theorem bo_P_allHalvesTold {ht : Nat → Int32} : Bo (f_P_allHalvesTold ht) := by
  unfold f_P_allHalvesTold
  repeat (first | with_reducible exact bo_0 | with_reducible exact bo_1 | split)
abbrev rm_P_allHalvesTold : Room := { frames := 0, cells := 0, slots := 0, locals := 0 }
theorem mf_P_allHalvesTold : MF y_P_allHalvesTold b_P_allHalvesTold 2 (some .boolean) 0 := ⟨m_543, m_1, by decide, by decide, by decide +kernel⟩
theorem d_P_allHalvesTold_0 : decode b_P_allHalvesTold 0 = .ok (.iconst 0, 1) := by decide +kernel
theorem d_P_allHalvesTold_1 : decode b_P_allHalvesTold 1 = .ok (.istore_n 1, 1) := by decide +kernel
theorem d_P_allHalvesTold_2 : decode b_P_allHalvesTold 2 = .ok (.iload_n 1, 1) := by decide +kernel
theorem d_P_allHalvesTold_3 : decode b_P_allHalvesTold 3 = .ok (.bipush 6, 2) := by decide +kernel
theorem d_P_allHalvesTold_5 : decode b_P_allHalvesTold 5 = .ok (.if_icmp .ge 20, 3) := by decide +kernel
theorem d_P_allHalvesTold_8 : decode b_P_allHalvesTold 8 = .ok (.aload_n 0, 1) := by decide +kernel
theorem d_P_allHalvesTold_9 : decode b_P_allHalvesTold 9 = .ok (.getfield 15, 3) := by decide +kernel
theorem d_P_allHalvesTold_12 : decode b_P_allHalvesTold 12 = .ok (.iload_n 1, 1) := by decide +kernel
theorem d_P_allHalvesTold_13 : decode b_P_allHalvesTold 13 = .ok (.baload, 1) := by decide +kernel
theorem d_P_allHalvesTold_14 : decode b_P_allHalvesTold 14 = .ok (.ifCond .ne 5, 3) := by decide +kernel
theorem d_P_allHalvesTold_17 : decode b_P_allHalvesTold 17 = .ok (.iconst 0, 1) := by decide +kernel
theorem d_P_allHalvesTold_18 : decode b_P_allHalvesTold 18 = .ok (.ireturn, 1) := by decide +kernel
theorem d_P_allHalvesTold_19 : decode b_P_allHalvesTold 19 = .ok (.iinc 1 1, 3) := by decide +kernel
theorem d_P_allHalvesTold_22 : decode b_P_allHalvesTold 22 = .ok (.goto (-20), 3) := by decide +kernel
theorem d_P_allHalvesTold_25 : decode b_P_allHalvesTold 25 = .ok (.iconst 1, 1) := by decide +kernel
theorem d_P_allHalvesTold_26 : decode b_P_allHalvesTold 26 = .ok (.ireturn, 1) := by decide +kernel
set_option maxRecDepth 100000 in
set_option maxHeartbeats 4000000 in
theorem c_P_allHalvesTold (l : Launch) (G : Gt) (zp zph zpt zs zsf zsu zse zsl zsr zt ztm ztr ztl ztf ztd ztdq zc zcl zclq zcr zcrq zpb zpm : Nat) (hv : Nat → Int64) (ht : Nat → Int32) (hm : Int32) (ml mr : Int64) (fi us ex : Nat → Int32) (lf rg : Nat → Int64) (md : Nat → Int32) (re fl fr : Nat → Int64) (tk cu cv kl kr : Int64) (bf mg : Nat → Int64)  : CtI l G y_P_allHalvesTold b_P_allHalvesTold 2 (some .boolean) rm_P_allHalvesTold Sx [.ref zp] [ob zp 0 [.ref zph, .ref zpt, .int hm, .long ml, .long mr, .ref zs, .ref zt, .ref zc, .ref zpb, .ref zpm], aJ G zph 6 hv, aZ G zpt 6 ht, ob zs 1 [.ref zsf, .ref zsu, .ref zse, .ref zsl, .ref zsr], aZ G zsf 16 fi, aI G zsu 16 us, aZ G zse 16 ex, aJ G zsl 16 lf, aJ G zsr 16 rg, ob zt 2 [.ref ztm, .ref ztr, .ref ztl, .ref ztf, .ref ztd, .long cu, .long cv], aZ G ztm 8 md, aJ G ztr 8 re, aJ G ztl 8 fl, aJ G ztf 8 fr, ob ztd 4 [.ref ztdq, .long tk], aJ G ztdq 16 (rkF tk), ob zc 3 [.ref zcl, .ref zcr], ob zcl 4 [.ref zclq, .long kl], aJ G zclq 16 (rkF kl), ob zcr 4 [.ref zcrq, .long kr], aJ G zcrq 16 (rkF kr), aJ G zpb 5 bf, aJ G zpm 8 mg] (fun r (_ : Unit) => r = f_P_allHalvesTold ht) (fun _ => [ob zp 0 [.ref zph, .ref zpt, .int hm, .long ml, .long mr, .ref zs, .ref zt, .ref zc, .ref zpb, .ref zpm], aJ G zph 6 hv, aZ G zpt 6 ht, ob zs 1 [.ref zsf, .ref zsu, .ref zse, .ref zsl, .ref zsr], aZ G zsf 16 fi, aI G zsu 16 us, aZ G zse 16 ex, aJ G zsl 16 lf, aJ G zsr 16 rg, ob zt 2 [.ref ztm, .ref ztr, .ref ztl, .ref ztf, .ref ztd, .long cu, .long cv], aZ G ztm 8 md, aJ G ztr 8 re, aJ G ztl 8 fl, aJ G ztf 8 fr, ob ztd 4 [.ref ztdq, .long tk], aJ G ztdq 16 (rkF tk), ob zc 3 [.ref zcl, .ref zcr], ob zcl 4 [.ref zclq, .long kl], aJ G zclq 16 (rkF kl), ob zcr 4 [.ref zcrq, .long kr], aJ G zcrq 16 (rkF kr), aJ G zpb 5 bf, aJ G zpm 8 mg]) 0 0 := by
  refine Ct.of (Qp := fun A => va_Qi _ (qB G A _) A) Sx_stb (by decide) (Nat.le_of_ble_eq_true rfl) ?_
  intro p e s m args below meth c A X hE hr hlk hini
  refine pv_eql (ll2 := [(0, .ref zp)]) rfl ?_
  refine pv_iconst X 0 d_P_allHalvesTold_0 (by decide) ?_
  refine pv_istore_n (ll2 := [(1, .int 0), (0, .ref zp)]) X d_P_allHalvesTold_1 (by decide) rfl ?_
  refine pv_iload_n X 0 d_P_allHalvesTold_2 rfl ?_
  refine pv_bipush X 6 d_P_allHalvesTold_3 (by decide) ?_
  refine pv_icmp_ge X 25 d_P_allHalvesTold_5 rfl (fun h => absurd h (by decide)) (fun _ => ?_)
  refine pv_aload_n X 1 d_P_allHalvesTold_8 rfl ?_
  refine pv_get X 0 1 u_P_in m_116 rfl rfl (by decide) ⟨rfl, rfl, rfl⟩ rfl d_P_allHalvesTold_9 ?_
  refine pv_iload_n X 0 d_P_allHalvesTold_12 rfl ?_
  refine pv_zald X 2 rfl (by unfold vp_in; decide) d_P_allHalvesTold_13 ?_
  refine pv_topi (ht 0) rfl ?_
  refine pv_if_ne X 19 d_P_allHalvesTold_14 rfl (fun h1 => ?_) (fun h1n => ?_)
  · skip
    refine pv_iinc (ll2 := [(1, .int 1), (0, .ref zp)]) X 0 (1) d_P_allHalvesTold_19 rfl (by decide) (by decide) rfl ?_
    refine pv_goto X 2 d_P_allHalvesTold_22 rfl ?_
    refine pv_iload_n X 0 d_P_allHalvesTold_2 rfl ?_
    refine pv_bipush X 6 d_P_allHalvesTold_3 (by decide) ?_
    refine pv_icmp_ge X 25 d_P_allHalvesTold_5 rfl (fun h => absurd h (by decide)) (fun _ => ?_)
    refine pv_aload_n X 1 d_P_allHalvesTold_8 rfl ?_
    refine pv_get X 0 1 u_P_in m_116 rfl rfl (by decide) ⟨rfl, rfl, rfl⟩ rfl d_P_allHalvesTold_9 ?_
    refine pv_iload_n X 0 d_P_allHalvesTold_12 rfl ?_
    refine pv_zald X 2 rfl (by unfold vp_in; decide) d_P_allHalvesTold_13 ?_
    refine pv_topi (ht 1) rfl ?_
    refine pv_if_ne X 19 d_P_allHalvesTold_14 rfl (fun h2 => ?_) (fun h2n => ?_)
    · skip
      refine pv_iinc (ll2 := [(1, .int 2), (0, .ref zp)]) X 0 (2) d_P_allHalvesTold_19 rfl (by decide) (by decide) rfl ?_
      refine pv_goto X 2 d_P_allHalvesTold_22 rfl ?_
      refine pv_iload_n X 0 d_P_allHalvesTold_2 rfl ?_
      refine pv_bipush X 6 d_P_allHalvesTold_3 (by decide) ?_
      refine pv_icmp_ge X 25 d_P_allHalvesTold_5 rfl (fun h => absurd h (by decide)) (fun _ => ?_)
      refine pv_aload_n X 1 d_P_allHalvesTold_8 rfl ?_
      refine pv_get X 0 1 u_P_in m_116 rfl rfl (by decide) ⟨rfl, rfl, rfl⟩ rfl d_P_allHalvesTold_9 ?_
      refine pv_iload_n X 0 d_P_allHalvesTold_12 rfl ?_
      refine pv_zald X 2 rfl (by unfold vp_in; decide) d_P_allHalvesTold_13 ?_
      refine pv_topi (ht 2) rfl ?_
      refine pv_if_ne X 19 d_P_allHalvesTold_14 rfl (fun h3 => ?_) (fun h3n => ?_)
      · skip
        refine pv_iinc (ll2 := [(1, .int 3), (0, .ref zp)]) X 0 (3) d_P_allHalvesTold_19 rfl (by decide) (by decide) rfl ?_
        refine pv_goto X 2 d_P_allHalvesTold_22 rfl ?_
        refine pv_iload_n X 0 d_P_allHalvesTold_2 rfl ?_
        refine pv_bipush X 6 d_P_allHalvesTold_3 (by decide) ?_
        refine pv_icmp_ge X 25 d_P_allHalvesTold_5 rfl (fun h => absurd h (by decide)) (fun _ => ?_)
        refine pv_aload_n X 1 d_P_allHalvesTold_8 rfl ?_
        refine pv_get X 0 1 u_P_in m_116 rfl rfl (by decide) ⟨rfl, rfl, rfl⟩ rfl d_P_allHalvesTold_9 ?_
        refine pv_iload_n X 0 d_P_allHalvesTold_12 rfl ?_
        refine pv_zald X 2 rfl (by unfold vp_in; decide) d_P_allHalvesTold_13 ?_
        refine pv_topi (ht 3) rfl ?_
        refine pv_if_ne X 19 d_P_allHalvesTold_14 rfl (fun h4 => ?_) (fun h4n => ?_)
        · skip
          refine pv_iinc (ll2 := [(1, .int 4), (0, .ref zp)]) X 0 (4) d_P_allHalvesTold_19 rfl (by decide) (by decide) rfl ?_
          refine pv_goto X 2 d_P_allHalvesTold_22 rfl ?_
          refine pv_iload_n X 0 d_P_allHalvesTold_2 rfl ?_
          refine pv_bipush X 6 d_P_allHalvesTold_3 (by decide) ?_
          refine pv_icmp_ge X 25 d_P_allHalvesTold_5 rfl (fun h => absurd h (by decide)) (fun _ => ?_)
          refine pv_aload_n X 1 d_P_allHalvesTold_8 rfl ?_
          refine pv_get X 0 1 u_P_in m_116 rfl rfl (by decide) ⟨rfl, rfl, rfl⟩ rfl d_P_allHalvesTold_9 ?_
          refine pv_iload_n X 0 d_P_allHalvesTold_12 rfl ?_
          refine pv_zald X 2 rfl (by unfold vp_in; decide) d_P_allHalvesTold_13 ?_
          refine pv_topi (ht 4) rfl ?_
          refine pv_if_ne X 19 d_P_allHalvesTold_14 rfl (fun h5 => ?_) (fun h5n => ?_)
          · skip
            refine pv_iinc (ll2 := [(1, .int 5), (0, .ref zp)]) X 0 (5) d_P_allHalvesTold_19 rfl (by decide) (by decide) rfl ?_
            refine pv_goto X 2 d_P_allHalvesTold_22 rfl ?_
            refine pv_iload_n X 0 d_P_allHalvesTold_2 rfl ?_
            refine pv_bipush X 6 d_P_allHalvesTold_3 (by decide) ?_
            refine pv_icmp_ge X 25 d_P_allHalvesTold_5 rfl (fun h => absurd h (by decide)) (fun _ => ?_)
            refine pv_aload_n X 1 d_P_allHalvesTold_8 rfl ?_
            refine pv_get X 0 1 u_P_in m_116 rfl rfl (by decide) ⟨rfl, rfl, rfl⟩ rfl d_P_allHalvesTold_9 ?_
            refine pv_iload_n X 0 d_P_allHalvesTold_12 rfl ?_
            refine pv_zald X 2 rfl (by unfold vp_in; decide) d_P_allHalvesTold_13 ?_
            refine pv_topi (ht 5) rfl ?_
            refine pv_if_ne X 19 d_P_allHalvesTold_14 rfl (fun h6 => ?_) (fun h6n => ?_)
            · skip
              refine pv_iinc (ll2 := [(1, .int 6), (0, .ref zp)]) X 0 (6) d_P_allHalvesTold_19 rfl (by decide) (by decide) rfl ?_
              refine pv_goto X 2 d_P_allHalvesTold_22 rfl ?_
              refine pv_iload_n X 0 d_P_allHalvesTold_2 rfl ?_
              refine pv_bipush X 6 d_P_allHalvesTold_3 (by decide) ?_
              refine pv_icmp_ge X 25 d_P_allHalvesTold_5 rfl (fun _ => ?_) (fun h => absurd (by decide) h)
              refine pv_iconst X 1 d_P_allHalvesTold_25 (by decide) ?_
              exact pv_zret X hr hlk rfl () (by show _ = f_P_allHalvesTold ht; simp only [f_P_allHalvesTold, if_neg h1, if_neg h2, if_neg h3, if_neg h4, if_neg h5, if_neg h6]) rfl d_P_allHalvesTold_26
            · skip
              refine pv_iconst X 0 d_P_allHalvesTold_17 (by decide) ?_
              exact pv_zret X hr hlk rfl () (by show _ = f_P_allHalvesTold ht; simp only [f_P_allHalvesTold, if_neg h1, if_neg h2, if_neg h3, if_neg h4, if_neg h5, if_pos h6n]) rfl d_P_allHalvesTold_18
          · skip
            refine pv_iconst X 0 d_P_allHalvesTold_17 (by decide) ?_
            exact pv_zret X hr hlk rfl () (by show _ = f_P_allHalvesTold ht; simp only [f_P_allHalvesTold, if_neg h1, if_neg h2, if_neg h3, if_neg h4, if_pos h5n]) rfl d_P_allHalvesTold_18
        · skip
          refine pv_iconst X 0 d_P_allHalvesTold_17 (by decide) ?_
          exact pv_zret X hr hlk rfl () (by show _ = f_P_allHalvesTold ht; simp only [f_P_allHalvesTold, if_neg h1, if_neg h2, if_neg h3, if_pos h4n]) rfl d_P_allHalvesTold_18
      · skip
        refine pv_iconst X 0 d_P_allHalvesTold_17 (by decide) ?_
        exact pv_zret X hr hlk rfl () (by show _ = f_P_allHalvesTold ht; simp only [f_P_allHalvesTold, if_neg h1, if_neg h2, if_pos h3n]) rfl d_P_allHalvesTold_18
    · skip
      refine pv_iconst X 0 d_P_allHalvesTold_17 (by decide) ?_
      exact pv_zret X hr hlk rfl () (by show _ = f_P_allHalvesTold ht; simp only [f_P_allHalvesTold, if_neg h1, if_pos h2n]) rfl d_P_allHalvesTold_18
  · skip
    refine pv_iconst X 0 d_P_allHalvesTold_17 (by decide) ?_
    exact pv_zret X hr hlk rfl () (by show _ = f_P_allHalvesTold ht; simp only [f_P_allHalvesTold, if_pos h1n]) rfl d_P_allHalvesTold_18
def f_P_hasKey (fi : Nat → Int32) (md : Nat → Int32) (k : Int32) : Int32 := if 16 ≤ k then (md (k - 16).toNatClampNeg) else (fi k.toNatClampNeg)
abbrev rm_P_hasKey : Room := { frames := 0, cells := 0, slots := 0, locals := 0 }
theorem mf_P_hasKey : MF y_P_hasKey b_P_hasKey 2 (some .boolean) 1 := ⟨m_346, m_1, by decide, by decide, by decide +kernel⟩
theorem d_P_hasKey_0 : decode b_P_hasKey 0 = .ok (.iload_n 1, 1) := by decide +kernel
theorem d_P_hasKey_1 : decode b_P_hasKey 1 = .ok (.bipush 16, 2) := by decide +kernel
theorem d_P_hasKey_3 : decode b_P_hasKey 3 = .ok (.if_icmp .ge 15, 3) := by decide +kernel
theorem d_P_hasKey_6 : decode b_P_hasKey 6 = .ok (.aload_n 0, 1) := by decide +kernel
theorem d_P_hasKey_7 : decode b_P_hasKey 7 = .ok (.getfield 20, 3) := by decide +kernel
theorem d_P_hasKey_10 : decode b_P_hasKey 10 = .ok (.getfield 93, 3) := by decide +kernel
theorem d_P_hasKey_13 : decode b_P_hasKey 13 = .ok (.iload_n 1, 1) := by decide +kernel
theorem d_P_hasKey_14 : decode b_P_hasKey 14 = .ok (.baload, 1) := by decide +kernel
theorem d_P_hasKey_15 : decode b_P_hasKey 15 = .ok (.goto 15, 3) := by decide +kernel
theorem d_P_hasKey_18 : decode b_P_hasKey 18 = .ok (.aload_n 0, 1) := by decide +kernel
theorem d_P_hasKey_19 : decode b_P_hasKey 19 = .ok (.getfield 27, 3) := by decide +kernel
theorem d_P_hasKey_22 : decode b_P_hasKey 22 = .ok (.getfield 166, 3) := by decide +kernel
theorem d_P_hasKey_25 : decode b_P_hasKey 25 = .ok (.iload_n 1, 1) := by decide +kernel
theorem d_P_hasKey_26 : decode b_P_hasKey 26 = .ok (.bipush 16, 2) := by decide +kernel
theorem d_P_hasKey_28 : decode b_P_hasKey 28 = .ok (.isub, 1) := by decide +kernel
theorem d_P_hasKey_29 : decode b_P_hasKey 29 = .ok (.baload, 1) := by decide +kernel
theorem d_P_hasKey_30 : decode b_P_hasKey 30 = .ok (.ireturn, 1) := by decide +kernel
set_option maxRecDepth 100000 in
set_option maxHeartbeats 4000000 in
theorem c_P_hasKey (l : Launch) (G : Gt) (zp zph zpt zs zsf zsu zse zsl zsr zt ztm ztr ztl ztf ztd ztdq zc zcl zclq zcr zcrq zpb zpm : Nat) (hv : Nat → Int64) (ht : Nat → Int32) (hm : Int32) (ml mr : Int64) (fi us ex : Nat → Int32) (lf rg : Nat → Int64) (md : Nat → Int32) (re fl fr : Nat → Int64) (tk cu cv kl kr : Int64) (bf mg : Nat → Int64) (k : Int32) (hk : ¬ f_P_isKeyNumber k = 0) (hfi : ∀ j, Bo (fi j)) (hmd : ∀ j, Bo (md j)) : CtI l G y_P_hasKey b_P_hasKey 2 (some .boolean) rm_P_hasKey Sx [.ref zp, .int k] [ob zp 0 [.ref zph, .ref zpt, .int hm, .long ml, .long mr, .ref zs, .ref zt, .ref zc, .ref zpb, .ref zpm], aJ G zph 6 hv, aZ G zpt 6 ht, ob zs 1 [.ref zsf, .ref zsu, .ref zse, .ref zsl, .ref zsr], aZ G zsf 16 fi, aI G zsu 16 us, aZ G zse 16 ex, aJ G zsl 16 lf, aJ G zsr 16 rg, ob zt 2 [.ref ztm, .ref ztr, .ref ztl, .ref ztf, .ref ztd, .long cu, .long cv], aZ G ztm 8 md, aJ G ztr 8 re, aJ G ztl 8 fl, aJ G ztf 8 fr, ob ztd 4 [.ref ztdq, .long tk], aJ G ztdq 16 (rkF tk), ob zc 3 [.ref zcl, .ref zcr], ob zcl 4 [.ref zclq, .long kl], aJ G zclq 16 (rkF kl), ob zcr 4 [.ref zcrq, .long kr], aJ G zcrq 16 (rkF kr), aJ G zpb 5 bf, aJ G zpm 8 mg] (fun r (_ : Unit) => r = f_P_hasKey fi md k) (fun _ => [ob zp 0 [.ref zph, .ref zpt, .int hm, .long ml, .long mr, .ref zs, .ref zt, .ref zc, .ref zpb, .ref zpm], aJ G zph 6 hv, aZ G zpt 6 ht, ob zs 1 [.ref zsf, .ref zsu, .ref zse, .ref zsl, .ref zsr], aZ G zsf 16 fi, aI G zsu 16 us, aZ G zse 16 ex, aJ G zsl 16 lf, aJ G zsr 16 rg, ob zt 2 [.ref ztm, .ref ztr, .ref ztl, .ref ztf, .ref ztd, .long cu, .long cv], aZ G ztm 8 md, aJ G ztr 8 re, aJ G ztl 8 fl, aJ G ztf 8 fr, ob ztd 4 [.ref ztdq, .long tk], aJ G ztdq 16 (rkF tk), ob zc 3 [.ref zcl, .ref zcr], ob zcl 4 [.ref zclq, .long kl], aJ G zclq 16 (rkF kl), ob zcr 4 [.ref zcrq, .long kr], aJ G zcrq 16 (rkF kr), aJ G zpb 5 bf, aJ G zpm 8 mg]) 0 0 := by
  refine Ct.of (Qp := fun A => va_Qi _ (qB G A _) A) Sx_stb (by decide) (Nat.le_of_ble_eq_true rfl) ?_
  intro p e s m args below meth c A X hE hr hlk hini
  refine pv_eql (ll2 := [(0, .ref zp), (1, .int k)]) rfl ?_
  refine pv_iload_n X 1 d_P_hasKey_0 rfl ?_
  refine pv_bipush X 16 d_P_hasKey_1 (by decide) ?_
  refine pv_icmp_ge X 18 d_P_hasKey_3 rfl (fun h1 => ?_) (fun h1n => ?_)
  · skip
    refine pv_aload_n X 0 d_P_hasKey_18 rfl ?_
    refine pv_get X 0 6 u_P_in m_121 rfl rfl (by decide) ⟨rfl, rfl, rfl⟩ rfl d_P_hasKey_19 ?_
    refine pv_get X 9 0 u_T_in m_74 rfl rfl (by decide) ⟨rfl, rfl, rfl⟩ rfl d_P_hasKey_22 ?_
    refine pv_iload_n X 1 d_P_hasKey_25 rfl ?_
    refine pv_bipush X 16 d_P_hasKey_26 (by decide) ?_
    refine pv_isub X d_P_hasKey_28 ?_
    refine pv_zald X 10 rfl (K_in2 hk h1) d_P_hasKey_29 ?_
    exact pv_zret X hr hlk (by first | exact (hfi _).nar | exact (hmd _).nar) () (by show _ = f_P_hasKey fi md k; simp only [f_P_hasKey, if_pos h1]) rfl d_P_hasKey_30
  · skip
    refine pv_aload_n X 0 d_P_hasKey_6 rfl ?_
    refine pv_get X 0 5 u_P_in m_120 rfl rfl (by decide) ⟨rfl, rfl, rfl⟩ rfl d_P_hasKey_7 ?_
    refine pv_get X 3 0 u_S_in m_31 rfl rfl (by decide) ⟨rfl, rfl, rfl⟩ rfl d_P_hasKey_10 ?_
    refine pv_iload_n X 1 d_P_hasKey_13 rfl ?_
    refine pv_zald X 4 rfl (K_in1 hk h1n) d_P_hasKey_14 ?_
    refine pv_goto X 30 d_P_hasKey_15 rfl ?_
    exact pv_zret X hr hlk (by first | exact (hfi _).nar | exact (hmd _).nar) () (by show _ = f_P_hasKey fi md k; simp only [f_P_hasKey, if_neg h1n]) rfl d_P_hasKey_30
def f_P_isPinKey (us : Nat → Int32) (k : Int32) : Int32 := if 16 ≤ k then 1 else (if (us k.toNatClampNeg) = 0 then 1 else 0)
theorem bo_P_isPinKey {us : Nat → Int32} {k : Int32} : Bo (f_P_isPinKey us k) := by
  unfold f_P_isPinKey
  repeat (first | with_reducible exact bo_0 | with_reducible exact bo_1 | split)
abbrev rm_P_isPinKey : Room := { frames := 0, cells := 0, slots := 0, locals := 0 }
theorem mf_P_isPinKey : MF y_P_isPinKey b_P_isPinKey 2 (some .boolean) 1 := ⟨m_389, m_1, by decide, by decide, by decide +kernel⟩
theorem d_P_isPinKey_0 : decode b_P_isPinKey 0 = .ok (.iload_n 1, 1) := by decide +kernel
theorem d_P_isPinKey_1 : decode b_P_isPinKey 1 = .ok (.bipush 16, 2) := by decide +kernel
theorem d_P_isPinKey_3 : decode b_P_isPinKey 3 = .ok (.if_icmp .ge 15, 3) := by decide +kernel
theorem d_P_isPinKey_6 : decode b_P_isPinKey 6 = .ok (.aload_n 0, 1) := by decide +kernel
theorem d_P_isPinKey_7 : decode b_P_isPinKey 7 = .ok (.getfield 20, 3) := by decide +kernel
theorem d_P_isPinKey_10 : decode b_P_isPinKey 10 = .ok (.getfield 114, 3) := by decide +kernel
theorem d_P_isPinKey_13 : decode b_P_isPinKey 13 = .ok (.iload_n 1, 1) := by decide +kernel
theorem d_P_isPinKey_14 : decode b_P_isPinKey 14 = .ok (.iaload, 1) := by decide +kernel
theorem d_P_isPinKey_15 : decode b_P_isPinKey 15 = .ok (.ifCond .ne 7, 3) := by decide +kernel
theorem d_P_isPinKey_18 : decode b_P_isPinKey 18 = .ok (.iconst 1, 1) := by decide +kernel
theorem d_P_isPinKey_19 : decode b_P_isPinKey 19 = .ok (.goto 4, 3) := by decide +kernel
theorem d_P_isPinKey_22 : decode b_P_isPinKey 22 = .ok (.iconst 0, 1) := by decide +kernel
theorem d_P_isPinKey_23 : decode b_P_isPinKey 23 = .ok (.ireturn, 1) := by decide +kernel
set_option maxRecDepth 100000 in
set_option maxHeartbeats 4000000 in
theorem c_P_isPinKey (l : Launch) (G : Gt) (zp zph zpt zs zsf zsu zse zsl zsr zt ztm ztr ztl ztf ztd ztdq zc zcl zclq zcr zcrq zpb zpm : Nat) (hv : Nat → Int64) (ht : Nat → Int32) (hm : Int32) (ml mr : Int64) (fi us ex : Nat → Int32) (lf rg : Nat → Int64) (md : Nat → Int32) (re fl fr : Nat → Int64) (tk cu cv kl kr : Int64) (bf mg : Nat → Int64) (k : Int32) (hk : ¬ f_P_isKeyNumber k = 0) : CtI l G y_P_isPinKey b_P_isPinKey 2 (some .boolean) rm_P_isPinKey Sx [.ref zp, .int k] [ob zp 0 [.ref zph, .ref zpt, .int hm, .long ml, .long mr, .ref zs, .ref zt, .ref zc, .ref zpb, .ref zpm], aJ G zph 6 hv, aZ G zpt 6 ht, ob zs 1 [.ref zsf, .ref zsu, .ref zse, .ref zsl, .ref zsr], aZ G zsf 16 fi, aI G zsu 16 us, aZ G zse 16 ex, aJ G zsl 16 lf, aJ G zsr 16 rg, ob zt 2 [.ref ztm, .ref ztr, .ref ztl, .ref ztf, .ref ztd, .long cu, .long cv], aZ G ztm 8 md, aJ G ztr 8 re, aJ G ztl 8 fl, aJ G ztf 8 fr, ob ztd 4 [.ref ztdq, .long tk], aJ G ztdq 16 (rkF tk), ob zc 3 [.ref zcl, .ref zcr], ob zcl 4 [.ref zclq, .long kl], aJ G zclq 16 (rkF kl), ob zcr 4 [.ref zcrq, .long kr], aJ G zcrq 16 (rkF kr), aJ G zpb 5 bf, aJ G zpm 8 mg] (fun r (_ : Unit) => r = f_P_isPinKey us k) (fun _ => [ob zp 0 [.ref zph, .ref zpt, .int hm, .long ml, .long mr, .ref zs, .ref zt, .ref zc, .ref zpb, .ref zpm], aJ G zph 6 hv, aZ G zpt 6 ht, ob zs 1 [.ref zsf, .ref zsu, .ref zse, .ref zsl, .ref zsr], aZ G zsf 16 fi, aI G zsu 16 us, aZ G zse 16 ex, aJ G zsl 16 lf, aJ G zsr 16 rg, ob zt 2 [.ref ztm, .ref ztr, .ref ztl, .ref ztf, .ref ztd, .long cu, .long cv], aZ G ztm 8 md, aJ G ztr 8 re, aJ G ztl 8 fl, aJ G ztf 8 fr, ob ztd 4 [.ref ztdq, .long tk], aJ G ztdq 16 (rkF tk), ob zc 3 [.ref zcl, .ref zcr], ob zcl 4 [.ref zclq, .long kl], aJ G zclq 16 (rkF kl), ob zcr 4 [.ref zcrq, .long kr], aJ G zcrq 16 (rkF kr), aJ G zpb 5 bf, aJ G zpm 8 mg]) 0 0 := by
  refine Ct.of (Qp := fun A => va_Qi _ (qB G A _) A) Sx_stb (by decide) (Nat.le_of_ble_eq_true rfl) ?_
  intro p e s m args below meth c A X hE hr hlk hini
  refine pv_eql (ll2 := [(0, .ref zp), (1, .int k)]) rfl ?_
  refine pv_iload_n X 1 d_P_isPinKey_0 rfl ?_
  refine pv_bipush X 16 d_P_isPinKey_1 (by decide) ?_
  refine pv_icmp_ge X 18 d_P_isPinKey_3 rfl (fun h1 => ?_) (fun h1n => ?_)
  · skip
    refine pv_iconst X 1 d_P_isPinKey_18 (by decide) ?_
    refine pv_goto X 23 d_P_isPinKey_19 rfl ?_
    exact pv_zret X hr hlk rfl () (by show _ = f_P_isPinKey us k; simp only [f_P_isPinKey, if_pos h1]) rfl d_P_isPinKey_23
  · skip
    refine pv_aload_n X 0 d_P_isPinKey_6 rfl ?_
    refine pv_get X 0 5 u_P_in m_120 rfl rfl (by decide) ⟨rfl, rfl, rfl⟩ rfl d_P_isPinKey_7 ?_
    refine pv_get X 3 1 u_S_in m_33 rfl rfl (by decide) ⟨rfl, rfl, rfl⟩ rfl d_P_isPinKey_10 ?_
    refine pv_iload_n X 1 d_P_isPinKey_13 rfl ?_
    refine pv_iald X 5 rfl (K_in1 hk h1n) d_P_isPinKey_14 ?_
    refine pv_if_ne X 22 d_P_isPinKey_15 rfl (fun h2 => ?_) (fun h2n => ?_)
    · skip
      refine pv_iconst X 0 d_P_isPinKey_22 (by decide) ?_
      exact pv_zret X hr hlk rfl () (by show _ = f_P_isPinKey us k; simp only [f_P_isPinKey, if_neg h1n, if_neg h2]) rfl d_P_isPinKey_23
    · skip
      refine pv_iconst X 1 d_P_isPinKey_18 (by decide) ?_
      refine pv_goto X 23 d_P_isPinKey_19 rfl ?_
      exact pv_zret X hr hlk rfl () (by show _ = f_P_isPinKey us k; simp only [f_P_isPinKey, if_neg h1n, if_pos h2n]) rfl d_P_isPinKey_23
def g_P_takeKey_zt_5 (re : Nat → Int64) (fl : Nat → Int64) (fr : Nat → Int64) (tk : Int64) (cu : Int64) (k : Int32) : Int64 := if 16 ≤ k then ((dk (re ((k - 16).toNatClampNeg)) (fl ((k - 16).toNatClampNeg)) (fr ((k - 16).toNatClampNeg)) tk 21).2.1) else cu
def g_P_takeKey_zt_6 (re : Nat → Int64) (fl : Nat → Int64) (fr : Nat → Int64) (tk : Int64) (cv : Int64) (k : Int32) : Int64 := if 16 ≤ k then ((dk (re ((k - 16).toNatClampNeg)) (fl ((k - 16).toNatClampNeg)) (fr ((k - 16).toNatClampNeg)) tk 21).2.2.1) else cv
def g_P_takeKey_ztd_1 (re : Nat → Int64) (fl : Nat → Int64) (fr : Nat → Int64) (tk : Int64) (k : Int32) : Int64 := if 16 ≤ k then ((dk (re ((k - 16).toNatClampNeg)) (fl ((k - 16).toNatClampNeg)) (fr ((k - 16).toNatClampNeg)) tk 21).2.2.2) else tk
def g_P_takeKey_zcl_1 (lf : Nat → Int64) (re : Nat → Int64) (fl : Nat → Int64) (fr : Nat → Int64) (tk : Int64) (k : Int32) (y : Int64) : Int64 := if 16 ≤ k then (((dk (re ((k - 16).toNatClampNeg)) (fl ((k - 16).toNatClampNeg)) (fr ((k - 16).toNatClampNeg)) tk 21).2.1) ^^^ y) else (lf k.toNatClampNeg)
def g_P_takeKey_zcr_1 (rg : Nat → Int64) (re : Nat → Int64) (fl : Nat → Int64) (fr : Nat → Int64) (tk : Int64) (k : Int32) (y : Int64) : Int64 := if 16 ≤ k then (((dk (re ((k - 16).toNatClampNeg)) (fl ((k - 16).toNatClampNeg)) (fr ((k - 16).toNatClampNeg)) tk 21).2.2.1) ^^^ y) else (rg k.toNatClampNeg)
abbrev rm_P_takeKey : Room := { frames := 5, cells := 0, slots := 0, locals := 132 }
theorem mf_P_takeKey : MF y_P_takeKey b_P_takeKey 4 none 2 := ⟨m_350, m_1, by decide, by decide, by decide +kernel⟩
theorem d_P_takeKey_0 : decode b_P_takeKey 0 = .ok (.iload_n 1, 1) := by decide +kernel
theorem d_P_takeKey_1 : decode b_P_takeKey 1 = .ok (.bipush 16, 2) := by decide +kernel
theorem d_P_takeKey_3 : decode b_P_takeKey 3 = .ok (.if_icmp .ge 31, 3) := by decide +kernel
theorem d_P_takeKey_6 : decode b_P_takeKey 6 = .ok (.aload_n 0, 1) := by decide +kernel
theorem d_P_takeKey_7 : decode b_P_takeKey 7 = .ok (.getfield 34, 3) := by decide +kernel
theorem d_P_takeKey_10 : decode b_P_takeKey 10 = .ok (.aload_n 0, 1) := by decide +kernel
theorem d_P_takeKey_11 : decode b_P_takeKey 11 = .ok (.getfield 20, 3) := by decide +kernel
theorem d_P_takeKey_14 : decode b_P_takeKey 14 = .ok (.getfield 100, 3) := by decide +kernel
theorem d_P_takeKey_17 : decode b_P_takeKey 17 = .ok (.iload_n 1, 1) := by decide +kernel
theorem d_P_takeKey_18 : decode b_P_takeKey 18 = .ok (.laload, 1) := by decide +kernel
theorem d_P_takeKey_19 : decode b_P_takeKey 19 = .ok (.aload_n 0, 1) := by decide +kernel
theorem d_P_takeKey_20 : decode b_P_takeKey 20 = .ok (.getfield 20, 3) := by decide +kernel
theorem d_P_takeKey_23 : decode b_P_takeKey 23 = .ok (.getfield 103, 3) := by decide +kernel
theorem d_P_takeKey_26 : decode b_P_takeKey 26 = .ok (.iload_n 1, 1) := by decide +kernel
theorem d_P_takeKey_27 : decode b_P_takeKey 27 = .ok (.laload, 1) := by decide +kernel
theorem d_P_takeKey_28 : decode b_P_takeKey 28 = .ok (.invokevirtual 77, 3) := by decide +kernel
theorem d_P_takeKey_31 : decode b_P_takeKey 31 = .ok (.goto 39, 3) := by decide +kernel
theorem d_P_takeKey_34 : decode b_P_takeKey 34 = .ok (.aload_n 0, 1) := by decide +kernel
theorem d_P_takeKey_35 : decode b_P_takeKey 35 = .ok (.getfield 27, 3) := by decide +kernel
theorem d_P_takeKey_38 : decode b_P_takeKey 38 = .ok (.iload_n 1, 1) := by decide +kernel
theorem d_P_takeKey_39 : decode b_P_takeKey 39 = .ok (.bipush 16, 2) := by decide +kernel
theorem d_P_takeKey_41 : decode b_P_takeKey 41 = .ok (.isub, 1) := by decide +kernel
theorem d_P_takeKey_42 : decode b_P_takeKey 42 = .ok (.invokevirtual 256, 3) := by decide +kernel
theorem d_P_takeKey_45 : decode b_P_takeKey 45 = .ok (.aload_n 0, 1) := by decide +kernel
theorem d_P_takeKey_46 : decode b_P_takeKey 46 = .ok (.getfield 34, 3) := by decide +kernel
theorem d_P_takeKey_49 : decode b_P_takeKey 49 = .ok (.aload_n 0, 1) := by decide +kernel
theorem d_P_takeKey_50 : decode b_P_takeKey 50 = .ok (.getfield 27, 3) := by decide +kernel
theorem d_P_takeKey_53 : decode b_P_takeKey 53 = .ok (.getfield 259, 3) := by decide +kernel
theorem d_P_takeKey_56 : decode b_P_takeKey 56 = .ok (.lload_n 2, 1) := by decide +kernel
theorem d_P_takeKey_57 : decode b_P_takeKey 57 = .ok (.lxor, 1) := by decide +kernel
theorem d_P_takeKey_58 : decode b_P_takeKey 58 = .ok (.aload_n 0, 1) := by decide +kernel
theorem d_P_takeKey_59 : decode b_P_takeKey 59 = .ok (.getfield 27, 3) := by decide +kernel
theorem d_P_takeKey_62 : decode b_P_takeKey 62 = .ok (.getfield 262, 3) := by decide +kernel
theorem d_P_takeKey_65 : decode b_P_takeKey 65 = .ok (.lload_n 2, 1) := by decide +kernel
theorem d_P_takeKey_66 : decode b_P_takeKey 66 = .ok (.lxor, 1) := by decide +kernel
theorem d_P_takeKey_67 : decode b_P_takeKey 67 = .ok (.invokevirtual 77, 3) := by decide +kernel
theorem d_P_takeKey_70 : decode b_P_takeKey 70 = .ok (.return_, 1) := by decide +kernel
set_option maxRecDepth 100000 in
set_option maxHeartbeats 4000000 in
theorem c_P_takeKey (l : Launch) (G : Gt) (zp zph zpt zs zsf zsu zse zsl zsr zt ztm ztr ztl ztf ztd ztdq zc zcl zclq zcr zcrq zpb zpm : Nat) (hv : Nat → Int64) (ht : Nat → Int32) (hm : Int32) (ml mr : Int64) (fi us ex : Nat → Int32) (lf rg : Nat → Int64) (md : Nat → Int32) (re fl fr : Nat → Int64) (tk cu cv kl kr : Int64) (bf mg : Nat → Int64) (k : Int32) (y : Int64) (hk : ¬ f_P_isKeyNumber k = 0) : CtV l G y_P_takeKey b_P_takeKey 4 none rm_P_takeKey Sx [.ref zp, .int k, .long y] [ob zp 0 [.ref zph, .ref zpt, .int hm, .long ml, .long mr, .ref zs, .ref zt, .ref zc, .ref zpb, .ref zpm], aJ G zph 6 hv, aZ G zpt 6 ht, ob zs 1 [.ref zsf, .ref zsu, .ref zse, .ref zsl, .ref zsr], aZ G zsf 16 fi, aI G zsu 16 us, aZ G zse 16 ex, aJ G zsl 16 lf, aJ G zsr 16 rg, ob zt 2 [.ref ztm, .ref ztr, .ref ztl, .ref ztf, .ref ztd, .long cu, .long cv], aZ G ztm 8 md, aJ G ztr 8 re, aJ G ztl 8 fl, aJ G ztf 8 fr, ob ztd 4 [.ref ztdq, .long tk], aJ G ztdq 16 (rkF tk), ob zc 3 [.ref zcl, .ref zcr], ob zcl 4 [.ref zclq, .long kl], aJ G zclq 16 (rkF kl), ob zcr 4 [.ref zcrq, .long kr], aJ G zcrq 16 (rkF kr), aJ G zpb 5 bf, aJ G zpm 8 mg] (fun (_ : Unit) => True) (fun _ => [ob zp 0 [.ref zph, .ref zpt, .int hm, .long ml, .long mr, .ref zs, .ref zt, .ref zc, .ref zpb, .ref zpm], aJ G zph 6 hv, aZ G zpt 6 ht, ob zs 1 [.ref zsf, .ref zsu, .ref zse, .ref zsl, .ref zsr], aZ G zsf 16 fi, aI G zsu 16 us, aZ G zse 16 ex, aJ G zsl 16 lf, aJ G zsr 16 rg, ob zt 2 [.ref ztm, .ref ztr, .ref ztl, .ref ztf, .ref ztd, .long (g_P_takeKey_zt_5 re fl fr tk cu k), .long (g_P_takeKey_zt_6 re fl fr tk cv k)], aZ G ztm 8 md, aJ G ztr 8 re, aJ G ztl 8 fl, aJ G ztf 8 fr, ob ztd 4 [.ref ztdq, .long (g_P_takeKey_ztd_1 re fl fr tk k)], aJ G ztdq 16 (rkF (g_P_takeKey_ztd_1 re fl fr tk k)), ob zc 3 [.ref zcl, .ref zcr], ob zcl 4 [.ref zclq, .long (g_P_takeKey_zcl_1 lf re fl fr tk k y)], aJ G zclq 16 (rkF (g_P_takeKey_zcl_1 lf re fl fr tk k y)), ob zcr 4 [.ref zcrq, .long (g_P_takeKey_zcr_1 rg re fl fr tk k y)], aJ G zcrq 16 (rkF (g_P_takeKey_zcr_1 rg re fl fr tk k y)), aJ G zpb 5 bf, aJ G zpm 8 mg]) 0 0 := by
  refine Ct.of (Qp := fun A => va_Qv _ (qB G A _) A) Sx_stb (by decide) (Nat.le_of_ble_eq_true rfl) ?_
  intro p e s m args below meth c A X hE hr hlk hini
  refine pv_eql (ll2 := [(0, .ref zp), (1, .int k), (2, .long y)]) rfl ?_
  refine pv_iload_n X 1 d_P_takeKey_0 rfl ?_
  refine pv_bipush X 16 d_P_takeKey_1 (by decide) ?_
  refine pv_icmp_ge X 34 d_P_takeKey_3 rfl (fun h1 => ?_) (fun h1n => ?_)
  · skip
    refine pv_aload_n X 0 d_P_takeKey_34 rfl ?_
    refine pv_get X 0 6 u_P_in m_121 rfl rfl (by decide) ⟨rfl, rfl, rfl⟩ rfl d_P_takeKey_35 ?_
    refine pv_iload_n X 1 d_P_takeKey_38 rfl ?_
    refine pv_bipush X 16 d_P_takeKey_39 (by decide) ?_
    refine pv_isub X d_P_takeKey_41 ?_
    refine pv_callv X (Cut.mk (w0 := [ob zt 2 [.ref ztm, .ref ztr, .ref ztl, .ref ztf, .ref ztd, .long cu, .long cv], aZ G ztm 8 md, aJ G ztr 8 re, aJ G ztl 8 fl, aJ G ztf 8 fr, ob ztd 4 [.ref ztdq, .long tk], aJ G ztdq 16 (rkF tk)]) (wr := [ob zp 0 [.ref zph, .ref zpt, .int hm, .long ml, .long mr, .ref zs, .ref zt, .ref zc, .ref zpb, .ref zpm], aJ G zph 6 hv, aZ G zpt 6 ht, ob zs 1 [.ref zsf, .ref zsu, .ref zse, .ref zsl, .ref zsr], aZ G zsf 16 fi, aI G zsu 16 us, aZ G zse 16 ex, aJ G zsl 16 lf, aJ G zsr 16 rg, ob zc 3 [.ref zcl, .ref zcr], ob zcl 4 [.ref zclq, .long kl], aJ G zclq 16 (rkF kl), ob zcr 4 [.ref zcrq, .long kr], aJ G zcrq 16 (rkF kr), aJ G zpb 5 bf, aJ G zpm 8 mg]) [9, 10, 11, 12, 13, 14, 15] [0, 1, 2, 3, 4, 5, 6, 7, 8, 16, 17, 18, 19, 20, 21, 22] rfl rfl rfl rfl rfl) (rn_V X (c_T_deriveCurrentKey l G zt ztm ztr ztl ztf ztd ztdq md re fl fr tk cu cv (k - 16) (K_in2 hk h1)) hE mf_T_deriveCurrentKey m_351 m_352 m_353 rfl 0 rfl rfl rfl (by decide) (by decide) rfl (Nat.le_of_ble_eq_true rfl) d_P_takeKey_42) (fun x2 e2 => ?_)
    refine pv_ord (ws2 := [ob zp 0 [.ref zph, .ref zpt, .int hm, .long ml, .long mr, .ref zs, .ref zt, .ref zc, .ref zpb, .ref zpm], aJ G zph 6 hv, aZ G zpt 6 ht, ob zs 1 [.ref zsf, .ref zsu, .ref zse, .ref zsl, .ref zsr], aZ G zsf 16 fi, aI G zsu 16 us, aZ G zse 16 ex, aJ G zsl 16 lf, aJ G zsr 16 rg, ob zt 2 [.ref ztm, .ref ztr, .ref ztl, .ref ztf, .ref ztd, .long ((dk (re ((k - 16).toNatClampNeg)) (fl ((k - 16).toNatClampNeg)) (fr ((k - 16).toNatClampNeg)) tk 21).2.1), .long ((dk (re ((k - 16).toNatClampNeg)) (fl ((k - 16).toNatClampNeg)) (fr ((k - 16).toNatClampNeg)) tk 21).2.2.1)], aZ G ztm 8 md, aJ G ztr 8 re, aJ G ztl 8 fl, aJ G ztf 8 fr, ob ztd 4 [.ref ztdq, .long ((dk (re ((k - 16).toNatClampNeg)) (fl ((k - 16).toNatClampNeg)) (fr ((k - 16).toNatClampNeg)) tk 21).2.2.2)], aJ G ztdq 16 (rkF (dk (re ((k - 16).toNatClampNeg)) (fl ((k - 16).toNatClampNeg)) (fr ((k - 16).toNatClampNeg)) tk 21).2.2.2), ob zc 3 [.ref zcl, .ref zcr], ob zcl 4 [.ref zclq, .long kl], aJ G zclq 16 (rkF kl), ob zcr 4 [.ref zcrq, .long kr], aJ G zcrq 16 (rkF kr), aJ G zpb 5 bf, aJ G zpm 8 mg]) [0, 1, 2, 3, 4, 5, 6, 7, 8, 16, 17, 18, 19, 20, 21, 22, 9, 10, 11, 12, 13, 14, 15] rfl rfl ?_
    refine pv_aload_n X 0 d_P_takeKey_45 rfl ?_
    refine pv_get X 0 7 u_P_in m_122 rfl rfl (by decide) ⟨rfl, rfl, rfl⟩ rfl d_P_takeKey_46 ?_
    refine pv_aload_n X 0 d_P_takeKey_49 rfl ?_
    refine pv_get X 0 6 u_P_in m_121 rfl rfl (by decide) ⟨rfl, rfl, rfl⟩ rfl d_P_takeKey_50 ?_
    refine pv_get X 9 5 u_T_in m_80 rfl rfl (by decide) ⟨rfl, rfl, rfl⟩ rfl d_P_takeKey_53 ?_
    refine pv_lload_n X 2 d_P_takeKey_56 rfl ?_
    refine pv_lxor X d_P_takeKey_57 ?_
    refine pv_aload_n X 0 d_P_takeKey_58 rfl ?_
    refine pv_get X 0 6 u_P_in m_121 rfl rfl (by decide) ⟨rfl, rfl, rfl⟩ rfl d_P_takeKey_59 ?_
    refine pv_get X 9 6 u_T_in m_82 rfl rfl (by decide) ⟨rfl, rfl, rfl⟩ rfl d_P_takeKey_62 ?_
    refine pv_lload_n X 2 d_P_takeKey_65 rfl ?_
    refine pv_lxor X d_P_takeKey_66 ?_
    refine pv_callv X (Cut.mk (w0 := [ob zc 3 [.ref zcl, .ref zcr], ob zcl 4 [.ref zclq, .long kl], aJ G zclq 16 (rkF kl), ob zcr 4 [.ref zcrq, .long kr], aJ G zcrq 16 (rkF kr)]) (wr := [ob zp 0 [.ref zph, .ref zpt, .int hm, .long ml, .long mr, .ref zs, .ref zt, .ref zc, .ref zpb, .ref zpm], aJ G zph 6 hv, aZ G zpt 6 ht, ob zs 1 [.ref zsf, .ref zsu, .ref zse, .ref zsl, .ref zsr], aZ G zsf 16 fi, aI G zsu 16 us, aZ G zse 16 ex, aJ G zsl 16 lf, aJ G zsr 16 rg, ob zt 2 [.ref ztm, .ref ztr, .ref ztl, .ref ztf, .ref ztd, .long ((dk (re ((k - 16).toNatClampNeg)) (fl ((k - 16).toNatClampNeg)) (fr ((k - 16).toNatClampNeg)) tk 21).2.1), .long ((dk (re ((k - 16).toNatClampNeg)) (fl ((k - 16).toNatClampNeg)) (fr ((k - 16).toNatClampNeg)) tk 21).2.2.1)], aZ G ztm 8 md, aJ G ztr 8 re, aJ G ztl 8 fl, aJ G ztf 8 fr, ob ztd 4 [.ref ztdq, .long ((dk (re ((k - 16).toNatClampNeg)) (fl ((k - 16).toNatClampNeg)) (fr ((k - 16).toNatClampNeg)) tk 21).2.2.2)], aJ G ztdq 16 (rkF (dk (re ((k - 16).toNatClampNeg)) (fl ((k - 16).toNatClampNeg)) (fr ((k - 16).toNatClampNeg)) tk 21).2.2.2), aJ G zpb 5 bf, aJ G zpm 8 mg]) [16, 17, 18, 19, 20] [0, 1, 2, 3, 4, 5, 6, 7, 8, 9, 10, 11, 12, 13, 14, 15, 21, 22] rfl rfl rfl rfl rfl) (rn_V X (c_C_take l G zc zcl zclq zcr zcrq kl kr (((dk (re ((k - 16).toNatClampNeg)) (fl ((k - 16).toNatClampNeg)) (fr ((k - 16).toNatClampNeg)) tk 21).2.1) ^^^ y) (((dk (re ((k - 16).toNatClampNeg)) (fl ((k - 16).toNatClampNeg)) (fr ((k - 16).toNatClampNeg)) tk 21).2.2.1) ^^^ y)) hE mf_C_take m_167 m_168 m_169 rfl 0 rfl rfl rfl (by decide) (by decide) rfl (Nat.le_of_ble_eq_true rfl) d_P_takeKey_67) (fun x3 e3 => ?_)
    refine pv_ord (ws2 := [ob zp 0 [.ref zph, .ref zpt, .int hm, .long ml, .long mr, .ref zs, .ref zt, .ref zc, .ref zpb, .ref zpm], aJ G zph 6 hv, aZ G zpt 6 ht, ob zs 1 [.ref zsf, .ref zsu, .ref zse, .ref zsl, .ref zsr], aZ G zsf 16 fi, aI G zsu 16 us, aZ G zse 16 ex, aJ G zsl 16 lf, aJ G zsr 16 rg, ob zt 2 [.ref ztm, .ref ztr, .ref ztl, .ref ztf, .ref ztd, .long ((dk (re ((k - 16).toNatClampNeg)) (fl ((k - 16).toNatClampNeg)) (fr ((k - 16).toNatClampNeg)) tk 21).2.1), .long ((dk (re ((k - 16).toNatClampNeg)) (fl ((k - 16).toNatClampNeg)) (fr ((k - 16).toNatClampNeg)) tk 21).2.2.1)], aZ G ztm 8 md, aJ G ztr 8 re, aJ G ztl 8 fl, aJ G ztf 8 fr, ob ztd 4 [.ref ztdq, .long ((dk (re ((k - 16).toNatClampNeg)) (fl ((k - 16).toNatClampNeg)) (fr ((k - 16).toNatClampNeg)) tk 21).2.2.2)], aJ G ztdq 16 (rkF (dk (re ((k - 16).toNatClampNeg)) (fl ((k - 16).toNatClampNeg)) (fr ((k - 16).toNatClampNeg)) tk 21).2.2.2), ob zc 3 [.ref zcl, .ref zcr], ob zcl 4 [.ref zclq, .long (((dk (re ((k - 16).toNatClampNeg)) (fl ((k - 16).toNatClampNeg)) (fr ((k - 16).toNatClampNeg)) tk 21).2.1) ^^^ y)], aJ G zclq 16 (rkF (((dk (re ((k - 16).toNatClampNeg)) (fl ((k - 16).toNatClampNeg)) (fr ((k - 16).toNatClampNeg)) tk 21).2.1) ^^^ y)), ob zcr 4 [.ref zcrq, .long (((dk (re ((k - 16).toNatClampNeg)) (fl ((k - 16).toNatClampNeg)) (fr ((k - 16).toNatClampNeg)) tk 21).2.2.1) ^^^ y)], aJ G zcrq 16 (rkF (((dk (re ((k - 16).toNatClampNeg)) (fl ((k - 16).toNatClampNeg)) (fr ((k - 16).toNatClampNeg)) tk 21).2.2.1) ^^^ y)), aJ G zpb 5 bf, aJ G zpm 8 mg]) [0, 1, 2, 3, 4, 5, 6, 7, 8, 9, 10, 11, 12, 13, 14, 15, 18, 19, 20, 21, 22, 16, 17] rfl rfl ?_
    exact pv_vret X hr hlk () trivial (by simp only [g_P_takeKey_zt_5, g_P_takeKey_zt_6, g_P_takeKey_ztd_1, g_P_takeKey_zcl_1, g_P_takeKey_zcr_1, if_pos h1]) d_P_takeKey_70
  · skip
    refine pv_aload_n X 0 d_P_takeKey_6 rfl ?_
    refine pv_get X 0 7 u_P_in m_122 rfl rfl (by decide) ⟨rfl, rfl, rfl⟩ rfl d_P_takeKey_7 ?_
    refine pv_aload_n X 0 d_P_takeKey_10 rfl ?_
    refine pv_get X 0 5 u_P_in m_120 rfl rfl (by decide) ⟨rfl, rfl, rfl⟩ rfl d_P_takeKey_11 ?_
    refine pv_get X 3 3 u_S_in m_37 rfl rfl (by decide) ⟨rfl, rfl, rfl⟩ rfl d_P_takeKey_14 ?_
    refine pv_iload_n X 1 d_P_takeKey_17 rfl ?_
    refine pv_lald X 7 rfl (K_in1 hk h1n) d_P_takeKey_18 ?_
    refine pv_aload_n X 0 d_P_takeKey_19 rfl ?_
    refine pv_get X 0 5 u_P_in m_120 rfl rfl (by decide) ⟨rfl, rfl, rfl⟩ rfl d_P_takeKey_20 ?_
    refine pv_get X 3 4 u_S_in m_39 rfl rfl (by decide) ⟨rfl, rfl, rfl⟩ rfl d_P_takeKey_23 ?_
    refine pv_iload_n X 1 d_P_takeKey_26 rfl ?_
    refine pv_lald X 8 rfl (K_in1 hk h1n) d_P_takeKey_27 ?_
    refine pv_callv X (Cut.mk (w0 := [ob zc 3 [.ref zcl, .ref zcr], ob zcl 4 [.ref zclq, .long kl], aJ G zclq 16 (rkF kl), ob zcr 4 [.ref zcrq, .long kr], aJ G zcrq 16 (rkF kr)]) (wr := [ob zp 0 [.ref zph, .ref zpt, .int hm, .long ml, .long mr, .ref zs, .ref zt, .ref zc, .ref zpb, .ref zpm], aJ G zph 6 hv, aZ G zpt 6 ht, ob zs 1 [.ref zsf, .ref zsu, .ref zse, .ref zsl, .ref zsr], aZ G zsf 16 fi, aI G zsu 16 us, aZ G zse 16 ex, aJ G zsl 16 lf, aJ G zsr 16 rg, ob zt 2 [.ref ztm, .ref ztr, .ref ztl, .ref ztf, .ref ztd, .long cu, .long cv], aZ G ztm 8 md, aJ G ztr 8 re, aJ G ztl 8 fl, aJ G ztf 8 fr, ob ztd 4 [.ref ztdq, .long tk], aJ G ztdq 16 (rkF tk), aJ G zpb 5 bf, aJ G zpm 8 mg]) [16, 17, 18, 19, 20] [0, 1, 2, 3, 4, 5, 6, 7, 8, 9, 10, 11, 12, 13, 14, 15, 21, 22] rfl rfl rfl rfl rfl) (rn_V X (c_C_take l G zc zcl zclq zcr zcrq kl kr (lf k.toNatClampNeg) (rg k.toNatClampNeg)) hE mf_C_take m_167 m_168 m_169 rfl 0 rfl rfl rfl (by decide) (by decide) rfl (Nat.le_of_ble_eq_true rfl) d_P_takeKey_28) (fun x4 e4 => ?_)
    refine pv_ord (ws2 := [ob zp 0 [.ref zph, .ref zpt, .int hm, .long ml, .long mr, .ref zs, .ref zt, .ref zc, .ref zpb, .ref zpm], aJ G zph 6 hv, aZ G zpt 6 ht, ob zs 1 [.ref zsf, .ref zsu, .ref zse, .ref zsl, .ref zsr], aZ G zsf 16 fi, aI G zsu 16 us, aZ G zse 16 ex, aJ G zsl 16 lf, aJ G zsr 16 rg, ob zt 2 [.ref ztm, .ref ztr, .ref ztl, .ref ztf, .ref ztd, .long cu, .long cv], aZ G ztm 8 md, aJ G ztr 8 re, aJ G ztl 8 fl, aJ G ztf 8 fr, ob ztd 4 [.ref ztdq, .long tk], aJ G ztdq 16 (rkF tk), ob zc 3 [.ref zcl, .ref zcr], ob zcl 4 [.ref zclq, .long (lf k.toNatClampNeg)], aJ G zclq 16 (rkF (lf k.toNatClampNeg)), ob zcr 4 [.ref zcrq, .long (rg k.toNatClampNeg)], aJ G zcrq 16 (rkF (rg k.toNatClampNeg)), aJ G zpb 5 bf, aJ G zpm 8 mg]) [0, 1, 2, 3, 4, 5, 6, 7, 8, 9, 10, 11, 12, 13, 14, 15, 18, 19, 20, 21, 22, 16, 17] rfl rfl ?_
    refine pv_goto X 70 d_P_takeKey_31 rfl ?_
    exact pv_vret X hr hlk () trivial (by simp only [g_P_takeKey_zt_5, g_P_takeKey_zt_6, g_P_takeKey_ztd_1, g_P_takeKey_zcl_1, g_P_takeKey_zcr_1, if_neg h1n]) d_P_takeKey_70
def f_P_openedPinBlock (kl : Int64) (kr : Int64) (bf : Nat → Int64) (f : Int32) (a : Int64) : Int64 := (openB kl kr (bf 0)) ^^^ (f_B_accountPart f a)
abbrev rm_P_openedPinBlock : Room := { frames := 4, cells := 0, slots := 0, locals := 100 }
theorem mf_P_openedPinBlock : MF y_P_openedPinBlock b_P_openedPinBlock 4 (some .long) 2 := ⟨m_406, m_1, by decide, by decide, by decide +kernel⟩
theorem d_P_openedPinBlock_0 : decode b_P_openedPinBlock 0 = .ok (.aload_n 0, 1) := by decide +kernel
theorem d_P_openedPinBlock_1 : decode b_P_openedPinBlock 1 = .ok (.getfield 34, 3) := by decide +kernel
theorem d_P_openedPinBlock_4 : decode b_P_openedPinBlock 4 = .ok (.aload_n 0, 1) := by decide +kernel
theorem d_P_openedPinBlock_5 : decode b_P_openedPinBlock 5 = .ok (.getfield 38, 3) := by decide +kernel
theorem d_P_openedPinBlock_8 : decode b_P_openedPinBlock 8 = .ok (.iconst 0, 1) := by decide +kernel
theorem d_P_openedPinBlock_9 : decode b_P_openedPinBlock 9 = .ok (.laload, 1) := by decide +kernel
theorem d_P_openedPinBlock_10 : decode b_P_openedPinBlock 10 = .ok (.invokevirtual 148, 3) := by decide +kernel
theorem d_P_openedPinBlock_13 : decode b_P_openedPinBlock 13 = .ok (.iload_n 1, 1) := by decide +kernel
theorem d_P_openedPinBlock_14 : decode b_P_openedPinBlock 14 = .ok (.lload_n 2, 1) := by decide +kernel
theorem d_P_openedPinBlock_15 : decode b_P_openedPinBlock 15 = .ok (.invokestatic 265, 3) := by decide +kernel
theorem d_P_openedPinBlock_18 : decode b_P_openedPinBlock 18 = .ok (.lxor, 1) := by decide +kernel
theorem d_P_openedPinBlock_19 : decode b_P_openedPinBlock 19 = .ok (.lreturn, 1) := by decide +kernel
set_option maxRecDepth 100000 in
set_option maxHeartbeats 4000000 in
theorem c_P_openedPinBlock (l : Launch) (G : Gt) (zp zph zpt zs zsf zsu zse zsl zsr zt ztm ztr ztl ztf ztd ztdq zc zcl zclq zcr zcrq zpb zpm : Nat) (hv : Nat → Int64) (ht : Nat → Int32) (hm : Int32) (ml mr : Int64) (fi us ex : Nat → Int32) (lf rg : Nat → Int64) (md : Nat → Int32) (re fl fr : Nat → Int64) (tk cu cv kl kr : Int64) (bf mg : Nat → Int64) (f : Int32) (a : Int64) : CtL l G y_P_openedPinBlock b_P_openedPinBlock 4 (some .long) rm_P_openedPinBlock Sx [.ref zp, .int f, .long a] [ob zp 0 [.ref zph, .ref zpt, .int hm, .long ml, .long mr, .ref zs, .ref zt, .ref zc, .ref zpb, .ref zpm], aJ G zph 6 hv, aZ G zpt 6 ht, ob zs 1 [.ref zsf, .ref zsu, .ref zse, .ref zsl, .ref zsr], aZ G zsf 16 fi, aI G zsu 16 us, aZ G zse 16 ex, aJ G zsl 16 lf, aJ G zsr 16 rg, ob zt 2 [.ref ztm, .ref ztr, .ref ztl, .ref ztf, .ref ztd, .long cu, .long cv], aZ G ztm 8 md, aJ G ztr 8 re, aJ G ztl 8 fl, aJ G ztf 8 fr, ob ztd 4 [.ref ztdq, .long tk], aJ G ztdq 16 (rkF tk), ob zc 3 [.ref zcl, .ref zcr], ob zcl 4 [.ref zclq, .long kl], aJ G zclq 16 (rkF kl), ob zcr 4 [.ref zcrq, .long kr], aJ G zcrq 16 (rkF kr), aJ G zpb 5 bf, aJ G zpm 8 mg] (fun r (_ : Unit) => r = f_P_openedPinBlock kl kr bf f a) (fun _ => [ob zp 0 [.ref zph, .ref zpt, .int hm, .long ml, .long mr, .ref zs, .ref zt, .ref zc, .ref zpb, .ref zpm], aJ G zph 6 hv, aZ G zpt 6 ht, ob zs 1 [.ref zsf, .ref zsu, .ref zse, .ref zsl, .ref zsr], aZ G zsf 16 fi, aI G zsu 16 us, aZ G zse 16 ex, aJ G zsl 16 lf, aJ G zsr 16 rg, ob zt 2 [.ref ztm, .ref ztr, .ref ztl, .ref ztf, .ref ztd, .long cu, .long cv], aZ G ztm 8 md, aJ G ztr 8 re, aJ G ztl 8 fl, aJ G ztf 8 fr, ob ztd 4 [.ref ztdq, .long tk], aJ G ztdq 16 (rkF tk), ob zc 3 [.ref zcl, .ref zcr], ob zcl 4 [.ref zclq, .long kl], aJ G zclq 16 (rkF kl), ob zcr 4 [.ref zcrq, .long kr], aJ G zcrq 16 (rkF kr), aJ G zpb 5 bf, aJ G zpm 8 mg]) 0 0 := by
  refine Ct.of (Qp := fun A => va_Ql _ (qB G A _) A) Sx_stb (by decide) (Nat.le_of_ble_eq_true rfl) ?_
  intro p e s m args below meth c A X hE hr hlk hini
  refine pv_eql (ll2 := [(0, .ref zp), (1, .int f), (2, .long a)]) rfl ?_
  refine pv_aload_n X 0 d_P_openedPinBlock_0 rfl ?_
  refine pv_get X 0 7 u_P_in m_122 rfl rfl (by decide) ⟨rfl, rfl, rfl⟩ rfl d_P_openedPinBlock_1 ?_
  refine pv_aload_n X 0 d_P_openedPinBlock_4 rfl ?_
  refine pv_get X 0 8 u_P_in m_123 rfl rfl (by decide) ⟨rfl, rfl, rfl⟩ rfl d_P_openedPinBlock_5 ?_
  refine pv_iconst X 0 d_P_openedPinBlock_8 (by decide) ?_
  refine pv_lald X 21 rfl (by unfold vp_in; decide) d_P_openedPinBlock_9 ?_
  refine pv_topl (bf 0) rfl ?_
  refine pv_calllE X (Cut.mk (w0 := [ob zc 3 [.ref zcl, .ref zcr], ob zcl 4 [.ref zclq, .long kl], aJ G zclq 16 (rkF kl), ob zcr 4 [.ref zcrq, .long kr], aJ G zcrq 16 (rkF kr)]) (wr := [ob zp 0 [.ref zph, .ref zpt, .int hm, .long ml, .long mr, .ref zs, .ref zt, .ref zc, .ref zpb, .ref zpm], aJ G zph 6 hv, aZ G zpt 6 ht, ob zs 1 [.ref zsf, .ref zsu, .ref zse, .ref zsl, .ref zsr], aZ G zsf 16 fi, aI G zsu 16 us, aZ G zse 16 ex, aJ G zsl 16 lf, aJ G zsr 16 rg, ob zt 2 [.ref ztm, .ref ztr, .ref ztl, .ref ztf, .ref ztd, .long cu, .long cv], aZ G ztm 8 md, aJ G ztr 8 re, aJ G ztl 8 fl, aJ G ztf 8 fr, ob ztd 4 [.ref ztdq, .long tk], aJ G ztdq 16 (rkF tk), aJ G zpb 5 bf, aJ G zpm 8 mg]) [16, 17, 18, 19, 20] [0, 1, 2, 3, 4, 5, 6, 7, 8, 9, 10, 11, 12, 13, 14, 15, 21, 22] rfl rfl rfl rfl rfl) (rn_V X (c_C_openBlock l G zc zcl zclq zcr zcrq kl kr (bf 0)) hE mf_C_openBlock m_269 m_270 m_271 rfl 0 rfl rfl rfl (by decide) (by decide) rfl (Nat.le_of_ble_eq_true rfl) d_P_openedPinBlock_10) (fun x1 => ?_)
  refine pv_ord (ws2 := [ob zp 0 [.ref zph, .ref zpt, .int hm, .long ml, .long mr, .ref zs, .ref zt, .ref zc, .ref zpb, .ref zpm], aJ G zph 6 hv, aZ G zpt 6 ht, ob zs 1 [.ref zsf, .ref zsu, .ref zse, .ref zsl, .ref zsr], aZ G zsf 16 fi, aI G zsu 16 us, aZ G zse 16 ex, aJ G zsl 16 lf, aJ G zsr 16 rg, ob zt 2 [.ref ztm, .ref ztr, .ref ztl, .ref ztf, .ref ztd, .long cu, .long cv], aZ G ztm 8 md, aJ G ztr 8 re, aJ G ztl 8 fl, aJ G ztf 8 fr, ob ztd 4 [.ref ztdq, .long tk], aJ G ztdq 16 (rkF tk), ob zc 3 [.ref zcl, .ref zcr], ob zcl 4 [.ref zclq, .long kl], aJ G zclq 16 (rkF kl), ob zcr 4 [.ref zcrq, .long kr], aJ G zcrq 16 (rkF kr), aJ G zpb 5 bf, aJ G zpm 8 mg]) [0, 1, 2, 3, 4, 5, 6, 7, 8, 9, 10, 11, 12, 13, 14, 15, 18, 19, 20, 21, 22, 16, 17] rfl rfl ?_
  refine pv_iload_n X 1 d_P_openedPinBlock_13 rfl ?_
  refine pv_lload_n X 2 d_P_openedPinBlock_14 rfl ?_
  refine pv_calll0 X (rn_S X (c_B_accountPart l G f a) trivial mf_B_accountPart m_407 m_396 rfl (by decide) (by decide) rfl (Nat.le_of_ble_eq_true rfl) d_P_openedPinBlock_15) ?_
  refine pv_lxor X d_P_openedPinBlock_18 ?_
  exact pv_lret X hr hlk () rfl rfl d_P_openedPinBlock_19
def f_P_codeOfKeyBlock (ml : Int64) (mr : Int64) (bf : Nat → Int64) : Int64 := sealB (ml ^^^ (5570193308531903821 : Int64)) (mr ^^^ (5570193308531903821 : Int64)) ((sealB (ml ^^^ (5570193308531903821 : Int64)) (mr ^^^ (5570193308531903821 : Int64)) ((sealB (ml ^^^ (5570193308531903821 : Int64)) (mr ^^^ (5570193308531903821 : Int64)) ((sealB (ml ^^^ (5570193308531903821 : Int64)) (mr ^^^ (5570193308531903821 : Int64)) ((0 : Int64) ^^^ (bf 0))) ^^^ (bf 1))) ^^^ (bf 2))) ^^^ (bf 3))
def g_P_codeOfKeyBlock_zcl_1 (ml : Int64) : Int64 := ml ^^^ (5570193308531903821 : Int64)
def g_P_codeOfKeyBlock_zcr_1 (mr : Int64) : Int64 := mr ^^^ (5570193308531903821 : Int64)
abbrev rm_P_codeOfKeyBlock : Room := { frames := 4, cells := 0, slots := 0, locals := 100 }
theorem mf_P_codeOfKeyBlock : MF y_P_codeOfKeyBlock b_P_codeOfKeyBlock 4 (some .long) 0 := ⟨m_259, m_1, by decide, by decide, by decide +kernel⟩
theorem d_P_codeOfKeyBlock_0 : decode b_P_codeOfKeyBlock 0 = .ok (.aload_n 0, 1) := by decide +kernel
theorem d_P_codeOfKeyBlock_1 : decode b_P_codeOfKeyBlock 1 = .ok (.getfield 34, 3) := by decide +kernel
theorem d_P_codeOfKeyBlock_4 : decode b_P_codeOfKeyBlock 4 = .ok (.aload_n 0, 1) := by decide +kernel
theorem d_P_codeOfKeyBlock_5 : decode b_P_codeOfKeyBlock 5 = .ok (.getfield 70, 3) := by decide +kernel
theorem d_P_codeOfKeyBlock_8 : decode b_P_codeOfKeyBlock 8 = .ok (.ldc2_w 268, 3) := by decide +kernel
theorem d_P_codeOfKeyBlock_11 : decode b_P_codeOfKeyBlock 11 = .ok (.lxor, 1) := by decide +kernel
theorem d_P_codeOfKeyBlock_12 : decode b_P_codeOfKeyBlock 12 = .ok (.aload_n 0, 1) := by decide +kernel
theorem d_P_codeOfKeyBlock_13 : decode b_P_codeOfKeyBlock 13 = .ok (.getfield 74, 3) := by decide +kernel
theorem d_P_codeOfKeyBlock_16 : decode b_P_codeOfKeyBlock 16 = .ok (.ldc2_w 268, 3) := by decide +kernel
theorem d_P_codeOfKeyBlock_19 : decode b_P_codeOfKeyBlock 19 = .ok (.lxor, 1) := by decide +kernel
theorem d_P_codeOfKeyBlock_20 : decode b_P_codeOfKeyBlock 20 = .ok (.invokevirtual 77, 3) := by decide +kernel
theorem d_P_codeOfKeyBlock_23 : decode b_P_codeOfKeyBlock 23 = .ok (.lconst 0, 1) := by decide +kernel
theorem d_P_codeOfKeyBlock_24 : decode b_P_codeOfKeyBlock 24 = .ok (.lstore_n 1, 1) := by decide +kernel
theorem d_P_codeOfKeyBlock_25 : decode b_P_codeOfKeyBlock 25 = .ok (.iconst 0, 1) := by decide +kernel
theorem d_P_codeOfKeyBlock_26 : decode b_P_codeOfKeyBlock 26 = .ok (.istore_n 3, 1) := by decide +kernel
theorem d_P_codeOfKeyBlock_27 : decode b_P_codeOfKeyBlock 27 = .ok (.iload_n 3, 1) := by decide +kernel
theorem d_P_codeOfKeyBlock_28 : decode b_P_codeOfKeyBlock 28 = .ok (.iconst 4, 1) := by decide +kernel
theorem d_P_codeOfKeyBlock_29 : decode b_P_codeOfKeyBlock 29 = .ok (.if_icmp .ge 25, 3) := by decide +kernel
theorem d_P_codeOfKeyBlock_32 : decode b_P_codeOfKeyBlock 32 = .ok (.aload_n 0, 1) := by decide +kernel
theorem d_P_codeOfKeyBlock_33 : decode b_P_codeOfKeyBlock 33 = .ok (.getfield 34, 3) := by decide +kernel
theorem d_P_codeOfKeyBlock_36 : decode b_P_codeOfKeyBlock 36 = .ok (.lload_n 1, 1) := by decide +kernel
theorem d_P_codeOfKeyBlock_37 : decode b_P_codeOfKeyBlock 37 = .ok (.aload_n 0, 1) := by decide +kernel
theorem d_P_codeOfKeyBlock_38 : decode b_P_codeOfKeyBlock 38 = .ok (.getfield 38, 3) := by decide +kernel
theorem d_P_codeOfKeyBlock_41 : decode b_P_codeOfKeyBlock 41 = .ok (.iload_n 3, 1) := by decide +kernel
theorem d_P_codeOfKeyBlock_42 : decode b_P_codeOfKeyBlock 42 = .ok (.laload, 1) := by decide +kernel
theorem d_P_codeOfKeyBlock_43 : decode b_P_codeOfKeyBlock 43 = .ok (.lxor, 1) := by decide +kernel
theorem d_P_codeOfKeyBlock_44 : decode b_P_codeOfKeyBlock 44 = .ok (.invokevirtual 137, 3) := by decide +kernel
theorem d_P_codeOfKeyBlock_47 : decode b_P_codeOfKeyBlock 47 = .ok (.lstore_n 1, 1) := by decide +kernel
theorem d_P_codeOfKeyBlock_48 : decode b_P_codeOfKeyBlock 48 = .ok (.iinc 3 1, 3) := by decide +kernel
theorem d_P_codeOfKeyBlock_51 : decode b_P_codeOfKeyBlock 51 = .ok (.goto (-24), 3) := by decide +kernel
theorem d_P_codeOfKeyBlock_54 : decode b_P_codeOfKeyBlock 54 = .ok (.lload_n 1, 1) := by decide +kernel
theorem d_P_codeOfKeyBlock_55 : decode b_P_codeOfKeyBlock 55 = .ok (.lreturn, 1) := by decide +kernel
set_option maxRecDepth 100000 in
set_option maxHeartbeats 4000000 in
theorem c_P_codeOfKeyBlock (l : Launch) (G : Gt) (zp zph zpt zs zsf zsu zse zsl zsr zt ztm ztr ztl ztf ztd ztdq zc zcl zclq zcr zcrq zpb zpm : Nat) (hv : Nat → Int64) (ht : Nat → Int32) (hm : Int32) (ml mr : Int64) (fi us ex : Nat → Int32) (lf rg : Nat → Int64) (md : Nat → Int32) (re fl fr : Nat → Int64) (tk cu cv kl kr : Int64) (bf mg : Nat → Int64)  : CtL l G y_P_codeOfKeyBlock b_P_codeOfKeyBlock 4 (some .long) rm_P_codeOfKeyBlock Sx [.ref zp] [ob zp 0 [.ref zph, .ref zpt, .int hm, .long ml, .long mr, .ref zs, .ref zt, .ref zc, .ref zpb, .ref zpm], aJ G zph 6 hv, aZ G zpt 6 ht, ob zs 1 [.ref zsf, .ref zsu, .ref zse, .ref zsl, .ref zsr], aZ G zsf 16 fi, aI G zsu 16 us, aZ G zse 16 ex, aJ G zsl 16 lf, aJ G zsr 16 rg, ob zt 2 [.ref ztm, .ref ztr, .ref ztl, .ref ztf, .ref ztd, .long cu, .long cv], aZ G ztm 8 md, aJ G ztr 8 re, aJ G ztl 8 fl, aJ G ztf 8 fr, ob ztd 4 [.ref ztdq, .long tk], aJ G ztdq 16 (rkF tk), ob zc 3 [.ref zcl, .ref zcr], ob zcl 4 [.ref zclq, .long kl], aJ G zclq 16 (rkF kl), ob zcr 4 [.ref zcrq, .long kr], aJ G zcrq 16 (rkF kr), aJ G zpb 5 bf, aJ G zpm 8 mg] (fun r (_ : Unit) => r = f_P_codeOfKeyBlock ml mr bf) (fun _ => [ob zp 0 [.ref zph, .ref zpt, .int hm, .long ml, .long mr, .ref zs, .ref zt, .ref zc, .ref zpb, .ref zpm], aJ G zph 6 hv, aZ G zpt 6 ht, ob zs 1 [.ref zsf, .ref zsu, .ref zse, .ref zsl, .ref zsr], aZ G zsf 16 fi, aI G zsu 16 us, aZ G zse 16 ex, aJ G zsl 16 lf, aJ G zsr 16 rg, ob zt 2 [.ref ztm, .ref ztr, .ref ztl, .ref ztf, .ref ztd, .long cu, .long cv], aZ G ztm 8 md, aJ G ztr 8 re, aJ G ztl 8 fl, aJ G ztf 8 fr, ob ztd 4 [.ref ztdq, .long tk], aJ G ztdq 16 (rkF tk), ob zc 3 [.ref zcl, .ref zcr], ob zcl 4 [.ref zclq, .long (g_P_codeOfKeyBlock_zcl_1 ml)], aJ G zclq 16 (rkF (g_P_codeOfKeyBlock_zcl_1 ml)), ob zcr 4 [.ref zcrq, .long (g_P_codeOfKeyBlock_zcr_1 mr)], aJ G zcrq 16 (rkF (g_P_codeOfKeyBlock_zcr_1 mr)), aJ G zpb 5 bf, aJ G zpm 8 mg]) 0 0 := by
  refine Ct.of (Qp := fun A => va_Ql _ (qB G A _) A) Sx_stb (by decide) (Nat.le_of_ble_eq_true rfl) ?_
  intro p e s m args below meth c A X hE hr hlk hini
  refine pv_eql (ll2 := [(0, .ref zp)]) rfl ?_
  refine pv_aload_n X 0 d_P_codeOfKeyBlock_0 rfl ?_
  refine pv_get X 0 7 u_P_in m_122 rfl rfl (by decide) ⟨rfl, rfl, rfl⟩ rfl d_P_codeOfKeyBlock_1 ?_
  refine pv_aload_n X 0 d_P_codeOfKeyBlock_4 rfl ?_
  refine pv_get X 0 3 u_P_in m_118 rfl rfl (by decide) ⟨rfl, rfl, rfl⟩ rfl d_P_codeOfKeyBlock_5 ?_
  refine pv_ldc2_w X m_260 d_P_codeOfKeyBlock_8 ?_
  refine pv_lxor X d_P_codeOfKeyBlock_11 ?_
  refine pv_aload_n X 0 d_P_codeOfKeyBlock_12 rfl ?_
  refine pv_get X 0 4 u_P_in m_119 rfl rfl (by decide) ⟨rfl, rfl, rfl⟩ rfl d_P_codeOfKeyBlock_13 ?_
  refine pv_ldc2_w X m_260 d_P_codeOfKeyBlock_16 ?_
  refine pv_lxor X d_P_codeOfKeyBlock_19 ?_
  refine pv_callv X (Cut.mk (w0 := [ob zc 3 [.ref zcl, .ref zcr], ob zcl 4 [.ref zclq, .long kl], aJ G zclq 16 (rkF kl), ob zcr 4 [.ref zcrq, .long kr], aJ G zcrq 16 (rkF kr)]) (wr := [ob zp 0 [.ref zph, .ref zpt, .int hm, .long ml, .long mr, .ref zs, .ref zt, .ref zc, .ref zpb, .ref zpm], aJ G zph 6 hv, aZ G zpt 6 ht, ob zs 1 [.ref zsf, .ref zsu, .ref zse, .ref zsl, .ref zsr], aZ G zsf 16 fi, aI G zsu 16 us, aZ G zse 16 ex, aJ G zsl 16 lf, aJ G zsr 16 rg, ob zt 2 [.ref ztm, .ref ztr, .ref ztl, .ref ztf, .ref ztd, .long cu, .long cv], aZ G ztm 8 md, aJ G ztr 8 re, aJ G ztl 8 fl, aJ G ztf 8 fr, ob ztd 4 [.ref ztdq, .long tk], aJ G ztdq 16 (rkF tk), aJ G zpb 5 bf, aJ G zpm 8 mg]) [16, 17, 18, 19, 20] [0, 1, 2, 3, 4, 5, 6, 7, 8, 9, 10, 11, 12, 13, 14, 15, 21, 22] rfl rfl rfl rfl rfl) (rn_V X (c_C_take l G zc zcl zclq zcr zcrq kl kr (ml ^^^ (5570193308531903821 : Int64)) (mr ^^^ (5570193308531903821 : Int64))) hE mf_C_take m_167 m_168 m_169 rfl 0 rfl rfl rfl (by decide) (by decide) rfl (Nat.le_of_ble_eq_true rfl) d_P_codeOfKeyBlock_20) (fun x1 e1 => ?_)
  refine pv_ord (ws2 := [ob zp 0 [.ref zph, .ref zpt, .int hm, .long ml, .long mr, .ref zs, .ref zt, .ref zc, .ref zpb, .ref zpm], aJ G zph 6 hv, aZ G zpt 6 ht, ob zs 1 [.ref zsf, .ref zsu, .ref zse, .ref zsl, .ref zsr], aZ G zsf 16 fi, aI G zsu 16 us, aZ G zse 16 ex, aJ G zsl 16 lf, aJ G zsr 16 rg, ob zt 2 [.ref ztm, .ref ztr, .ref ztl, .ref ztf, .ref ztd, .long cu, .long cv], aZ G ztm 8 md, aJ G ztr 8 re, aJ G ztl 8 fl, aJ G ztf 8 fr, ob ztd 4 [.ref ztdq, .long tk], aJ G ztdq 16 (rkF tk), ob zc 3 [.ref zcl, .ref zcr], ob zcl 4 [.ref zclq, .long (ml ^^^ (5570193308531903821 : Int64))], aJ G zclq 16 (rkF (ml ^^^ (5570193308531903821 : Int64))), ob zcr 4 [.ref zcrq, .long (mr ^^^ (5570193308531903821 : Int64))], aJ G zcrq 16 (rkF (mr ^^^ (5570193308531903821 : Int64))), aJ G zpb 5 bf, aJ G zpm 8 mg]) [0, 1, 2, 3, 4, 5, 6, 7, 8, 9, 10, 11, 12, 13, 14, 15, 18, 19, 20, 21, 22, 16, 17] rfl rfl ?_
  refine pv_lconst X 0 d_P_codeOfKeyBlock_23 (by decide) ?_
  refine pv_lstore_n (ll2 := [(1, .long (0 : Int64)), (0, .ref zp)]) X d_P_codeOfKeyBlock_24 (by decide) rfl ?_
  refine pv_iconst X 0 d_P_codeOfKeyBlock_25 (by decide) ?_
  refine pv_istore_n (ll2 := [(3, .int 0), (1, .long (0 : Int64)), (0, .ref zp)]) X d_P_codeOfKeyBlock_26 (by decide) rfl ?_
  refine pv_iload_n X 0 d_P_codeOfKeyBlock_27 rfl ?_
  refine pv_iconst X 4 d_P_codeOfKeyBlock_28 (by decide) ?_
  refine pv_icmp_ge X 54 d_P_codeOfKeyBlock_29 rfl (fun h => absurd h (by decide)) (fun _ => ?_)
  refine pv_aload_n X 2 d_P_codeOfKeyBlock_32 rfl ?_
  refine pv_get X 0 7 u_P_in m_122 rfl rfl (by decide) ⟨rfl, rfl, rfl⟩ rfl d_P_codeOfKeyBlock_33 ?_
  refine pv_lload_n X 1 d_P_codeOfKeyBlock_36 rfl ?_
  refine pv_aload_n X 2 d_P_codeOfKeyBlock_37 rfl ?_
  refine pv_get X 0 8 u_P_in m_123 rfl rfl (by decide) ⟨rfl, rfl, rfl⟩ rfl d_P_codeOfKeyBlock_38 ?_
  refine pv_iload_n X 0 d_P_codeOfKeyBlock_41 rfl ?_
  refine pv_lald X 21 rfl (by unfold vp_in; decide) d_P_codeOfKeyBlock_42 ?_
  refine pv_topl (bf 0) rfl ?_
  refine pv_lxor X d_P_codeOfKeyBlock_43 ?_
  refine pv_calllE X (Cut.mk (w0 := [ob zc 3 [.ref zcl, .ref zcr], ob zcl 4 [.ref zclq, .long (ml ^^^ (5570193308531903821 : Int64))], aJ G zclq 16 (rkF (ml ^^^ (5570193308531903821 : Int64))), ob zcr 4 [.ref zcrq, .long (mr ^^^ (5570193308531903821 : Int64))], aJ G zcrq 16 (rkF (mr ^^^ (5570193308531903821 : Int64)))]) (wr := [ob zp 0 [.ref zph, .ref zpt, .int hm, .long ml, .long mr, .ref zs, .ref zt, .ref zc, .ref zpb, .ref zpm], aJ G zph 6 hv, aZ G zpt 6 ht, ob zs 1 [.ref zsf, .ref zsu, .ref zse, .ref zsl, .ref zsr], aZ G zsf 16 fi, aI G zsu 16 us, aZ G zse 16 ex, aJ G zsl 16 lf, aJ G zsr 16 rg, ob zt 2 [.ref ztm, .ref ztr, .ref ztl, .ref ztf, .ref ztd, .long cu, .long cv], aZ G ztm 8 md, aJ G ztr 8 re, aJ G ztl 8 fl, aJ G ztf 8 fr, ob ztd 4 [.ref ztdq, .long tk], aJ G ztdq 16 (rkF tk), aJ G zpb 5 bf, aJ G zpm 8 mg]) [16, 17, 18, 19, 20] [0, 1, 2, 3, 4, 5, 6, 7, 8, 9, 10, 11, 12, 13, 14, 15, 21, 22] rfl rfl rfl rfl rfl) (rn_V X (c_C_sealBlock l G zc zcl zclq zcr zcrq (ml ^^^ (5570193308531903821 : Int64)) (mr ^^^ (5570193308531903821 : Int64)) ((0 : Int64) ^^^ (bf 0))) hE mf_C_sealBlock m_255 m_193 m_194 rfl 0 rfl rfl rfl (by decide) (by decide) rfl (Nat.le_of_ble_eq_true rfl) d_P_codeOfKeyBlock_44) (fun x2 => ?_)
  refine pv_ord (ws2 := [ob zp 0 [.ref zph, .ref zpt, .int hm, .long ml, .long mr, .ref zs, .ref zt, .ref zc, .ref zpb, .ref zpm], aJ G zph 6 hv, aZ G zpt 6 ht, ob zs 1 [.ref zsf, .ref zsu, .ref zse, .ref zsl, .ref zsr], aZ G zsf 16 fi, aI G zsu 16 us, aZ G zse 16 ex, aJ G zsl 16 lf, aJ G zsr 16 rg, ob zt 2 [.ref ztm, .ref ztr, .ref ztl, .ref ztf, .ref ztd, .long cu, .long cv], aZ G ztm 8 md, aJ G ztr 8 re, aJ G ztl 8 fl, aJ G ztf 8 fr, ob ztd 4 [.ref ztdq, .long tk], aJ G ztdq 16 (rkF tk), ob zc 3 [.ref zcl, .ref zcr], ob zcl 4 [.ref zclq, .long (ml ^^^ (5570193308531903821 : Int64))], aJ G zclq 16 (rkF (ml ^^^ (5570193308531903821 : Int64))), ob zcr 4 [.ref zcrq, .long (mr ^^^ (5570193308531903821 : Int64))], aJ G zcrq 16 (rkF (mr ^^^ (5570193308531903821 : Int64))), aJ G zpb 5 bf, aJ G zpm 8 mg]) [0, 1, 2, 3, 4, 5, 6, 7, 8, 9, 10, 11, 12, 13, 14, 15, 18, 19, 20, 21, 22, 16, 17] rfl rfl ?_
  refine pv_lstore_n (ll2 := [(1, .long (sealB (ml ^^^ (5570193308531903821 : Int64)) (mr ^^^ (5570193308531903821 : Int64)) ((0 : Int64) ^^^ (bf 0)))), (3, .int 0), (0, .ref zp)]) X d_P_codeOfKeyBlock_47 (by decide) rfl ?_
  refine pv_iinc (ll2 := [(3, .int 1), (1, .long (sealB (ml ^^^ (5570193308531903821 : Int64)) (mr ^^^ (5570193308531903821 : Int64)) ((0 : Int64) ^^^ (bf 0)))), (0, .ref zp)]) X 1 (1) d_P_codeOfKeyBlock_48 rfl (by decide) (by decide) rfl ?_
  refine pv_goto X 27 d_P_codeOfKeyBlock_51 rfl ?_
  refine pv_iload_n X 0 d_P_codeOfKeyBlock_27 rfl ?_
  refine pv_iconst X 4 d_P_codeOfKeyBlock_28 (by decide) ?_
  refine pv_icmp_ge X 54 d_P_codeOfKeyBlock_29 rfl (fun h => absurd h (by decide)) (fun _ => ?_)
  refine pv_aload_n X 2 d_P_codeOfKeyBlock_32 rfl ?_
  refine pv_get X 0 7 u_P_in m_122 rfl rfl (by decide) ⟨rfl, rfl, rfl⟩ rfl d_P_codeOfKeyBlock_33 ?_
  refine pv_lload_n X 1 d_P_codeOfKeyBlock_36 rfl ?_
  refine pv_aload_n X 2 d_P_codeOfKeyBlock_37 rfl ?_
  refine pv_get X 0 8 u_P_in m_123 rfl rfl (by decide) ⟨rfl, rfl, rfl⟩ rfl d_P_codeOfKeyBlock_38 ?_
  refine pv_iload_n X 0 d_P_codeOfKeyBlock_41 rfl ?_
  refine pv_lald X 21 rfl (by unfold vp_in; decide) d_P_codeOfKeyBlock_42 ?_
  refine pv_topl (bf 1) rfl ?_
  refine pv_lxor X d_P_codeOfKeyBlock_43 ?_
  refine pv_calllE X (Cut.mk (w0 := [ob zc 3 [.ref zcl, .ref zcr], ob zcl 4 [.ref zclq, .long (ml ^^^ (5570193308531903821 : Int64))], aJ G zclq 16 (rkF (ml ^^^ (5570193308531903821 : Int64))), ob zcr 4 [.ref zcrq, .long (mr ^^^ (5570193308531903821 : Int64))], aJ G zcrq 16 (rkF (mr ^^^ (5570193308531903821 : Int64)))]) (wr := [ob zp 0 [.ref zph, .ref zpt, .int hm, .long ml, .long mr, .ref zs, .ref zt, .ref zc, .ref zpb, .ref zpm], aJ G zph 6 hv, aZ G zpt 6 ht, ob zs 1 [.ref zsf, .ref zsu, .ref zse, .ref zsl, .ref zsr], aZ G zsf 16 fi, aI G zsu 16 us, aZ G zse 16 ex, aJ G zsl 16 lf, aJ G zsr 16 rg, ob zt 2 [.ref ztm, .ref ztr, .ref ztl, .ref ztf, .ref ztd, .long cu, .long cv], aZ G ztm 8 md, aJ G ztr 8 re, aJ G ztl 8 fl, aJ G ztf 8 fr, ob ztd 4 [.ref ztdq, .long tk], aJ G ztdq 16 (rkF tk), aJ G zpb 5 bf, aJ G zpm 8 mg]) [16, 17, 18, 19, 20] [0, 1, 2, 3, 4, 5, 6, 7, 8, 9, 10, 11, 12, 13, 14, 15, 21, 22] rfl rfl rfl rfl rfl) (rn_V X (c_C_sealBlock l G zc zcl zclq zcr zcrq (ml ^^^ (5570193308531903821 : Int64)) (mr ^^^ (5570193308531903821 : Int64)) ((sealB (ml ^^^ (5570193308531903821 : Int64)) (mr ^^^ (5570193308531903821 : Int64)) ((0 : Int64) ^^^ (bf 0))) ^^^ (bf 1))) hE mf_C_sealBlock m_255 m_193 m_194 rfl 0 rfl rfl rfl (by decide) (by decide) rfl (Nat.le_of_ble_eq_true rfl) d_P_codeOfKeyBlock_44) (fun x3 => ?_)
  refine pv_ord (ws2 := [ob zp 0 [.ref zph, .ref zpt, .int hm, .long ml, .long mr, .ref zs, .ref zt, .ref zc, .ref zpb, .ref zpm], aJ G zph 6 hv, aZ G zpt 6 ht, ob zs 1 [.ref zsf, .ref zsu, .ref zse, .ref zsl, .ref zsr], aZ G zsf 16 fi, aI G zsu 16 us, aZ G zse 16 ex, aJ G zsl 16 lf, aJ G zsr 16 rg, ob zt 2 [.ref ztm, .ref ztr, .ref ztl, .ref ztf, .ref ztd, .long cu, .long cv], aZ G ztm 8 md, aJ G ztr 8 re, aJ G ztl 8 fl, aJ G ztf 8 fr, ob ztd 4 [.ref ztdq, .long tk], aJ G ztdq 16 (rkF tk), ob zc 3 [.ref zcl, .ref zcr], ob zcl 4 [.ref zclq, .long (ml ^^^ (5570193308531903821 : Int64))], aJ G zclq 16 (rkF (ml ^^^ (5570193308531903821 : Int64))), ob zcr 4 [.ref zcrq, .long (mr ^^^ (5570193308531903821 : Int64))], aJ G zcrq 16 (rkF (mr ^^^ (5570193308531903821 : Int64))), aJ G zpb 5 bf, aJ G zpm 8 mg]) [0, 1, 2, 3, 4, 5, 6, 7, 8, 9, 10, 11, 12, 13, 14, 15, 18, 19, 20, 21, 22, 16, 17] rfl rfl ?_
  refine pv_lstore_n (ll2 := [(1, .long (sealB (ml ^^^ (5570193308531903821 : Int64)) (mr ^^^ (5570193308531903821 : Int64)) ((sealB (ml ^^^ (5570193308531903821 : Int64)) (mr ^^^ (5570193308531903821 : Int64)) ((0 : Int64) ^^^ (bf 0))) ^^^ (bf 1)))), (3, .int 1), (0, .ref zp)]) X d_P_codeOfKeyBlock_47 (by decide) rfl ?_
  refine pv_iinc (ll2 := [(3, .int 2), (1, .long (sealB (ml ^^^ (5570193308531903821 : Int64)) (mr ^^^ (5570193308531903821 : Int64)) ((sealB (ml ^^^ (5570193308531903821 : Int64)) (mr ^^^ (5570193308531903821 : Int64)) ((0 : Int64) ^^^ (bf 0))) ^^^ (bf 1)))), (0, .ref zp)]) X 1 (2) d_P_codeOfKeyBlock_48 rfl (by decide) (by decide) rfl ?_
  refine pv_goto X 27 d_P_codeOfKeyBlock_51 rfl ?_
  refine pv_iload_n X 0 d_P_codeOfKeyBlock_27 rfl ?_
  refine pv_iconst X 4 d_P_codeOfKeyBlock_28 (by decide) ?_
  refine pv_icmp_ge X 54 d_P_codeOfKeyBlock_29 rfl (fun h => absurd h (by decide)) (fun _ => ?_)
  refine pv_aload_n X 2 d_P_codeOfKeyBlock_32 rfl ?_
  refine pv_get X 0 7 u_P_in m_122 rfl rfl (by decide) ⟨rfl, rfl, rfl⟩ rfl d_P_codeOfKeyBlock_33 ?_
  refine pv_lload_n X 1 d_P_codeOfKeyBlock_36 rfl ?_
  refine pv_aload_n X 2 d_P_codeOfKeyBlock_37 rfl ?_
  refine pv_get X 0 8 u_P_in m_123 rfl rfl (by decide) ⟨rfl, rfl, rfl⟩ rfl d_P_codeOfKeyBlock_38 ?_
  refine pv_iload_n X 0 d_P_codeOfKeyBlock_41 rfl ?_
  refine pv_lald X 21 rfl (by unfold vp_in; decide) d_P_codeOfKeyBlock_42 ?_
  refine pv_topl (bf 2) rfl ?_
  refine pv_lxor X d_P_codeOfKeyBlock_43 ?_
  refine pv_calllE X (Cut.mk (w0 := [ob zc 3 [.ref zcl, .ref zcr], ob zcl 4 [.ref zclq, .long (ml ^^^ (5570193308531903821 : Int64))], aJ G zclq 16 (rkF (ml ^^^ (5570193308531903821 : Int64))), ob zcr 4 [.ref zcrq, .long (mr ^^^ (5570193308531903821 : Int64))], aJ G zcrq 16 (rkF (mr ^^^ (5570193308531903821 : Int64)))]) (wr := [ob zp 0 [.ref zph, .ref zpt, .int hm, .long ml, .long mr, .ref zs, .ref zt, .ref zc, .ref zpb, .ref zpm], aJ G zph 6 hv, aZ G zpt 6 ht, ob zs 1 [.ref zsf, .ref zsu, .ref zse, .ref zsl, .ref zsr], aZ G zsf 16 fi, aI G zsu 16 us, aZ G zse 16 ex, aJ G zsl 16 lf, aJ G zsr 16 rg, ob zt 2 [.ref ztm, .ref ztr, .ref ztl, .ref ztf, .ref ztd, .long cu, .long cv], aZ G ztm 8 md, aJ G ztr 8 re, aJ G ztl 8 fl, aJ G ztf 8 fr, ob ztd 4 [.ref ztdq, .long tk], aJ G ztdq 16 (rkF tk), aJ G zpb 5 bf, aJ G zpm 8 mg]) [16, 17, 18, 19, 20] [0, 1, 2, 3, 4, 5, 6, 7, 8, 9, 10, 11, 12, 13, 14, 15, 21, 22] rfl rfl rfl rfl rfl) (rn_V X (c_C_sealBlock l G zc zcl zclq zcr zcrq (ml ^^^ (5570193308531903821 : Int64)) (mr ^^^ (5570193308531903821 : Int64)) ((sealB (ml ^^^ (5570193308531903821 : Int64)) (mr ^^^ (5570193308531903821 : Int64)) ((sealB (ml ^^^ (5570193308531903821 : Int64)) (mr ^^^ (5570193308531903821 : Int64)) ((0 : Int64) ^^^ (bf 0))) ^^^ (bf 1))) ^^^ (bf 2))) hE mf_C_sealBlock m_255 m_193 m_194 rfl 0 rfl rfl rfl (by decide) (by decide) rfl (Nat.le_of_ble_eq_true rfl) d_P_codeOfKeyBlock_44) (fun x4 => ?_)
  refine pv_ord (ws2 := [ob zp 0 [.ref zph, .ref zpt, .int hm, .long ml, .long mr, .ref zs, .ref zt, .ref zc, .ref zpb, .ref zpm], aJ G zph 6 hv, aZ G zpt 6 ht, ob zs 1 [.ref zsf, .ref zsu, .ref zse, .ref zsl, .ref zsr], aZ G zsf 16 fi, aI G zsu 16 us, aZ G zse 16 ex, aJ G zsl 16 lf, aJ G zsr 16 rg, ob zt 2 [.ref ztm, .ref ztr, .ref ztl, .ref ztf, .ref ztd, .long cu, .long cv], aZ G ztm 8 md, aJ G ztr 8 re, aJ G ztl 8 fl, aJ G ztf 8 fr, ob ztd 4 [.ref ztdq, .long tk], aJ G ztdq 16 (rkF tk), ob zc 3 [.ref zcl, .ref zcr], ob zcl 4 [.ref zclq, .long (ml ^^^ (5570193308531903821 : Int64))], aJ G zclq 16 (rkF (ml ^^^ (5570193308531903821 : Int64))), ob zcr 4 [.ref zcrq, .long (mr ^^^ (5570193308531903821 : Int64))], aJ G zcrq 16 (rkF (mr ^^^ (5570193308531903821 : Int64))), aJ G zpb 5 bf, aJ G zpm 8 mg]) [0, 1, 2, 3, 4, 5, 6, 7, 8, 9, 10, 11, 12, 13, 14, 15, 18, 19, 20, 21, 22, 16, 17] rfl rfl ?_
  refine pv_lstore_n (ll2 := [(1, .long (sealB (ml ^^^ (5570193308531903821 : Int64)) (mr ^^^ (5570193308531903821 : Int64)) ((sealB (ml ^^^ (5570193308531903821 : Int64)) (mr ^^^ (5570193308531903821 : Int64)) ((sealB (ml ^^^ (5570193308531903821 : Int64)) (mr ^^^ (5570193308531903821 : Int64)) ((0 : Int64) ^^^ (bf 0))) ^^^ (bf 1))) ^^^ (bf 2)))), (3, .int 2), (0, .ref zp)]) X d_P_codeOfKeyBlock_47 (by decide) rfl ?_
  refine pv_iinc (ll2 := [(3, .int 3), (1, .long (sealB (ml ^^^ (5570193308531903821 : Int64)) (mr ^^^ (5570193308531903821 : Int64)) ((sealB (ml ^^^ (5570193308531903821 : Int64)) (mr ^^^ (5570193308531903821 : Int64)) ((sealB (ml ^^^ (5570193308531903821 : Int64)) (mr ^^^ (5570193308531903821 : Int64)) ((0 : Int64) ^^^ (bf 0))) ^^^ (bf 1))) ^^^ (bf 2)))), (0, .ref zp)]) X 1 (3) d_P_codeOfKeyBlock_48 rfl (by decide) (by decide) rfl ?_
  refine pv_goto X 27 d_P_codeOfKeyBlock_51 rfl ?_
  refine pv_iload_n X 0 d_P_codeOfKeyBlock_27 rfl ?_
  refine pv_iconst X 4 d_P_codeOfKeyBlock_28 (by decide) ?_
  refine pv_icmp_ge X 54 d_P_codeOfKeyBlock_29 rfl (fun h => absurd h (by decide)) (fun _ => ?_)
  refine pv_aload_n X 2 d_P_codeOfKeyBlock_32 rfl ?_
  refine pv_get X 0 7 u_P_in m_122 rfl rfl (by decide) ⟨rfl, rfl, rfl⟩ rfl d_P_codeOfKeyBlock_33 ?_
  refine pv_lload_n X 1 d_P_codeOfKeyBlock_36 rfl ?_
  refine pv_aload_n X 2 d_P_codeOfKeyBlock_37 rfl ?_
  refine pv_get X 0 8 u_P_in m_123 rfl rfl (by decide) ⟨rfl, rfl, rfl⟩ rfl d_P_codeOfKeyBlock_38 ?_
  refine pv_iload_n X 0 d_P_codeOfKeyBlock_41 rfl ?_
  refine pv_lald X 21 rfl (by unfold vp_in; decide) d_P_codeOfKeyBlock_42 ?_
  refine pv_topl (bf 3) rfl ?_
  refine pv_lxor X d_P_codeOfKeyBlock_43 ?_
  refine pv_calllE X (Cut.mk (w0 := [ob zc 3 [.ref zcl, .ref zcr], ob zcl 4 [.ref zclq, .long (ml ^^^ (5570193308531903821 : Int64))], aJ G zclq 16 (rkF (ml ^^^ (5570193308531903821 : Int64))), ob zcr 4 [.ref zcrq, .long (mr ^^^ (5570193308531903821 : Int64))], aJ G zcrq 16 (rkF (mr ^^^ (5570193308531903821 : Int64)))]) (wr := [ob zp 0 [.ref zph, .ref zpt, .int hm, .long ml, .long mr, .ref zs, .ref zt, .ref zc, .ref zpb, .ref zpm], aJ G zph 6 hv, aZ G zpt 6 ht, ob zs 1 [.ref zsf, .ref zsu, .ref zse, .ref zsl, .ref zsr], aZ G zsf 16 fi, aI G zsu 16 us, aZ G zse 16 ex, aJ G zsl 16 lf, aJ G zsr 16 rg, ob zt 2 [.ref ztm, .ref ztr, .ref ztl, .ref ztf, .ref ztd, .long cu, .long cv], aZ G ztm 8 md, aJ G ztr 8 re, aJ G ztl 8 fl, aJ G ztf 8 fr, ob ztd 4 [.ref ztdq, .long tk], aJ G ztdq 16 (rkF tk), aJ G zpb 5 bf, aJ G zpm 8 mg]) [16, 17, 18, 19, 20] [0, 1, 2, 3, 4, 5, 6, 7, 8, 9, 10, 11, 12, 13, 14, 15, 21, 22] rfl rfl rfl rfl rfl) (rn_V X (c_C_sealBlock l G zc zcl zclq zcr zcrq (ml ^^^ (5570193308531903821 : Int64)) (mr ^^^ (5570193308531903821 : Int64)) ((sealB (ml ^^^ (5570193308531903821 : Int64)) (mr ^^^ (5570193308531903821 : Int64)) ((sealB (ml ^^^ (5570193308531903821 : Int64)) (mr ^^^ (5570193308531903821 : Int64)) ((sealB (ml ^^^ (5570193308531903821 : Int64)) (mr ^^^ (5570193308531903821 : Int64)) ((0 : Int64) ^^^ (bf 0))) ^^^ (bf 1))) ^^^ (bf 2))) ^^^ (bf 3))) hE mf_C_sealBlock m_255 m_193 m_194 rfl 0 rfl rfl rfl (by decide) (by decide) rfl (Nat.le_of_ble_eq_true rfl) d_P_codeOfKeyBlock_44) (fun x5 => ?_)
  refine pv_ord (ws2 := [ob zp 0 [.ref zph, .ref zpt, .int hm, .long ml, .long mr, .ref zs, .ref zt, .ref zc, .ref zpb, .ref zpm], aJ G zph 6 hv, aZ G zpt 6 ht, ob zs 1 [.ref zsf, .ref zsu, .ref zse, .ref zsl, .ref zsr], aZ G zsf 16 fi, aI G zsu 16 us, aZ G zse 16 ex, aJ G zsl 16 lf, aJ G zsr 16 rg, ob zt 2 [.ref ztm, .ref ztr, .ref ztl, .ref ztf, .ref ztd, .long cu, .long cv], aZ G ztm 8 md, aJ G ztr 8 re, aJ G ztl 8 fl, aJ G ztf 8 fr, ob ztd 4 [.ref ztdq, .long tk], aJ G ztdq 16 (rkF tk), ob zc 3 [.ref zcl, .ref zcr], ob zcl 4 [.ref zclq, .long (ml ^^^ (5570193308531903821 : Int64))], aJ G zclq 16 (rkF (ml ^^^ (5570193308531903821 : Int64))), ob zcr 4 [.ref zcrq, .long (mr ^^^ (5570193308531903821 : Int64))], aJ G zcrq 16 (rkF (mr ^^^ (5570193308531903821 : Int64))), aJ G zpb 5 bf, aJ G zpm 8 mg]) [0, 1, 2, 3, 4, 5, 6, 7, 8, 9, 10, 11, 12, 13, 14, 15, 18, 19, 20, 21, 22, 16, 17] rfl rfl ?_
  refine pv_lstore_n (ll2 := [(1, .long (sealB (ml ^^^ (5570193308531903821 : Int64)) (mr ^^^ (5570193308531903821 : Int64)) ((sealB (ml ^^^ (5570193308531903821 : Int64)) (mr ^^^ (5570193308531903821 : Int64)) ((sealB (ml ^^^ (5570193308531903821 : Int64)) (mr ^^^ (5570193308531903821 : Int64)) ((sealB (ml ^^^ (5570193308531903821 : Int64)) (mr ^^^ (5570193308531903821 : Int64)) ((0 : Int64) ^^^ (bf 0))) ^^^ (bf 1))) ^^^ (bf 2))) ^^^ (bf 3)))), (3, .int 3), (0, .ref zp)]) X d_P_codeOfKeyBlock_47 (by decide) rfl ?_
  refine pv_iinc (ll2 := [(3, .int 4), (1, .long (sealB (ml ^^^ (5570193308531903821 : Int64)) (mr ^^^ (5570193308531903821 : Int64)) ((sealB (ml ^^^ (5570193308531903821 : Int64)) (mr ^^^ (5570193308531903821 : Int64)) ((sealB (ml ^^^ (5570193308531903821 : Int64)) (mr ^^^ (5570193308531903821 : Int64)) ((sealB (ml ^^^ (5570193308531903821 : Int64)) (mr ^^^ (5570193308531903821 : Int64)) ((0 : Int64) ^^^ (bf 0))) ^^^ (bf 1))) ^^^ (bf 2))) ^^^ (bf 3)))), (0, .ref zp)]) X 1 (4) d_P_codeOfKeyBlock_48 rfl (by decide) (by decide) rfl ?_
  refine pv_goto X 27 d_P_codeOfKeyBlock_51 rfl ?_
  refine pv_iload_n X 0 d_P_codeOfKeyBlock_27 rfl ?_
  refine pv_iconst X 4 d_P_codeOfKeyBlock_28 (by decide) ?_
  refine pv_icmp_ge X 54 d_P_codeOfKeyBlock_29 rfl (fun _ => ?_) (fun h => absurd (by decide) h)
  refine pv_lload_n X 1 d_P_codeOfKeyBlock_54 rfl ?_
  exact pv_lret X hr hlk () rfl (by simp only [g_P_codeOfKeyBlock_zcl_1, g_P_codeOfKeyBlock_zcr_1]) d_P_codeOfKeyBlock_55
