def Nx (_ : Nat → Prop) (U : State) : Prop := va_Nw (.methodLinkNest "PinModule" 19 y_S_init "PinModule") U ∧ va_Nw (.methodLinkNest "PinModule" 26 y_T_init "PinModule") U ∧ va_Nw (.methodLinkNest "PinModule$Terminals" 27 y_D_init "PinModule") U ∧ va_Nw (.methodLinkNest "PinModule" 33 y_C_init "PinModule") U ∧ va_Nw (.methodLinkNest "PinModule$Cipher" 9 y_D_init "PinModule") U
theorem Nx_stb : Stb Nx := (Nw_stb.and (Nw_stb.and (Nw_stb.and (Nw_stb.and Nw_stb))))
def kch (k : Int64) : Int64 := pk k 64 tb_KEY_CHOICE 56
def khi (k : Int64) : Nat → Int64
  | 0 => ((kch k).toUInt64 >>> ((28 : Int32).toInt64.toUInt64 &&& Int64.toUInt64 63)).toInt64
  | i + 1 => f_D_turned (khi k i) (tb_KEY_TURNS i)
def klo (k : Int64) : Nat → Int64
  | 0 => (kch k) &&& 268435455
  | i + 1 => f_D_turned (klo k i) (tb_KEY_TURNS i)
def rkOf (k : Int64) (i : Nat) : Int64 := pk ((khi k (i + 1) <<< ((28 : Int32).toInt64 &&& 63)) ||| klo k (i + 1)) 56 tb_ROUND_CHOICE 48
def rkF (k : Int64) : Nat → Int64 := fun j => if j < 16 then rkOf k j else 0
def rkm (k k2 : Int64) (i : Nat) : Nat → Int64 := fun j => if j < i then rkOf k2 j else rkF k j
theorem rkm_0 (k k2 : Int64) : rkF k = rkm k k2 0 := by funext j; unfold rkm; rw [if_neg (Nat.not_lt_zero _)]
theorem rkm_s (k k2 : Int64) (i : Nat) : vp_updL (rkm k k2 i) i (rkOf k2 i) = rkm k k2 (i + 1) := by
  funext j; unfold rkm vp_updL
  by_cases h : j = i
  · subst h; rw [if_pos rfl, if_pos (Nat.lt_succ_self _)]
  · rw [if_neg h]
    show (if j < i then rkOf k2 j else rkF k j) = _
    by_cases h2 : j < i
    · rw [if_pos h2, if_pos (by omega)]
    · rw [if_neg h2, if_neg (by omega)]
theorem rkm_16 (k k2 : Int64) : rkm k k2 16 = rkF k2 := by
  funext j; unfold rkm rkF
  by_cases h : j < 16
  · rw [if_pos h, if_pos h]
  · rw [if_neg h, if_neg h, if_neg h]
theorem rkF_at {k : Int64} {i : Nat} (h : i < 16) : rkF k i = rkOf k i := if_pos h
theorem z_shl (x : Int64) : (0 : Int64) <<< x = 0 := Int64.toBitVec_inj.mp (by simp)
theorem z_shr (x : UInt64) : (((0 : Int64).toUInt64) >>> x).toInt64 = 0 := Int64.toBitVec_inj.mp (by simp)
theorem pk_z (b : Int32) (f : Nat → Int32) : ∀ n, pk 0 b f n = 0
  | 0 => rfl
  | n + 1 => by unfold pk; rw [pk_z b f n, z_shl, z_shr]; rfl
theorem turned_z (t : Int32) : f_D_turned 0 t = 0 := by unfold f_D_turned; rw [z_shl, z_shr]; rfl
theorem khi_z : ∀ i, khi 0 i = 0
  | 0 => by unfold khi kch; rw [pk_z, z_shr]
  | i + 1 => by unfold khi; rw [khi_z i, turned_z]
theorem klo_z : ∀ i, klo 0 i = 0
  | 0 => by unfold klo kch; rw [pk_z]; rfl
  | i + 1 => by unfold klo; rw [klo_z i, turned_z]
theorem rkF_z : (fun _ => 0) = rkF 0 := by
  funext j; unfold rkF rkOf
  rw [khi_z, klo_z, z_shl]
  split
  · exact (pk_z _ _ _).symm
  · rfl
abbrev rm_D_init : Room := { frames := 1, cells := 1, slots := 16, locals := 20 }
theorem mf_D_init : MF y_D_init b_D_init 1 none 0 := ⟨m_64, m_4, by decide, by decide, by decide +kernel⟩
theorem d_D_init_0 : decode b_D_init 0 = .ok (.aload_n 0, 1) := by decide +kernel
theorem d_D_init_1 : decode b_D_init 1 = .ok (.invokespecial 3, 3) := by decide +kernel
theorem d_D_init_4 : decode b_D_init 4 = .ok (.aload_n 0, 1) := by decide +kernel
theorem d_D_init_5 : decode b_D_init 5 = .ok (.bipush 16, 2) := by decide +kernel
theorem d_D_init_7 : decode b_D_init 7 = .ok (.newarray .long, 2) := by decide +kernel
theorem d_D_init_9 : decode b_D_init 9 = .ok (.putfield 9, 3) := by decide +kernel
theorem d_D_init_12 : decode b_D_init 12 = .ok (.return_, 1) := by decide +kernel
set_option maxRecDepth 100000 in
set_option maxHeartbeats 4000000 in
theorem c_D_init (l : Launch) (G : Gt) (d : Nat) : CtV l G y_D_init b_D_init 1 none rm_D_init E0 [.ref d] [ob d 4 [.null, .long 0]] (fun (_ : Nat) => True) (fun q => [ob d 4 [.ref q, .long 0], aJ G q 16 (rkF 0)]) 1 16 := by
  refine Ct.of (Qp := fun A => va_Qv _ (qB G A _) A) Stb_0 (by decide) (Nat.le_of_ble_eq_true rfl) ?_
  intro p e s m args below meth c A X hE hr hlk hini
  refine pv_eql (ll2 := [(0, .ref d)]) rfl ?_
  refine pv_aload_n X 0 d_D_init_0 rfl ?_
  refine pv_objInit X m_65 m_22 m_23 (by decide) (Nat.le_of_ble_eq_true rfl) d_D_init_1 ?_
  refine pv_aload_n X 0 d_D_init_4 rfl ?_
  refine pv_bipush X 16 d_D_init_5 (by decide) ?_
  refine pv_newaJ X 16 m_51 (by decide) (by decide) (by decide) (by decide) (by decide) d_D_init_7 (fun q => ?_)
  refine pv_eqw (ws2 := [ob d 4 [.null, .long 0], aJ G q 16 (fun _ => 0)]) rfl ?_
  refine pv_putF X hini (ty := .array .long) (ws2 := [ob d 4 [.ref q, .long 0], aJ G q 16 (fun _ => 0)]) 0 0 ty_D ty_D_ok n_D u_D_in m_66 rfl rfl (by decide) ⟨rfl, rfl, rfl⟩ rfl rfl (by decide +kernel) rfl rfl (Nat.le_of_ble_eq_true rfl) rfl d_D_init_9 ?_
  exact pv_vret X hr hlk q trivial (by rw [rkF_z]) d_D_init_12
abbrev rm_D_take : Room := { frames := 1, cells := 0, slots := 0, locals := 26 }
theorem mf_D_take : MF y_D_take b_D_take 10 none 1 := ⟨m_174, m_4, by decide, by decide, by decide +kernel⟩
theorem d_D_take_0 : decode b_D_take 0 = .ok (.lload_n 1, 1) := by decide +kernel
theorem d_D_take_1 : decode b_D_take 1 = .ok (.aload_n 0, 1) := by decide +kernel
theorem d_D_take_2 : decode b_D_take 2 = .ok (.getfield 13, 3) := by decide +kernel
theorem d_D_take_5 : decode b_D_take 5 = .ok (.lcmp, 1) := by decide +kernel
theorem d_D_take_6 : decode b_D_take 6 = .ok (.ifCond .ne 4, 3) := by decide +kernel
theorem d_D_take_9 : decode b_D_take 9 = .ok (.return_, 1) := by decide +kernel
theorem d_D_take_10 : decode b_D_take 10 = .ok (.aload_n 0, 1) := by decide +kernel
theorem d_D_take_11 : decode b_D_take 11 = .ok (.lload_n 1, 1) := by decide +kernel
theorem d_D_take_12 : decode b_D_take 12 = .ok (.putfield 13, 3) := by decide +kernel
theorem d_D_take_15 : decode b_D_take 15 = .ok (.lload_n 1, 1) := by decide +kernel
theorem d_D_take_16 : decode b_D_take 16 = .ok (.bipush 64, 2) := by decide +kernel
theorem d_D_take_18 : decode b_D_take 18 = .ok (.getstatic 17, 3) := by decide +kernel
theorem d_D_take_21 : decode b_D_take 21 = .ok (.invokestatic 21, 3) := by decide +kernel
theorem d_D_take_24 : decode b_D_take 24 = .ok (.lstore_n 3, 1) := by decide +kernel
theorem d_D_take_25 : decode b_D_take 25 = .ok (.lload_n 3, 1) := by decide +kernel
theorem d_D_take_26 : decode b_D_take 26 = .ok (.bipush 28, 2) := by decide +kernel
theorem d_D_take_28 : decode b_D_take 28 = .ok (.lushr, 1) := by decide +kernel
theorem d_D_take_29 : decode b_D_take 29 = .ok (.lstore 5, 2) := by decide +kernel
theorem d_D_take_31 : decode b_D_take 31 = .ok (.lload_n 3, 1) := by decide +kernel
theorem d_D_take_32 : decode b_D_take 32 = .ok (.ldc2_w 25, 3) := by decide +kernel
theorem d_D_take_35 : decode b_D_take 35 = .ok (.land, 1) := by decide +kernel
theorem d_D_take_36 : decode b_D_take 36 = .ok (.lstore 7, 2) := by decide +kernel
theorem d_D_take_38 : decode b_D_take 38 = .ok (.iconst 0, 1) := by decide +kernel
theorem d_D_take_39 : decode b_D_take 39 = .ok (.istore 9, 2) := by decide +kernel
theorem d_D_take_41 : decode b_D_take 41 = .ok (.iload 9, 2) := by decide +kernel
theorem d_D_take_43 : decode b_D_take 43 = .ok (.bipush 16, 2) := by decide +kernel
theorem d_D_take_45 : decode b_D_take 45 = .ok (.if_icmp .ge 58, 3) := by decide +kernel
theorem d_D_take_48 : decode b_D_take 48 = .ok (.lload 5, 2) := by decide +kernel
theorem d_D_take_50 : decode b_D_take 50 = .ok (.getstatic 27, 3) := by decide +kernel
theorem d_D_take_53 : decode b_D_take 53 = .ok (.iload 9, 2) := by decide +kernel
theorem d_D_take_55 : decode b_D_take 55 = .ok (.baload, 1) := by decide +kernel
theorem d_D_take_56 : decode b_D_take 56 = .ok (.invokestatic 30, 3) := by decide +kernel
theorem d_D_take_59 : decode b_D_take 59 = .ok (.lstore 5, 2) := by decide +kernel
theorem d_D_take_61 : decode b_D_take 61 = .ok (.lload 7, 2) := by decide +kernel
theorem d_D_take_63 : decode b_D_take 63 = .ok (.getstatic 27, 3) := by decide +kernel
theorem d_D_take_66 : decode b_D_take 66 = .ok (.iload 9, 2) := by decide +kernel
theorem d_D_take_68 : decode b_D_take 68 = .ok (.baload, 1) := by decide +kernel
theorem d_D_take_69 : decode b_D_take 69 = .ok (.invokestatic 30, 3) := by decide +kernel
theorem d_D_take_72 : decode b_D_take 72 = .ok (.lstore 7, 2) := by decide +kernel
theorem d_D_take_74 : decode b_D_take 74 = .ok (.aload_n 0, 1) := by decide +kernel
theorem d_D_take_75 : decode b_D_take 75 = .ok (.getfield 9, 3) := by decide +kernel
theorem d_D_take_78 : decode b_D_take 78 = .ok (.iload 9, 2) := by decide +kernel
theorem d_D_take_80 : decode b_D_take 80 = .ok (.lload 5, 2) := by decide +kernel
theorem d_D_take_82 : decode b_D_take 82 = .ok (.bipush 28, 2) := by decide +kernel
theorem d_D_take_84 : decode b_D_take 84 = .ok (.lshl, 1) := by decide +kernel
theorem d_D_take_85 : decode b_D_take 85 = .ok (.lload 7, 2) := by decide +kernel
theorem d_D_take_87 : decode b_D_take 87 = .ok (.lor, 1) := by decide +kernel
theorem d_D_take_88 : decode b_D_take 88 = .ok (.bipush 56, 2) := by decide +kernel
theorem d_D_take_90 : decode b_D_take 90 = .ok (.getstatic 34, 3) := by decide +kernel
theorem d_D_take_93 : decode b_D_take 93 = .ok (.invokestatic 21, 3) := by decide +kernel
theorem d_D_take_96 : decode b_D_take 96 = .ok (.lastore, 1) := by decide +kernel
theorem d_D_take_97 : decode b_D_take 97 = .ok (.iinc 9 1, 3) := by decide +kernel
theorem d_D_take_100 : decode b_D_take 100 = .ok (.goto (-59), 3) := by decide +kernel
theorem d_D_take_103 : decode b_D_take 103 = .ok (.return_, 1) := by decide +kernel
set_option maxRecDepth 100000 in
set_option maxHeartbeats 4000000 in
theorem c_D_take (l : Launch) (G : Gt) (d dq : Nat) (key k : Int64) : CtV l G y_D_take b_D_take 10 none rm_D_take Sx [.ref d, .long k] [ob d 4 [.ref dq, .long key], aJ G dq 16 (rkF key)] (fun (_ : Unit) => True) (fun _ => [ob d 4 [.ref dq, .long k], aJ G dq 16 (rkF k)]) 0 0 := by
  refine Ct.of (Qp := fun A => va_Qv _ (qB G A _) A) Sx_stb (by decide) (Nat.le_of_ble_eq_true rfl) ?_
  intro p e s m args below meth c A X hE hr hlk hini
  refine pv_eql (ll2 := [(0, .ref d), (1, .long k)]) rfl ?_
  obtain ⟨tI, zI, hI⟩ := hE.INITIAL
  obtain ⟨tF, zF, hF⟩ := hE.FINAL
  obtain ⟨tK, zK, hK⟩ := hE.KEY_CHOICE
  obtain ⟨tR, zR, hR⟩ := hE.ROUND_CHOICE
  obtain ⟨tU, zU, hU⟩ := hE.KEY_TURNS
  refine pv_lload_n X 1 d_D_take_0 rfl ?_
  refine pv_aload_n X 0 d_D_take_1 rfl ?_
  refine pv_get X 0 1 u_D_in m_67 rfl rfl (by decide) ⟨rfl, rfl, rfl⟩ rfl d_D_take_2 ?_
  refine pv_lcmp X d_D_take_5 ?_
  refine pv_if_ne X 10 d_D_take_6 rfl (fun h1 => ?_) (fun h1n => ?_)
  · skip
    refine pv_aload_n X 0 d_D_take_10 rfl ?_
    refine pv_lload_n X 1 d_D_take_11 rfl ?_
    refine pv_put X (ty := .long) (ws2 := [ob d 4 [.ref dq, .long k], aJ G dq 16 (rkF key)]) 0 1 ty_D ty_D_ok n_D u_D_in m_67 rfl rfl (by decide) ⟨rfl, rfl, rfl⟩ rfl (by decide +kernel) rfl rfl (Nat.le_of_ble_eq_true rfl) rfl d_D_take_12 ?_
    refine pv_lload_n X 1 d_D_take_15 rfl ?_
    refine pv_bipush X 64 d_D_take_16 (by decide) ?_
    refine pv_gets X zK m_175 d_D_take_18 ?_
    refine pv_calll0 X (rn_S X (c_D_picked l G k 64 tK 56 tb_KEY_CHOICE (by decide)) hK mf_D_picked m_177 m_178 rfl (by decide) (by decide) rfl (Nat.le_of_ble_eq_true rfl) d_D_take_21) ?_
    refine pv_lstore_n (ll2 := [(3, .long (pk k 64 tb_KEY_CHOICE 56)), (0, .ref d), (1, .long k)]) X d_D_take_24 (by decide) rfl ?_
    refine pv_lload_n X 0 d_D_take_25 rfl ?_
    refine pv_bipush X 28 d_D_take_26 (by decide) ?_
    refine pv_lushr X d_D_take_28 ?_
    refine pv_lstore (ll2 := [(5, .long (((pk k 64 tb_KEY_CHOICE 56).toUInt64 >>> ((28 : Int32).toInt64.toUInt64 &&& Int64.toUInt64 63)).toInt64)), (3, .long (pk k 64 tb_KEY_CHOICE 56)), (0, .ref d), (1, .long k)]) X d_D_take_29 (by decide) rfl ?_
    refine pv_lload_n X 1 d_D_take_31 rfl ?_
    refine pv_ldc2_w X m_180 d_D_take_32 ?_
    refine pv_land X d_D_take_35 ?_
    refine pv_lstore (ll2 := [(7, .long ((pk k 64 tb_KEY_CHOICE 56) &&& (268435455 : Int64))), (5, .long (((pk k 64 tb_KEY_CHOICE 56).toUInt64 >>> ((28 : Int32).toInt64.toUInt64 &&& Int64.toUInt64 63)).toInt64)), (3, .long (pk k 64 tb_KEY_CHOICE 56)), (0, .ref d), (1, .long k)]) X d_D_take_36 (by decide) rfl ?_
    refine pv_iconst X 0 d_D_take_38 (by decide) ?_
    refine pv_istore (ll2 := [(9, .int 0), (7, .long ((pk k 64 tb_KEY_CHOICE 56) &&& (268435455 : Int64))), (5, .long (((pk k 64 tb_KEY_CHOICE 56).toUInt64 >>> ((28 : Int32).toInt64.toUInt64 &&& Int64.toUInt64 63)).toInt64)), (3, .long (pk k 64 tb_KEY_CHOICE 56)), (0, .ref d), (1, .long k)]) X d_D_take_39 (by decide) rfl ?_
    refine pv_lpick (ll2 := [(9, .int (nI 0)), (5, .long (khi k 0)), (7, .long (klo k 0)), (0, .ref d)]) [0, 2, 1, 4] rfl ?_
    refine pv_eqw (ws2 := [ob d 4 [.ref dq, .long k], aJ G dq 16 (rkm key k 0)]) (by rw [rkm_0 key k]) ?_
    refine pv_loop 16 (fun i => True) (fun i => [ob d 4 [.ref dq, .long k], aJ G dq 16 (rkm key k i)]) (fun i => [(9, .int (nI i)), (5, .long (khi k i)), (7, .long (klo k i)), (0, .ref d)]) 0 (by omega) trivial (fun hI_i => ?_) (fun i h_i hI_i ih_i => ?_)
    · skip
      refine pv_iload X 0 d_D_take_41 rfl ?_
      refine pv_bipush X 16 d_D_take_43 (by decide) ?_
      refine pv_icmp_ge X 103 d_D_take_45 rfl (fun _ => ?_) (fun h => absurd (by decide) h)
      exact pv_vret X hr hlk () trivial (by rw [rkm_16]) d_D_take_103
    · skip
      refine pv_iload X 0 d_D_take_41 rfl ?_
      refine pv_bipush X 16 d_D_take_43 (by decide) ?_
      refine pv_icmp_ge X 103 d_D_take_45 rfl (fun h => absurd h (nI_ge h_i (by decide))) (fun _ => ?_)
      refine pv_lload X 1 d_D_take_48 rfl ?_
      refine pv_gets X zU m_181 d_D_take_50 ?_
      refine pv_iload X 0 d_D_take_53 rfl ?_
      refine pv_tb X hU (vp_in_nI (by omega) (by omega)) d_D_take_55 ?_
      refine pv_topi (tb_KEY_TURNS i) (congrArg tb_KEY_TURNS (nI_clamp (by omega))) ?_
      refine pv_calll0 X (rn_S X (c_D_turned l G (khi k i) (tb_KEY_TURNS i)) trivial mf_D_turned m_183 m_184 rfl (by decide) (by decide) rfl (Nat.le_of_ble_eq_true rfl) d_D_take_56) ?_
      refine pv_lstore (ll2 := [(5, .long (f_D_turned (khi k i) (tb_KEY_TURNS i))), (9, .int (nI i)), (7, .long (klo k i)), (0, .ref d)]) X d_D_take_59 (by decide) rfl ?_
      refine pv_lload X 2 d_D_take_61 rfl ?_
      refine pv_gets X zU m_181 d_D_take_63 ?_
      refine pv_iload X 1 d_D_take_66 rfl ?_
      refine pv_tb X hU (vp_in_nI (by omega) (by omega)) d_D_take_68 ?_
      refine pv_topi (tb_KEY_TURNS i) (congrArg tb_KEY_TURNS (nI_clamp (by omega))) ?_
      refine pv_calll0 X (rn_S X (c_D_turned l G (klo k i) (tb_KEY_TURNS i)) trivial mf_D_turned m_183 m_184 rfl (by decide) (by decide) rfl (Nat.le_of_ble_eq_true rfl) d_D_take_69) ?_
      refine pv_lstore (ll2 := [(7, .long (f_D_turned (klo k i) (tb_KEY_TURNS i))), (5, .long (f_D_turned (khi k i) (tb_KEY_TURNS i))), (9, .int (nI i)), (0, .ref d)]) X d_D_take_72 (by decide) rfl ?_
      refine pv_aload_n X 3 d_D_take_74 rfl ?_
      refine pv_get X 0 0 u_D_in m_66 rfl rfl (by decide) ⟨rfl, rfl, rfl⟩ rfl d_D_take_75 ?_
      refine pv_iload X 2 d_D_take_78 rfl ?_
      refine pv_lload X 1 d_D_take_80 rfl ?_
      refine pv_bipush X 28 d_D_take_82 (by decide) ?_
      refine pv_lshl X d_D_take_84 ?_
      refine pv_lload X 0 d_D_take_85 rfl ?_
      refine pv_lor X d_D_take_87 ?_
      refine pv_bipush X 56 d_D_take_88 (by decide) ?_
      refine pv_gets X zR m_186 d_D_take_90 ?_
      refine pv_calll0 X (rn_S X (c_D_picked l G (((f_D_turned (khi k i) (tb_KEY_TURNS i)) <<< ((28 : Int32).toInt64 &&& 63)) ||| (f_D_turned (klo k i) (tb_KEY_TURNS i))) 56 tR 48 tb_ROUND_CHOICE (by decide)) hR mf_D_picked m_177 m_178 rfl (by decide) (by decide) rfl (Nat.le_of_ble_eq_true rfl) d_D_take_93) ?_
      refine pv_last (ws2 := [ob d 4 [.ref dq, .long k], aJ G dq 16 (vp_updL (rkm key k i) i (pk (((f_D_turned (khi k i) (tb_KEY_TURNS i)) <<< ((28 : Int32).toInt64 &&& 63)) ||| (f_D_turned (klo k i) (tb_KEY_TURNS i))) 56 tb_ROUND_CHOICE 48))]) X 1 rfl (vp_in_nI (by omega) (by omega)) (by rw [(nI_clamp (by omega))]; rfl) d_D_take_96 ?_
      refine pv_iinc (ll2 := [(9, .int (nI (i + 1))), (7, .long (f_D_turned (klo k i) (tb_KEY_TURNS i))), (5, .long (f_D_turned (khi k i) (tb_KEY_TURNS i))), (0, .ref d)]) X 2 (nI (i + 1)) d_D_take_97 rfl (nI_1 _) (by decide) rfl ?_
      refine pv_goto X 41 d_D_take_100 rfl ?_
      refine pv_lpick (ll2 := [(9, .int (nI (i + 1))), (5, .long (khi k (i + 1))), (7, .long (klo k (i + 1))), (0, .ref d)]) [0, 2, 1, 3] rfl ?_
      refine pv_eqw (ws2 := [ob d 4 [.ref dq, .long k], aJ G dq 16 (rkm key k (i + 1))]) (by rw [← rkm_s]; rfl) ?_
      exact ih_i trivial
  · skip
    exact pv_vret X hr hlk () trivial (by rw [lg_cmp_0.mp h1n]) d_D_take_9
def dnp (k : Int64) (ix : Nat → Nat) (m : Int64) : Nat → Int32 × Int32
  | 0 => (((m.toUInt64 >>> ((32 : Int32).toInt64.toUInt64 &&& Int64.toUInt64 63)).toInt64).toInt32, m.toInt32)
  | i + 1 => ((dnp k ix m i).2, (dnp k ix m i).1 ^^^ f_D_boxed (dnp k ix m i).2 (rkOf k (ix i)))
def f_des (k : Int64) (ix : Nat → Nat) (b : Int64) : Int64 :=
  pk (((dnp k ix (pk b 64 tb_INITIAL 64) 16).2.toInt64 <<< ((32 : Int32).toInt64 &&& 63)) ||| ((dnp k ix (pk b 64 tb_INITIAL 64) 16).1.toInt64 &&& 4294967295)) 64 tb_FINAL 64
abbrev enc (k b : Int64) : Int64 := f_des k (fun i => i) b
abbrev dec (k b : Int64) : Int64 := f_des k (fun i => 15 - i) b
abbrev rm_D_done : Room := { frames := 1, cells := 0, slots := 0, locals := 27 }
theorem mf_D_done : MF y_D_done b_D_done 10 (some .long) 2 := ⟨m_203, m_4, by decide, by decide, by decide +kernel⟩
theorem d_D_done_0 : decode b_D_done 0 = .ok (.lload_n 1, 1) := by decide +kernel
theorem d_D_done_1 : decode b_D_done 1 = .ok (.bipush 64, 2) := by decide +kernel
theorem d_D_done_3 : decode b_D_done 3 = .ok (.getstatic 41, 3) := by decide +kernel
theorem d_D_done_6 : decode b_D_done 6 = .ok (.invokestatic 21, 3) := by decide +kernel
theorem d_D_done_9 : decode b_D_done 9 = .ok (.lstore 4, 2) := by decide +kernel
theorem d_D_done_11 : decode b_D_done 11 = .ok (.lload 4, 2) := by decide +kernel
theorem d_D_done_13 : decode b_D_done 13 = .ok (.bipush 32, 2) := by decide +kernel
theorem d_D_done_15 : decode b_D_done 15 = .ok (.lushr, 1) := by decide +kernel
theorem d_D_done_16 : decode b_D_done 16 = .ok (.l2i, 1) := by decide +kernel
theorem d_D_done_17 : decode b_D_done 17 = .ok (.istore 6, 2) := by decide +kernel
theorem d_D_done_19 : decode b_D_done 19 = .ok (.lload 4, 2) := by decide +kernel
theorem d_D_done_21 : decode b_D_done 21 = .ok (.l2i, 1) := by decide +kernel
theorem d_D_done_22 : decode b_D_done 22 = .ok (.istore 7, 2) := by decide +kernel
theorem d_D_done_24 : decode b_D_done 24 = .ok (.iconst 0, 1) := by decide +kernel
theorem d_D_done_25 : decode b_D_done 25 = .ok (.istore 8, 2) := by decide +kernel
theorem d_D_done_27 : decode b_D_done 27 = .ok (.iload 8, 2) := by decide +kernel
theorem d_D_done_29 : decode b_D_done 29 = .ok (.bipush 16, 2) := by decide +kernel
theorem d_D_done_31 : decode b_D_done 31 = .ok (.if_icmp .ge 46, 3) := by decide +kernel
theorem d_D_done_34 : decode b_D_done 34 = .ok (.iload 6, 2) := by decide +kernel
theorem d_D_done_36 : decode b_D_done 36 = .ok (.iload 7, 2) := by decide +kernel
theorem d_D_done_38 : decode b_D_done 38 = .ok (.aload_n 0, 1) := by decide +kernel
theorem d_D_done_39 : decode b_D_done 39 = .ok (.getfield 9, 3) := by decide +kernel
theorem d_D_done_42 : decode b_D_done 42 = .ok (.iload_n 3, 1) := by decide +kernel
theorem d_D_done_43 : decode b_D_done 43 = .ok (.ifCond .eq 11, 3) := by decide +kernel
theorem d_D_done_54 : decode b_D_done 54 = .ok (.iload 8, 2) := by decide +kernel
theorem d_D_done_56 : decode b_D_done 56 = .ok (.laload, 1) := by decide +kernel
theorem d_D_done_57 : decode b_D_done 57 = .ok (.invokestatic 44, 3) := by decide +kernel
theorem d_D_done_60 : decode b_D_done 60 = .ok (.ixor, 1) := by decide +kernel
theorem d_D_done_61 : decode b_D_done 61 = .ok (.istore 9, 2) := by decide +kernel
theorem d_D_done_63 : decode b_D_done 63 = .ok (.iload 7, 2) := by decide +kernel
theorem d_D_done_65 : decode b_D_done 65 = .ok (.istore 6, 2) := by decide +kernel
theorem d_D_done_67 : decode b_D_done 67 = .ok (.iload 9, 2) := by decide +kernel
theorem d_D_done_69 : decode b_D_done 69 = .ok (.istore 7, 2) := by decide +kernel
theorem d_D_done_71 : decode b_D_done 71 = .ok (.iinc 8 1, 3) := by decide +kernel
theorem d_D_done_74 : decode b_D_done 74 = .ok (.goto (-47), 3) := by decide +kernel
theorem d_D_done_77 : decode b_D_done 77 = .ok (.iload 7, 2) := by decide +kernel
theorem d_D_done_79 : decode b_D_done 79 = .ok (.i2l, 1) := by decide +kernel
theorem d_D_done_80 : decode b_D_done 80 = .ok (.bipush 32, 2) := by decide +kernel
theorem d_D_done_82 : decode b_D_done 82 = .ok (.lshl, 1) := by decide +kernel
theorem d_D_done_83 : decode b_D_done 83 = .ok (.iload 6, 2) := by decide +kernel
theorem d_D_done_85 : decode b_D_done 85 = .ok (.i2l, 1) := by decide +kernel
theorem d_D_done_86 : decode b_D_done 86 = .ok (.ldc2_w 48, 3) := by decide +kernel
theorem d_D_done_89 : decode b_D_done 89 = .ok (.land, 1) := by decide +kernel
theorem d_D_done_90 : decode b_D_done 90 = .ok (.lor, 1) := by decide +kernel
theorem d_D_done_91 : decode b_D_done 91 = .ok (.bipush 64, 2) := by decide +kernel
theorem d_D_done_93 : decode b_D_done 93 = .ok (.getstatic 50, 3) := by decide +kernel
theorem d_D_done_96 : decode b_D_done 96 = .ok (.invokestatic 21, 3) := by decide +kernel
theorem d_D_done_99 : decode b_D_done 99 = .ok (.lreturn, 1) := by decide +kernel
set_option maxRecDepth 100000 in
set_option maxHeartbeats 4000000 in
theorem c_D_done0 (l : Launch) (G : Gt) (d dq : Nat) (key b : Int64) : CtL l G y_D_done b_D_done 10 (some .long) rm_D_done Sx [.ref d, .long b, .int 0] [ob d 4 [.ref dq, .long key], aJ G dq 16 (rkF key)] (fun r (_ : Unit) => r = f_des key (fun i => i) b) (fun _ => [ob d 4 [.ref dq, .long key], aJ G dq 16 (rkF key)]) 0 0 := by
  refine Ct.of (Qp := fun A => va_Ql _ (qB G A _) A) Sx_stb (by decide) (Nat.le_of_ble_eq_true rfl) ?_
  intro p e s m args below meth c A X hE hr hlk hini
  refine pv_eql (ll2 := [(0, .ref d), (1, .long b), (3, .int 0)]) rfl ?_
  obtain ⟨tI, zI, hI⟩ := hE.INITIAL
  obtain ⟨tF, zF, hF⟩ := hE.FINAL
  obtain ⟨tK, zK, hK⟩ := hE.KEY_CHOICE
  obtain ⟨tR, zR, hR⟩ := hE.ROUND_CHOICE
  obtain ⟨tU, zU, hU⟩ := hE.KEY_TURNS
  refine pv_lload_n X 1 d_D_done_0 rfl ?_
  refine pv_bipush X 64 d_D_done_1 (by decide) ?_
  refine pv_gets X zI m_204 d_D_done_3 ?_
  refine pv_calll0 X (rn_S X (c_D_picked l G b 64 tI 64 tb_INITIAL (by decide)) hI mf_D_picked m_177 m_178 rfl (by decide) (by decide) rfl (Nat.le_of_ble_eq_true rfl) d_D_done_6) ?_
  refine pv_lstore (ll2 := [(4, .long (pk b 64 tb_INITIAL 64)), (0, .ref d), (1, .long b), (3, .int 0)]) X d_D_done_9 (by decide) rfl ?_
  refine pv_lload X 0 d_D_done_11 rfl ?_
  refine pv_bipush X 32 d_D_done_13 (by decide) ?_
  refine pv_lushr X d_D_done_15 ?_
  refine pv_l2i X d_D_done_16 ?_
  refine pv_istore (ll2 := [(6, .int ((((pk b 64 tb_INITIAL 64).toUInt64 >>> ((32 : Int32).toInt64.toUInt64 &&& Int64.toUInt64 63)).toInt64).toInt32)), (4, .long (pk b 64 tb_INITIAL 64)), (0, .ref d), (1, .long b), (3, .int 0)]) X d_D_done_17 (by decide) rfl ?_
  refine pv_lload X 1 d_D_done_19 rfl ?_
  refine pv_l2i X d_D_done_21 ?_
  refine pv_istore (ll2 := [(7, .int ((pk b 64 tb_INITIAL 64).toInt32)), (6, .int ((((pk b 64 tb_INITIAL 64).toUInt64 >>> ((32 : Int32).toInt64.toUInt64 &&& Int64.toUInt64 63)).toInt64).toInt32)), (4, .long (pk b 64 tb_INITIAL 64)), (0, .ref d), (1, .long b), (3, .int 0)]) X d_D_done_22 (by decide) rfl ?_
  refine pv_iconst X 0 d_D_done_24 (by decide) ?_
  refine pv_istore (ll2 := [(8, .int 0), (7, .int ((pk b 64 tb_INITIAL 64).toInt32)), (6, .int ((((pk b 64 tb_INITIAL 64).toUInt64 >>> ((32 : Int32).toInt64.toUInt64 &&& Int64.toUInt64 63)).toInt64).toInt32)), (4, .long (pk b 64 tb_INITIAL 64)), (0, .ref d), (1, .long b), (3, .int 0)]) X d_D_done_25 (by decide) rfl ?_
  refine pv_lpick (ll2 := [(8, .int (nI 0)), (6, .int ((dnp key (fun i => i) (pk b 64 tb_INITIAL 64) 0).1)), (7, .int ((dnp key (fun i => i) (pk b 64 tb_INITIAL 64) 0).2)), (0, .ref d), (3, .int 0)]) [0, 2, 1, 4, 6] rfl ?_
  refine pv_eqw (ws2 := [ob d 4 [.ref dq, .long key], aJ G dq 16 (rkF key)]) rfl ?_
  refine pv_loop 16 (fun i => True) (fun i => [ob d 4 [.ref dq, .long key], aJ G dq 16 (rkF key)]) (fun i => [(8, .int (nI i)), (6, .int ((dnp key (fun i => i) (pk b 64 tb_INITIAL 64) i).1)), (7, .int ((dnp key (fun i => i) (pk b 64 tb_INITIAL 64) i).2)), (0, .ref d), (3, .int 0)]) 0 (by omega) trivial (fun hI_i => ?_) (fun i h_i hI_i ih_i => ?_)
  · skip
    refine pv_iload X 0 d_D_done_27 rfl ?_
    refine pv_bipush X 16 d_D_done_29 (by decide) ?_
    refine pv_icmp_ge X 77 d_D_done_31 rfl (fun _ => ?_) (fun h => absurd (by decide) h)
    refine pv_iload X 2 d_D_done_77 rfl ?_
    refine pv_i2l X d_D_done_79 ?_
    refine pv_bipush X 32 d_D_done_80 (by decide) ?_
    refine pv_lshl X d_D_done_82 ?_
    refine pv_iload X 1 d_D_done_83 rfl ?_
    refine pv_i2l X d_D_done_85 ?_
    refine pv_ldc2_w X m_211 d_D_done_86 ?_
    refine pv_land X d_D_done_89 ?_
    refine pv_lor X d_D_done_90 ?_
    refine pv_bipush X 64 d_D_done_91 (by decide) ?_
    refine pv_gets X zF m_212 d_D_done_93 ?_
    refine pv_calll0 X (rn_S X (c_D_picked l G (((((dnp key (fun i => i) (pk b 64 tb_INITIAL 64) 16).2).toInt64) <<< ((32 : Int32).toInt64 &&& 63)) ||| ((((dnp key (fun i => i) (pk b 64 tb_INITIAL 64) 16).1).toInt64) &&& (4294967295 : Int64))) 64 tF 64 tb_FINAL (by decide)) hF mf_D_picked m_177 m_178 rfl (by decide) (by decide) rfl (Nat.le_of_ble_eq_true rfl) d_D_done_96) ?_
    exact pv_lret X hr hlk () rfl rfl d_D_done_99
  · skip
    refine pv_iload X 0 d_D_done_27 rfl ?_
    refine pv_bipush X 16 d_D_done_29 (by decide) ?_
    refine pv_icmp_ge X 77 d_D_done_31 rfl (fun h => absurd h (nI_ge h_i (by decide))) (fun _ => ?_)
    refine pv_iload X 1 d_D_done_34 rfl ?_
    refine pv_iload X 2 d_D_done_36 rfl ?_
    refine pv_aload_n X 3 d_D_done_38 rfl ?_
    refine pv_get X 0 0 u_D_in m_66 rfl rfl (by decide) ⟨rfl, rfl, rfl⟩ rfl d_D_done_39 ?_
    refine pv_iload_n X 4 d_D_done_42 rfl ?_
    refine pv_if_eq X 54 d_D_done_43 rfl (fun _ => ?_) (fun h => absurd (by decide) h)
    refine pv_iload X 0 d_D_done_54 rfl ?_
    refine pv_lald X 1 rfl (vp_in_nI (by omega) (by omega)) d_D_done_56 ?_
    refine pv_topl ((rkF key) i) (congrArg (rkF key) (nI_clamp (by omega))) ?_
    refine pv_topl (rkOf key i) (rkF_at (by omega)) ?_
    refine pv_calli0 X (rn_S X (c_D_boxed l G ((dnp key (fun i => i) (pk b 64 tb_INITIAL 64) i).2) (rkOf key i)) hE mf_D_boxed m_206 m_207 rfl (by decide) (by decide) rfl (Nat.le_of_ble_eq_true rfl) d_D_done_57) ?_
    refine pv_ixor X d_D_done_60 ?_
    refine pv_istore (ll2 := [(9, .int (((dnp key (fun i => i) (pk b 64 tb_INITIAL 64) i).1) ^^^ (f_D_boxed ((dnp key (fun i => i) (pk b 64 tb_INITIAL 64) i).2) (rkOf key i)))), (8, .int (nI i)), (6, .int ((dnp key (fun i => i) (pk b 64 tb_INITIAL 64) i).1)), (7, .int ((dnp key (fun i => i) (pk b 64 tb_INITIAL 64) i).2)), (0, .ref d), (3, .int 0)]) X d_D_done_61 (by decide) rfl ?_
    refine pv_iload X 3 d_D_done_63 rfl ?_
    refine pv_istore (ll2 := [(6, .int ((dnp key (fun i => i) (pk b 64 tb_INITIAL 64) i).2)), (9, .int (((dnp key (fun i => i) (pk b 64 tb_INITIAL 64) i).1) ^^^ (f_D_boxed ((dnp key (fun i => i) (pk b 64 tb_INITIAL 64) i).2) (rkOf key i)))), (8, .int (nI i)), (7, .int ((dnp key (fun i => i) (pk b 64 tb_INITIAL 64) i).2)), (0, .ref d), (3, .int 0)]) X d_D_done_65 (by decide) rfl ?_
    refine pv_iload X 1 d_D_done_67 rfl ?_
    refine pv_istore (ll2 := [(7, .int (((dnp key (fun i => i) (pk b 64 tb_INITIAL 64) i).1) ^^^ (f_D_boxed ((dnp key (fun i => i) (pk b 64 tb_INITIAL 64) i).2) (rkOf key i)))), (6, .int ((dnp key (fun i => i) (pk b 64 tb_INITIAL 64) i).2)), (9, .int (((dnp key (fun i => i) (pk b 64 tb_INITIAL 64) i).1) ^^^ (f_D_boxed ((dnp key (fun i => i) (pk b 64 tb_INITIAL 64) i).2) (rkOf key i)))), (8, .int (nI i)), (0, .ref d), (3, .int 0)]) X d_D_done_69 (by decide) rfl ?_
    refine pv_iinc (ll2 := [(8, .int (nI (i + 1))), (7, .int (((dnp key (fun i => i) (pk b 64 tb_INITIAL 64) i).1) ^^^ (f_D_boxed ((dnp key (fun i => i) (pk b 64 tb_INITIAL 64) i).2) (rkOf key i)))), (6, .int ((dnp key (fun i => i) (pk b 64 tb_INITIAL 64) i).2)), (9, .int (((dnp key (fun i => i) (pk b 64 tb_INITIAL 64) i).1) ^^^ (f_D_boxed ((dnp key (fun i => i) (pk b 64 tb_INITIAL 64) i).2) (rkOf key i)))), (0, .ref d), (3, .int 0)]) X 3 (nI (i + 1)) d_D_done_71 rfl (nI_1 _) (by decide) rfl ?_
    refine pv_goto X 27 d_D_done_74 rfl ?_
    refine pv_lpick (ll2 := [(8, .int (nI (i + 1))), (6, .int ((dnp key (fun i => i) (pk b 64 tb_INITIAL 64) (i + 1)).1)), (7, .int ((dnp key (fun i => i) (pk b 64 tb_INITIAL 64) (i + 1)).2)), (0, .ref d), (3, .int 0)]) [0, 2, 1, 4, 5] rfl ?_
    refine pv_eqw (ws2 := [ob d 4 [.ref dq, .long key], aJ G dq 16 (rkF key)]) rfl ?_
    exact ih_i trivial
theorem d_D_done_46 : decode b_D_done 46 = .ok (.bipush 15, 2) := by decide +kernel
theorem d_D_done_48 : decode b_D_done 48 = .ok (.iload 8, 2) := by decide +kernel
theorem d_D_done_50 : decode b_D_done 50 = .ok (.isub, 1) := by decide +kernel
theorem d_D_done_51 : decode b_D_done 51 = .ok (.goto 5, 3) := by decide +kernel
set_option maxRecDepth 100000 in
set_option maxHeartbeats 4000000 in
theorem c_D_done1 (l : Launch) (G : Gt) (d dq : Nat) (key b : Int64) : CtL l G y_D_done b_D_done 10 (some .long) rm_D_done Sx [.ref d, .long b, .int 1] [ob d 4 [.ref dq, .long key], aJ G dq 16 (rkF key)] (fun r (_ : Unit) => r = f_des key (fun i => 15 - i) b) (fun _ => [ob d 4 [.ref dq, .long key], aJ G dq 16 (rkF key)]) 0 0 := by
  refine Ct.of (Qp := fun A => va_Ql _ (qB G A _) A) Sx_stb (by decide) (Nat.le_of_ble_eq_true rfl) ?_
  intro p e s m args below meth c A X hE hr hlk hini
  refine pv_eql (ll2 := [(0, .ref d), (1, .long b), (3, .int 1)]) rfl ?_
  obtain ⟨tI, zI, hI⟩ := hE.INITIAL
  obtain ⟨tF, zF, hF⟩ := hE.FINAL
  obtain ⟨tK, zK, hK⟩ := hE.KEY_CHOICE
  obtain ⟨tR, zR, hR⟩ := hE.ROUND_CHOICE
  obtain ⟨tU, zU, hU⟩ := hE.KEY_TURNS
  refine pv_lload_n X 1 d_D_done_0 rfl ?_
  refine pv_bipush X 64 d_D_done_1 (by decide) ?_
  refine pv_gets X zI m_204 d_D_done_3 ?_
  refine pv_calll0 X (rn_S X (c_D_picked l G b 64 tI 64 tb_INITIAL (by decide)) hI mf_D_picked m_177 m_178 rfl (by decide) (by decide) rfl (Nat.le_of_ble_eq_true rfl) d_D_done_6) ?_
  refine pv_lstore (ll2 := [(4, .long (pk b 64 tb_INITIAL 64)), (0, .ref d), (1, .long b), (3, .int 1)]) X d_D_done_9 (by decide) rfl ?_
  refine pv_lload X 0 d_D_done_11 rfl ?_
  refine pv_bipush X 32 d_D_done_13 (by decide) ?_
  refine pv_lushr X d_D_done_15 ?_
  refine pv_l2i X d_D_done_16 ?_
  refine pv_istore (ll2 := [(6, .int ((((pk b 64 tb_INITIAL 64).toUInt64 >>> ((32 : Int32).toInt64.toUInt64 &&& Int64.toUInt64 63)).toInt64).toInt32)), (4, .long (pk b 64 tb_INITIAL 64)), (0, .ref d), (1, .long b), (3, .int 1)]) X d_D_done_17 (by decide) rfl ?_
  refine pv_lload X 1 d_D_done_19 rfl ?_
  refine pv_l2i X d_D_done_21 ?_
  refine pv_istore (ll2 := [(7, .int ((pk b 64 tb_INITIAL 64).toInt32)), (6, .int ((((pk b 64 tb_INITIAL 64).toUInt64 >>> ((32 : Int32).toInt64.toUInt64 &&& Int64.toUInt64 63)).toInt64).toInt32)), (4, .long (pk b 64 tb_INITIAL 64)), (0, .ref d), (1, .long b), (3, .int 1)]) X d_D_done_22 (by decide) rfl ?_
  refine pv_iconst X 0 d_D_done_24 (by decide) ?_
  refine pv_istore (ll2 := [(8, .int 0), (7, .int ((pk b 64 tb_INITIAL 64).toInt32)), (6, .int ((((pk b 64 tb_INITIAL 64).toUInt64 >>> ((32 : Int32).toInt64.toUInt64 &&& Int64.toUInt64 63)).toInt64).toInt32)), (4, .long (pk b 64 tb_INITIAL 64)), (0, .ref d), (1, .long b), (3, .int 1)]) X d_D_done_25 (by decide) rfl ?_
  refine pv_lpick (ll2 := [(8, .int (nI 0)), (6, .int ((dnp key (fun i => 15 - i) (pk b 64 tb_INITIAL 64) 0).1)), (7, .int ((dnp key (fun i => 15 - i) (pk b 64 tb_INITIAL 64) 0).2)), (0, .ref d), (3, .int 1)]) [0, 2, 1, 4, 6] rfl ?_
  refine pv_eqw (ws2 := [ob d 4 [.ref dq, .long key], aJ G dq 16 (rkF key)]) rfl ?_
  refine pv_loop 16 (fun i => True) (fun i => [ob d 4 [.ref dq, .long key], aJ G dq 16 (rkF key)]) (fun i => [(8, .int (nI i)), (6, .int ((dnp key (fun i => 15 - i) (pk b 64 tb_INITIAL 64) i).1)), (7, .int ((dnp key (fun i => 15 - i) (pk b 64 tb_INITIAL 64) i).2)), (0, .ref d), (3, .int 1)]) 0 (by omega) trivial (fun hI_i => ?_) (fun i h_i hI_i ih_i => ?_)
  · skip
    refine pv_iload X 0 d_D_done_27 rfl ?_
    refine pv_bipush X 16 d_D_done_29 (by decide) ?_
    refine pv_icmp_ge X 77 d_D_done_31 rfl (fun _ => ?_) (fun h => absurd (by decide) h)
    refine pv_iload X 2 d_D_done_77 rfl ?_
    refine pv_i2l X d_D_done_79 ?_
    refine pv_bipush X 32 d_D_done_80 (by decide) ?_
    refine pv_lshl X d_D_done_82 ?_
    refine pv_iload X 1 d_D_done_83 rfl ?_
    refine pv_i2l X d_D_done_85 ?_
    refine pv_ldc2_w X m_211 d_D_done_86 ?_
    refine pv_land X d_D_done_89 ?_
    refine pv_lor X d_D_done_90 ?_
    refine pv_bipush X 64 d_D_done_91 (by decide) ?_
    refine pv_gets X zF m_212 d_D_done_93 ?_
    refine pv_calll0 X (rn_S X (c_D_picked l G (((((dnp key (fun i => 15 - i) (pk b 64 tb_INITIAL 64) 16).2).toInt64) <<< ((32 : Int32).toInt64 &&& 63)) ||| ((((dnp key (fun i => 15 - i) (pk b 64 tb_INITIAL 64) 16).1).toInt64) &&& (4294967295 : Int64))) 64 tF 64 tb_FINAL (by decide)) hF mf_D_picked m_177 m_178 rfl (by decide) (by decide) rfl (Nat.le_of_ble_eq_true rfl) d_D_done_96) ?_
    exact pv_lret X hr hlk () rfl rfl d_D_done_99
  · skip
    refine pv_iload X 0 d_D_done_27 rfl ?_
    refine pv_bipush X 16 d_D_done_29 (by decide) ?_
    refine pv_icmp_ge X 77 d_D_done_31 rfl (fun h => absurd h (nI_ge h_i (by decide))) (fun _ => ?_)
    refine pv_iload X 1 d_D_done_34 rfl ?_
    refine pv_iload X 2 d_D_done_36 rfl ?_
    refine pv_aload_n X 3 d_D_done_38 rfl ?_
    refine pv_get X 0 0 u_D_in m_66 rfl rfl (by decide) ⟨rfl, rfl, rfl⟩ rfl d_D_done_39 ?_
    refine pv_iload_n X 4 d_D_done_42 rfl ?_
    refine pv_if_eq X 54 d_D_done_43 rfl (fun h => absurd h (by decide)) (fun _ => ?_)
    refine pv_bipush X 15 d_D_done_46 (by decide) ?_
    refine pv_iload X 0 d_D_done_48 rfl ?_
    refine pv_isub X d_D_done_50 ?_
    refine pv_goto X 56 d_D_done_51 rfl ?_
    refine pv_topi (nI (15 - i)) (pk_sub (a := 15) (b := i) (by omega)) ?_
    refine pv_lald X 1 rfl (vp_in_nI (by omega) (by omega)) d_D_done_56 ?_
    refine pv_topl ((rkF key) (15 - i)) (congrArg (rkF key) (nI_clamp (by omega))) ?_
    refine pv_topl (rkOf key (15 - i)) (rkF_at (by omega)) ?_
    refine pv_calli0 X (rn_S X (c_D_boxed l G ((dnp key (fun i => 15 - i) (pk b 64 tb_INITIAL 64) i).2) (rkOf key (15 - i))) hE mf_D_boxed m_206 m_207 rfl (by decide) (by decide) rfl (Nat.le_of_ble_eq_true rfl) d_D_done_57) ?_
    refine pv_ixor X d_D_done_60 ?_
    refine pv_istore (ll2 := [(9, .int (((dnp key (fun i => 15 - i) (pk b 64 tb_INITIAL 64) i).1) ^^^ (f_D_boxed ((dnp key (fun i => 15 - i) (pk b 64 tb_INITIAL 64) i).2) (rkOf key (15 - i))))), (8, .int (nI i)), (6, .int ((dnp key (fun i => 15 - i) (pk b 64 tb_INITIAL 64) i).1)), (7, .int ((dnp key (fun i => 15 - i) (pk b 64 tb_INITIAL 64) i).2)), (0, .ref d), (3, .int 1)]) X d_D_done_61 (by decide) rfl ?_
    refine pv_iload X 3 d_D_done_63 rfl ?_
    refine pv_istore (ll2 := [(6, .int ((dnp key (fun i => 15 - i) (pk b 64 tb_INITIAL 64) i).2)), (9, .int (((dnp key (fun i => 15 - i) (pk b 64 tb_INITIAL 64) i).1) ^^^ (f_D_boxed ((dnp key (fun i => 15 - i) (pk b 64 tb_INITIAL 64) i).2) (rkOf key (15 - i))))), (8, .int (nI i)), (7, .int ((dnp key (fun i => 15 - i) (pk b 64 tb_INITIAL 64) i).2)), (0, .ref d), (3, .int 1)]) X d_D_done_65 (by decide) rfl ?_
    refine pv_iload X 1 d_D_done_67 rfl ?_
    refine pv_istore (ll2 := [(7, .int (((dnp key (fun i => 15 - i) (pk b 64 tb_INITIAL 64) i).1) ^^^ (f_D_boxed ((dnp key (fun i => 15 - i) (pk b 64 tb_INITIAL 64) i).2) (rkOf key (15 - i))))), (6, .int ((dnp key (fun i => 15 - i) (pk b 64 tb_INITIAL 64) i).2)), (9, .int (((dnp key (fun i => 15 - i) (pk b 64 tb_INITIAL 64) i).1) ^^^ (f_D_boxed ((dnp key (fun i => 15 - i) (pk b 64 tb_INITIAL 64) i).2) (rkOf key (15 - i))))), (8, .int (nI i)), (0, .ref d), (3, .int 1)]) X d_D_done_69 (by decide) rfl ?_
    refine pv_iinc (ll2 := [(8, .int (nI (i + 1))), (7, .int (((dnp key (fun i => 15 - i) (pk b 64 tb_INITIAL 64) i).1) ^^^ (f_D_boxed ((dnp key (fun i => 15 - i) (pk b 64 tb_INITIAL 64) i).2) (rkOf key (15 - i))))), (6, .int ((dnp key (fun i => 15 - i) (pk b 64 tb_INITIAL 64) i).2)), (9, .int (((dnp key (fun i => 15 - i) (pk b 64 tb_INITIAL 64) i).1) ^^^ (f_D_boxed ((dnp key (fun i => 15 - i) (pk b 64 tb_INITIAL 64) i).2) (rkOf key (15 - i))))), (0, .ref d), (3, .int 1)]) X 3 (nI (i + 1)) d_D_done_71 rfl (nI_1 _) (by decide) rfl ?_
    refine pv_goto X 27 d_D_done_74 rfl ?_
    refine pv_lpick (ll2 := [(8, .int (nI (i + 1))), (6, .int ((dnp key (fun i => 15 - i) (pk b 64 tb_INITIAL 64) (i + 1)).1)), (7, .int ((dnp key (fun i => 15 - i) (pk b 64 tb_INITIAL 64) (i + 1)).2)), (0, .ref d), (3, .int 1)]) [0, 2, 1, 4, 5] rfl ?_
    refine pv_eqw (ws2 := [ob d 4 [.ref dq, .long key], aJ G dq 16 (rkF key)]) rfl ?_
    exact ih_i trivial
abbrev rm_D_encrypted : Room := { frames := 2, cells := 0, slots := 0, locals := 56 }
theorem mf_D_encrypted : MF y_D_encrypted b_D_encrypted 3 (some .long) 1 := ⟨m_199, m_4, by decide, by decide, by decide +kernel⟩
theorem d_D_encrypted_0 : decode b_D_encrypted 0 = .ok (.aload_n 0, 1) := by decide +kernel
theorem d_D_encrypted_1 : decode b_D_encrypted 1 = .ok (.lload_n 1, 1) := by decide +kernel
theorem d_D_encrypted_2 : decode b_D_encrypted 2 = .ok (.iconst 0, 1) := by decide +kernel
theorem d_D_encrypted_3 : decode b_D_encrypted 3 = .ok (.invokevirtual 37, 3) := by decide +kernel
theorem d_D_encrypted_6 : decode b_D_encrypted 6 = .ok (.lreturn, 1) := by decide +kernel
set_option maxRecDepth 100000 in
set_option maxHeartbeats 4000000 in
theorem c_D_encrypted (l : Launch) (G : Gt) (d dq : Nat) (key b : Int64) : CtL l G y_D_encrypted b_D_encrypted 3 (some .long) rm_D_encrypted Sx [.ref d, .long b] [ob d 4 [.ref dq, .long key], aJ G dq 16 (rkF key)] (fun r (_ : Unit) => r = enc key b) (fun _ => [ob d 4 [.ref dq, .long key], aJ G dq 16 (rkF key)]) 0 0 := by
  refine Ct.of (Qp := fun A => va_Ql _ (qB G A _) A) Sx_stb (by decide) (Nat.le_of_ble_eq_true rfl) ?_
  intro p e s m args below meth c A X hE hr hlk hini
  refine pv_eql (ll2 := [(0, .ref d), (1, .long b)]) rfl ?_
  refine pv_aload_n X 0 d_D_encrypted_0 rfl ?_
  refine pv_lload_n X 1 d_D_encrypted_1 rfl ?_
  refine pv_iconst X 0 d_D_encrypted_2 (by decide) ?_
  refine pv_calllE X (Cut.all _) (rn_V X (c_D_done0 l G d dq key b) hE mf_D_done m_200 m_202 ms_0 rfl 0 rfl rfl rfl (by decide) (by decide) rfl (Nat.le_of_ble_eq_true rfl) d_D_encrypted_3) (fun x1 => ?_)
  refine pv_eqw (ws2 := [ob d 4 [.ref dq, .long key], aJ G dq 16 (rkF key)]) rfl ?_
  exact pv_lret X hr hlk () rfl rfl d_D_encrypted_6
abbrev rm_D_decrypted : Room := { frames := 2, cells := 0, slots := 0, locals := 56 }
theorem mf_D_decrypted : MF y_D_decrypted b_D_decrypted 3 (some .long) 1 := ⟨m_217, m_4, by decide, by decide, by decide +kernel⟩
theorem d_D_decrypted_0 : decode b_D_decrypted 0 = .ok (.aload_n 0, 1) := by decide +kernel
theorem d_D_decrypted_1 : decode b_D_decrypted 1 = .ok (.lload_n 1, 1) := by decide +kernel
theorem d_D_decrypted_2 : decode b_D_decrypted 2 = .ok (.iconst 1, 1) := by decide +kernel
theorem d_D_decrypted_3 : decode b_D_decrypted 3 = .ok (.invokevirtual 37, 3) := by decide +kernel
theorem d_D_decrypted_6 : decode b_D_decrypted 6 = .ok (.lreturn, 1) := by decide +kernel
set_option maxRecDepth 100000 in
set_option maxHeartbeats 4000000 in
theorem c_D_decrypted (l : Launch) (G : Gt) (d dq : Nat) (key b : Int64) : CtL l G y_D_decrypted b_D_decrypted 3 (some .long) rm_D_decrypted Sx [.ref d, .long b] [ob d 4 [.ref dq, .long key], aJ G dq 16 (rkF key)] (fun r (_ : Unit) => r = dec key b) (fun _ => [ob d 4 [.ref dq, .long key], aJ G dq 16 (rkF key)]) 0 0 := by
  refine Ct.of (Qp := fun A => va_Ql _ (qB G A _) A) Sx_stb (by decide) (Nat.le_of_ble_eq_true rfl) ?_
  intro p e s m args below meth c A X hE hr hlk hini
  refine pv_eql (ll2 := [(0, .ref d), (1, .long b)]) rfl ?_
  refine pv_aload_n X 0 d_D_decrypted_0 rfl ?_
  refine pv_lload_n X 1 d_D_decrypted_1 rfl ?_
  refine pv_iconst X 1 d_D_decrypted_2 (by decide) ?_
  refine pv_calllE X (Cut.all _) (rn_V X (c_D_done1 l G d dq key b) hE mf_D_done m_200 m_202 ms_0 rfl 0 rfl rfl rfl (by decide) (by decide) rfl (Nat.le_of_ble_eq_true rfl) d_D_decrypted_3) (fun x1 => ?_)
  refine pv_eqw (ws2 := [ob d 4 [.ref dq, .long key], aJ G dq 16 (rkF key)]) rfl ?_
  exact pv_lret X hr hlk () rfl rfl d_D_decrypted_6
abbrev rm_C_init : Room := { frames := 2, cells := 4, slots := 36, locals := 40 }
theorem mf_C_init : MF y_C_init b_C_init 1 none 0 := ⟨m_102, m_5, by decide, by decide, by decide +kernel⟩
theorem d_C_init_0 : decode b_C_init 0 = .ok (.aload_n 0, 1) := by decide +kernel
theorem d_C_init_1 : decode b_C_init 1 = .ok (.invokespecial 1, 3) := by decide +kernel
theorem d_C_init_4 : decode b_C_init 4 = .ok (.aload_n 0, 1) := by decide +kernel
theorem d_C_init_5 : decode b_C_init 5 = .ok (.new 7, 3) := by decide +kernel
theorem d_C_init_8 : decode b_C_init 8 = .ok (.dup, 1) := by decide +kernel
theorem d_C_init_9 : decode b_C_init 9 = .ok (.invokespecial 9, 3) := by decide +kernel
theorem d_C_init_12 : decode b_C_init 12 = .ok (.putfield 10, 3) := by decide +kernel
theorem d_C_init_15 : decode b_C_init 15 = .ok (.aload_n 0, 1) := by decide +kernel
theorem d_C_init_16 : decode b_C_init 16 = .ok (.new 7, 3) := by decide +kernel
theorem d_C_init_19 : decode b_C_init 19 = .ok (.dup, 1) := by decide +kernel
theorem d_C_init_20 : decode b_C_init 20 = .ok (.invokespecial 9, 3) := by decide +kernel
theorem d_C_init_23 : decode b_C_init 23 = .ok (.putfield 16, 3) := by decide +kernel
theorem d_C_init_26 : decode b_C_init 26 = .ok (.return_, 1) := by decide +kernel
set_option maxRecDepth 100000 in
set_option maxHeartbeats 4000000 in
theorem c_C_init (l : Launch) (G : Gt) (zc : Nat) : CtV l G y_C_init b_C_init 1 none rm_C_init Nx [.ref zc] [ob zc 3 [.null, .null]] (fun (_ : Nat × Nat × Nat × Nat) => True) (fun x => [ob zc 3 [.ref x.1, .ref x.2.2.1], ob x.1 4 [.ref x.2.1, .long 0], aJ G x.2.1 16 (rkF 0), ob x.2.2.1 4 [.ref x.2.2.2, .long 0], aJ G x.2.2.2 16 (rkF 0)]) 4 36 := by
  refine Ct.of (Qp := fun A => va_Qv _ (qB G A _) A) Nx_stb (by decide) (Nat.le_of_ble_eq_true rfl) ?_
  intro p e s m args below meth c A X hE hr hlk hini
  refine pv_eql (ll2 := [(0, .ref zc)]) rfl ?_
  obtain ⟨hN_26, hN_56, hN_62, hN_100, hN_105⟩ := id hE
  refine pv_aload_n X 0 d_C_init_0 rfl ?_
  refine pv_objInit X m_103 m_22 m_23 (by decide) (Nat.le_of_ble_eq_true rfl) d_C_init_1 ?_
  refine pv_aload_n X 0 d_C_init_4 rfl ?_
  refine pv_new (ci := 4) (fs := [.null, .long 0]) X ty_D ty_D_ok u_D_in m_104 m_61 m_4 rfl (by intro j hj; rcases (show j = 0 ∨ j = 1 by omega) with rfl | rfl <;> rfl) (by decide) (by decide) d_C_init_5 (fun q1 => ?_)
  refine pv_eqw (ws2 := [ob zc 3 [.null, .null], ob q1 4 [.null, .long 0]]) rfl ?_
  refine pv_dup X d_C_init_8 rfl ?_
  refine pv_callv X (Cut.mk (w0 := [ob q1 4 [.null, .long 0]]) (wr := [ob zc 3 [.null, .null]]) [1] [0] rfl rfl rfl rfl rfl) (rn_IN X (c_D_init l G q1) trivial mf_D_init hN_105 m_63 rfl rfl (by decide) (by decide) rfl (Nat.le_of_ble_eq_true rfl) d_C_init_9) (fun x1 e1 => ?_)
  refine pv_eqw (ws2 := [ob zc 3 [.null, .null], ob q1 4 [.ref x1, .long 0], aJ G x1 16 (rkF 0)]) rfl ?_
  refine pv_putF X hini (ty := .object "PinModule$Des") (ws2 := [ob zc 3 [.ref q1, .null], ob q1 4 [.ref x1, .long 0], aJ G x1 16 (rkF 0)]) 0 0 ty_C ty_C_ok n_C u_C_in m_106 rfl rfl (by decide) ⟨rfl, rfl, rfl⟩ rfl rfl (by decide +kernel) rfl rfl (Nat.le_of_ble_eq_true rfl) rfl d_C_init_12 ?_
  refine pv_aload_n X 0 d_C_init_15 rfl ?_
  refine pv_new (ci := 4) (fs := [.null, .long 0]) X ty_D ty_D_ok u_D_in m_104 m_61 m_4 rfl (by intro j hj; rcases (show j = 0 ∨ j = 1 by omega) with rfl | rfl <;> rfl) (by decide) (by decide) d_C_init_16 (fun q2 => ?_)
  refine pv_eqw (ws2 := [ob zc 3 [.ref q1, .null], ob q1 4 [.ref x1, .long 0], aJ G x1 16 (rkF 0), ob q2 4 [.null, .long 0]]) rfl ?_
  refine pv_dup X d_C_init_19 rfl ?_
  refine pv_callv X (Cut.mk (w0 := [ob q2 4 [.null, .long 0]]) (wr := [ob zc 3 [.ref q1, .null], ob q1 4 [.ref x1, .long 0], aJ G x1 16 (rkF 0)]) [3] [0, 1, 2] rfl rfl rfl rfl rfl) (rn_IN X (c_D_init l G q2) trivial mf_D_init hN_105 m_63 rfl rfl (by decide) (by decide) rfl (Nat.le_of_ble_eq_true rfl) d_C_init_20) (fun x2 e2 => ?_)
  refine pv_eqw (ws2 := [ob zc 3 [.ref q1, .null], ob q1 4 [.ref x1, .long 0], aJ G x1 16 (rkF 0), ob q2 4 [.ref x2, .long 0], aJ G x2 16 (rkF 0)]) rfl ?_
  refine pv_putF X hini (ty := .object "PinModule$Des") (ws2 := [ob zc 3 [.ref q1, .ref q2], ob q1 4 [.ref x1, .long 0], aJ G x1 16 (rkF 0), ob q2 4 [.ref x2, .long 0], aJ G x2 16 (rkF 0)]) 0 1 ty_C ty_C_ok n_C u_C_in m_108 rfl rfl (by decide) ⟨rfl, rfl, rfl⟩ rfl rfl (by decide +kernel) rfl rfl (Nat.le_of_ble_eq_true rfl) rfl d_C_init_23 ?_
  refine pv_ord (ws2 := [ob zc 3 [.ref q1, .ref q2], ob q1 4 [.ref x1, .long 0], aJ G x1 16 (rkF 0), ob q2 4 [.ref x2, .long 0], aJ G x2 16 (rkF 0)]) [0, 1, 2, 3, 4] rfl rfl ?_
  exact pv_vret X hr hlk (q1, x1, q2, x2) trivial rfl d_C_init_26
abbrev rm_C_take : Room := { frames := 2, cells := 0, slots := 0, locals := 55 }
theorem mf_C_take : MF y_C_take b_C_take 5 none 2 := ⟨m_170, m_5, by decide, by decide, by decide +kernel⟩
theorem d_C_take_0 : decode b_C_take 0 = .ok (.aload_n 0, 1) := by decide +kernel
theorem d_C_take_1 : decode b_C_take 1 = .ok (.getfield 10, 3) := by decide +kernel
theorem d_C_take_4 : decode b_C_take 4 = .ok (.lload_n 1, 1) := by decide +kernel
theorem d_C_take_5 : decode b_C_take 5 = .ok (.invokevirtual 19, 3) := by decide +kernel
theorem d_C_take_8 : decode b_C_take 8 = .ok (.aload_n 0, 1) := by decide +kernel
theorem d_C_take_9 : decode b_C_take 9 = .ok (.getfield 16, 3) := by decide +kernel
theorem d_C_take_12 : decode b_C_take 12 = .ok (.lload_n 3, 1) := by decide +kernel
theorem d_C_take_13 : decode b_C_take 13 = .ok (.invokevirtual 19, 3) := by decide +kernel
theorem d_C_take_16 : decode b_C_take 16 = .ok (.return_, 1) := by decide +kernel
set_option maxRecDepth 100000 in
set_option maxHeartbeats 4000000 in
theorem c_C_take (l : Launch) (G : Gt) (zc zcl zclq zcr zcrq : Nat) (kl kr a b : Int64) : CtV l G y_C_take b_C_take 5 none rm_C_take Sx [.ref zc, .long a, .long b] [ob zc 3 [.ref zcl, .ref zcr], ob zcl 4 [.ref zclq, .long kl], aJ G zclq 16 (rkF kl), ob zcr 4 [.ref zcrq, .long kr], aJ G zcrq 16 (rkF kr)] (fun (_ : Unit) => True) (fun _ => [ob zc 3 [.ref zcl, .ref zcr], ob zcl 4 [.ref zclq, .long a], aJ G zclq 16 (rkF a), ob zcr 4 [.ref zcrq, .long b], aJ G zcrq 16 (rkF b)]) 0 0 := by
  refine Ct.of (Qp := fun A => va_Qv _ (qB G A _) A) Sx_stb (by decide) (Nat.le_of_ble_eq_true rfl) ?_
  intro p e s m args below meth c A X hE hr hlk hini
  refine pv_eql (ll2 := [(0, .ref zc), (1, .long a), (3, .long b)]) rfl ?_
  refine pv_aload_n X 0 d_C_take_0 rfl ?_
  refine pv_get X 0 0 u_C_in m_106 rfl rfl (by decide) ⟨rfl, rfl, rfl⟩ rfl d_C_take_1 ?_
  refine pv_lload_n X 1 d_C_take_4 rfl ?_
  refine pv_callv X (Cut.mk (w0 := [ob zcl 4 [.ref zclq, .long kl], aJ G zclq 16 (rkF kl)]) (wr := [ob zc 3 [.ref zcl, .ref zcr], ob zcr 4 [.ref zcrq, .long kr], aJ G zcrq 16 (rkF kr)]) [1, 2] [0, 3, 4] rfl rfl rfl rfl rfl) (rn_V X (c_D_take l G zcl zclq kl a) hE mf_D_take m_171 m_172 m_173 rfl 0 rfl rfl rfl (by decide) (by decide) rfl (Nat.le_of_ble_eq_true rfl) d_C_take_5) (fun x1 e1 => ?_)
  refine pv_ord (ws2 := [ob zc 3 [.ref zcl, .ref zcr], ob zcl 4 [.ref zclq, .long a], aJ G zclq 16 (rkF a), ob zcr 4 [.ref zcrq, .long kr], aJ G zcrq 16 (rkF kr)]) [0, 3, 4, 1, 2] rfl rfl ?_
  refine pv_aload_n X 0 d_C_take_8 rfl ?_
  refine pv_get X 0 1 u_C_in m_108 rfl rfl (by decide) ⟨rfl, rfl, rfl⟩ rfl d_C_take_9 ?_
  refine pv_lload_n X 2 d_C_take_12 rfl ?_
  refine pv_callv X (Cut.mk (w0 := [ob zcr 4 [.ref zcrq, .long kr], aJ G zcrq 16 (rkF kr)]) (wr := [ob zc 3 [.ref zcl, .ref zcr], ob zcl 4 [.ref zclq, .long a], aJ G zclq 16 (rkF a)]) [3, 4] [0, 1, 2] rfl rfl rfl rfl rfl) (rn_V X (c_D_take l G zcr zcrq kr b) hE mf_D_take m_171 m_172 m_173 rfl 0 rfl rfl rfl (by decide) (by decide) rfl (Nat.le_of_ble_eq_true rfl) d_C_take_13) (fun x2 e2 => ?_)
  refine pv_eqw (ws2 := [ob zc 3 [.ref zcl, .ref zcr], ob zcl 4 [.ref zclq, .long a], aJ G zclq 16 (rkF a), ob zcr 4 [.ref zcrq, .long b], aJ G zcrq 16 (rkF b)]) rfl ?_
  exact pv_vret X hr hlk () trivial rfl d_C_take_16
def sealB (l r b : Int64) : Int64 := enc l (dec r (enc l b))
def openB (l r b : Int64) : Int64 := dec l (enc r (dec l b))
def chkV (l r : Int64) : Int32 := ((sealB l r 0).toUInt64 >>> ((40 : Int32).toInt64.toUInt64 &&& Int64.toUInt64 63)).toInt64.toInt32
abbrev rm_C_sealBlock : Room := { frames := 3, cells := 0, slots := 0, locals := 78 }
theorem mf_C_sealBlock : MF y_C_sealBlock b_C_sealBlock 3 (some .long) 1 := ⟨m_195, m_5, by decide, by decide, by decide +kernel⟩
theorem d_C_sealBlock_0 : decode b_C_sealBlock 0 = .ok (.aload_n 0, 1) := by decide +kernel
theorem d_C_sealBlock_1 : decode b_C_sealBlock 1 = .ok (.getfield 10, 3) := by decide +kernel
theorem d_C_sealBlock_4 : decode b_C_sealBlock 4 = .ok (.aload_n 0, 1) := by decide +kernel
theorem d_C_sealBlock_5 : decode b_C_sealBlock 5 = .ok (.getfield 16, 3) := by decide +kernel
theorem d_C_sealBlock_8 : decode b_C_sealBlock 8 = .ok (.aload_n 0, 1) := by decide +kernel
theorem d_C_sealBlock_9 : decode b_C_sealBlock 9 = .ok (.getfield 10, 3) := by decide +kernel
theorem d_C_sealBlock_12 : decode b_C_sealBlock 12 = .ok (.lload_n 1, 1) := by decide +kernel
theorem d_C_sealBlock_13 : decode b_C_sealBlock 13 = .ok (.invokevirtual 23, 3) := by decide +kernel
theorem d_C_sealBlock_16 : decode b_C_sealBlock 16 = .ok (.invokevirtual 27, 3) := by decide +kernel
theorem d_C_sealBlock_19 : decode b_C_sealBlock 19 = .ok (.invokevirtual 23, 3) := by decide +kernel
theorem d_C_sealBlock_22 : decode b_C_sealBlock 22 = .ok (.lreturn, 1) := by decide +kernel
set_option maxRecDepth 100000 in
set_option maxHeartbeats 4000000 in
theorem c_C_sealBlock (l : Launch) (G : Gt) (zc zcl zclq zcr zcrq : Nat) (kl kr b : Int64) : CtL l G y_C_sealBlock b_C_sealBlock 3 (some .long) rm_C_sealBlock Sx [.ref zc, .long b] [ob zc 3 [.ref zcl, .ref zcr], ob zcl 4 [.ref zclq, .long kl], aJ G zclq 16 (rkF kl), ob zcr 4 [.ref zcrq, .long kr], aJ G zcrq 16 (rkF kr)] (fun r (_ : Unit) => r = sealB kl kr b) (fun _ => [ob zc 3 [.ref zcl, .ref zcr], ob zcl 4 [.ref zclq, .long kl], aJ G zclq 16 (rkF kl), ob zcr 4 [.ref zcrq, .long kr], aJ G zcrq 16 (rkF kr)]) 0 0 := by
  refine Ct.of (Qp := fun A => va_Ql _ (qB G A _) A) Sx_stb (by decide) (Nat.le_of_ble_eq_true rfl) ?_
  intro p e s m args below meth c A X hE hr hlk hini
  refine pv_eql (ll2 := [(0, .ref zc), (1, .long b)]) rfl ?_
  refine pv_aload_n X 0 d_C_sealBlock_0 rfl ?_
  refine pv_get X 0 0 u_C_in m_106 rfl rfl (by decide) ⟨rfl, rfl, rfl⟩ rfl d_C_sealBlock_1 ?_
  refine pv_aload_n X 0 d_C_sealBlock_4 rfl ?_
  refine pv_get X 0 1 u_C_in m_108 rfl rfl (by decide) ⟨rfl, rfl, rfl⟩ rfl d_C_sealBlock_5 ?_
  refine pv_aload_n X 0 d_C_sealBlock_8 rfl ?_
  refine pv_get X 0 0 u_C_in m_106 rfl rfl (by decide) ⟨rfl, rfl, rfl⟩ rfl d_C_sealBlock_9 ?_
  refine pv_lload_n X 1 d_C_sealBlock_12 rfl ?_
  refine pv_calllE X (Cut.mk (w0 := [ob zcl 4 [.ref zclq, .long kl], aJ G zclq 16 (rkF kl)]) (wr := [ob zc 3 [.ref zcl, .ref zcr], ob zcr 4 [.ref zcrq, .long kr], aJ G zcrq 16 (rkF kr)]) [1, 2] [0, 3, 4] rfl rfl rfl rfl rfl) (rn_V X (c_D_encrypted l G zcl zclq kl b) hE mf_D_encrypted m_196 m_197 m_198 rfl 0 rfl rfl rfl (by decide) (by decide) rfl (Nat.le_of_ble_eq_true rfl) d_C_sealBlock_13) (fun x1 => ?_)
  refine pv_ord (ws2 := [ob zc 3 [.ref zcl, .ref zcr], ob zcl 4 [.ref zclq, .long kl], aJ G zclq 16 (rkF kl), ob zcr 4 [.ref zcrq, .long kr], aJ G zcrq 16 (rkF kr)]) [0, 3, 4, 1, 2] rfl rfl ?_
  refine pv_calllE X (Cut.mk (w0 := [ob zcr 4 [.ref zcrq, .long kr], aJ G zcrq 16 (rkF kr)]) (wr := [ob zc 3 [.ref zcl, .ref zcr], ob zcl 4 [.ref zclq, .long kl], aJ G zclq 16 (rkF kl)]) [3, 4] [0, 1, 2] rfl rfl rfl rfl rfl) (rn_V X (c_D_decrypted l G zcr zcrq kr (enc kl b)) hE mf_D_decrypted m_214 m_215 m_216 rfl 0 rfl rfl rfl (by decide) (by decide) rfl (Nat.le_of_ble_eq_true rfl) d_C_sealBlock_16) (fun x2 => ?_)
  refine pv_eqw (ws2 := [ob zc 3 [.ref zcl, .ref zcr], ob zcl 4 [.ref zclq, .long kl], aJ G zclq 16 (rkF kl), ob zcr 4 [.ref zcrq, .long kr], aJ G zcrq 16 (rkF kr)]) rfl ?_
  refine pv_calllE X (Cut.mk (w0 := [ob zcl 4 [.ref zclq, .long kl], aJ G zclq 16 (rkF kl)]) (wr := [ob zc 3 [.ref zcl, .ref zcr], ob zcr 4 [.ref zcrq, .long kr], aJ G zcrq 16 (rkF kr)]) [1, 2] [0, 3, 4] rfl rfl rfl rfl rfl) (rn_V X (c_D_encrypted l G zcl zclq kl (dec kr (enc kl b))) hE mf_D_encrypted m_196 m_197 m_198 rfl 0 rfl rfl rfl (by decide) (by decide) rfl (Nat.le_of_ble_eq_true rfl) d_C_sealBlock_19) (fun x3 => ?_)
  refine pv_ord (ws2 := [ob zc 3 [.ref zcl, .ref zcr], ob zcl 4 [.ref zclq, .long kl], aJ G zclq 16 (rkF kl), ob zcr 4 [.ref zcrq, .long kr], aJ G zcrq 16 (rkF kr)]) [0, 3, 4, 1, 2] rfl rfl ?_
  exact pv_lret X hr hlk () rfl rfl d_C_sealBlock_22
abbrev rm_C_openBlock : Room := { frames := 3, cells := 0, slots := 0, locals := 78 }
theorem mf_C_openBlock : MF y_C_openBlock b_C_openBlock 3 (some .long) 1 := ⟨m_272, m_5, by decide, by decide, by decide +kernel⟩
theorem d_C_openBlock_0 : decode b_C_openBlock 0 = .ok (.aload_n 0, 1) := by decide +kernel
theorem d_C_openBlock_1 : decode b_C_openBlock 1 = .ok (.getfield 10, 3) := by decide +kernel
theorem d_C_openBlock_4 : decode b_C_openBlock 4 = .ok (.aload_n 0, 1) := by decide +kernel
theorem d_C_openBlock_5 : decode b_C_openBlock 5 = .ok (.getfield 16, 3) := by decide +kernel
theorem d_C_openBlock_8 : decode b_C_openBlock 8 = .ok (.aload_n 0, 1) := by decide +kernel
theorem d_C_openBlock_9 : decode b_C_openBlock 9 = .ok (.getfield 10, 3) := by decide +kernel
theorem d_C_openBlock_12 : decode b_C_openBlock 12 = .ok (.lload_n 1, 1) := by decide +kernel
theorem d_C_openBlock_13 : decode b_C_openBlock 13 = .ok (.invokevirtual 27, 3) := by decide +kernel
theorem d_C_openBlock_16 : decode b_C_openBlock 16 = .ok (.invokevirtual 23, 3) := by decide +kernel
theorem d_C_openBlock_19 : decode b_C_openBlock 19 = .ok (.invokevirtual 27, 3) := by decide +kernel
theorem d_C_openBlock_22 : decode b_C_openBlock 22 = .ok (.lreturn, 1) := by decide +kernel
set_option maxRecDepth 100000 in
set_option maxHeartbeats 4000000 in
theorem c_C_openBlock (l : Launch) (G : Gt) (zc zcl zclq zcr zcrq : Nat) (kl kr b : Int64) : CtL l G y_C_openBlock b_C_openBlock 3 (some .long) rm_C_openBlock Sx [.ref zc, .long b] [ob zc 3 [.ref zcl, .ref zcr], ob zcl 4 [.ref zclq, .long kl], aJ G zclq 16 (rkF kl), ob zcr 4 [.ref zcrq, .long kr], aJ G zcrq 16 (rkF kr)] (fun r (_ : Unit) => r = openB kl kr b) (fun _ => [ob zc 3 [.ref zcl, .ref zcr], ob zcl 4 [.ref zclq, .long kl], aJ G zclq 16 (rkF kl), ob zcr 4 [.ref zcrq, .long kr], aJ G zcrq 16 (rkF kr)]) 0 0 := by
  refine Ct.of (Qp := fun A => va_Ql _ (qB G A _) A) Sx_stb (by decide) (Nat.le_of_ble_eq_true rfl) ?_
  intro p e s m args below meth c A X hE hr hlk hini
  refine pv_eql (ll2 := [(0, .ref zc), (1, .long b)]) rfl ?_
  refine pv_aload_n X 0 d_C_openBlock_0 rfl ?_
  refine pv_get X 0 0 u_C_in m_106 rfl rfl (by decide) ⟨rfl, rfl, rfl⟩ rfl d_C_openBlock_1 ?_
  refine pv_aload_n X 0 d_C_openBlock_4 rfl ?_
  refine pv_get X 0 1 u_C_in m_108 rfl rfl (by decide) ⟨rfl, rfl, rfl⟩ rfl d_C_openBlock_5 ?_
  refine pv_aload_n X 0 d_C_openBlock_8 rfl ?_
  refine pv_get X 0 0 u_C_in m_106 rfl rfl (by decide) ⟨rfl, rfl, rfl⟩ rfl d_C_openBlock_9 ?_
  refine pv_lload_n X 1 d_C_openBlock_12 rfl ?_
  refine pv_calllE X (Cut.mk (w0 := [ob zcl 4 [.ref zclq, .long kl], aJ G zclq 16 (rkF kl)]) (wr := [ob zc 3 [.ref zcl, .ref zcr], ob zcr 4 [.ref zcrq, .long kr], aJ G zcrq 16 (rkF kr)]) [1, 2] [0, 3, 4] rfl rfl rfl rfl rfl) (rn_V X (c_D_decrypted l G zcl zclq kl b) hE mf_D_decrypted m_214 m_215 m_216 rfl 0 rfl rfl rfl (by decide) (by decide) rfl (Nat.le_of_ble_eq_true rfl) d_C_openBlock_13) (fun x1 => ?_)
  refine pv_ord (ws2 := [ob zc 3 [.ref zcl, .ref zcr], ob zcl 4 [.ref zclq, .long kl], aJ G zclq 16 (rkF kl), ob zcr 4 [.ref zcrq, .long kr], aJ G zcrq 16 (rkF kr)]) [0, 3, 4, 1, 2] rfl rfl ?_
  refine pv_calllE X (Cut.mk (w0 := [ob zcr 4 [.ref zcrq, .long kr], aJ G zcrq 16 (rkF kr)]) (wr := [ob zc 3 [.ref zcl, .ref zcr], ob zcl 4 [.ref zclq, .long kl], aJ G zclq 16 (rkF kl)]) [3, 4] [0, 1, 2] rfl rfl rfl rfl rfl) (rn_V X (c_D_encrypted l G zcr zcrq kr (dec kl b)) hE mf_D_encrypted m_196 m_197 m_198 rfl 0 rfl rfl rfl (by decide) (by decide) rfl (Nat.le_of_ble_eq_true rfl) d_C_openBlock_16) (fun x2 => ?_)
  refine pv_eqw (ws2 := [ob zc 3 [.ref zcl, .ref zcr], ob zcl 4 [.ref zclq, .long kl], aJ G zclq 16 (rkF kl), ob zcr 4 [.ref zcrq, .long kr], aJ G zcrq 16 (rkF kr)]) rfl ?_
  refine pv_calllE X (Cut.mk (w0 := [ob zcl 4 [.ref zclq, .long kl], aJ G zclq 16 (rkF kl)]) (wr := [ob zc 3 [.ref zcl, .ref zcr], ob zcr 4 [.ref zcrq, .long kr], aJ G zcrq 16 (rkF kr)]) [1, 2] [0, 3, 4] rfl rfl rfl rfl rfl) (rn_V X (c_D_decrypted l G zcl zclq kl (enc kr (dec kl b))) hE mf_D_decrypted m_214 m_215 m_216 rfl 0 rfl rfl rfl (by decide) (by decide) rfl (Nat.le_of_ble_eq_true rfl) d_C_openBlock_19) (fun x3 => ?_)
  refine pv_ord (ws2 := [ob zc 3 [.ref zcl, .ref zcr], ob zcl 4 [.ref zclq, .long kl], aJ G zclq 16 (rkF kl), ob zcr 4 [.ref zcrq, .long kr], aJ G zcrq 16 (rkF kr)]) [0, 3, 4, 1, 2] rfl rfl ?_
  exact pv_lret X hr hlk () rfl rfl d_C_openBlock_22
abbrev rm_C_checkValue : Room := { frames := 4, cells := 0, slots := 0, locals := 100 }
theorem mf_C_checkValue : MF y_C_checkValue b_C_checkValue 1 (some .int) 0 := ⟨m_191, m_5, by decide, by decide, by decide +kernel⟩
theorem d_C_checkValue_0 : decode b_C_checkValue 0 = .ok (.aload_n 0, 1) := by decide +kernel
theorem d_C_checkValue_1 : decode b_C_checkValue 1 = .ok (.lconst 0, 1) := by decide +kernel
theorem d_C_checkValue_2 : decode b_C_checkValue 2 = .ok (.invokevirtual 30, 3) := by decide +kernel
theorem d_C_checkValue_5 : decode b_C_checkValue 5 = .ok (.bipush 40, 2) := by decide +kernel
theorem d_C_checkValue_7 : decode b_C_checkValue 7 = .ok (.lushr, 1) := by decide +kernel
theorem d_C_checkValue_8 : decode b_C_checkValue 8 = .ok (.l2i, 1) := by decide +kernel
theorem d_C_checkValue_9 : decode b_C_checkValue 9 = .ok (.ireturn, 1) := by decide +kernel
set_option maxRecDepth 100000 in
set_option maxHeartbeats 4000000 in
theorem c_C_checkValue (l : Launch) (G : Gt) (zc zcl zclq zcr zcrq : Nat) (kl kr : Int64) : CtI l G y_C_checkValue b_C_checkValue 1 (some .int) rm_C_checkValue Sx [.ref zc] [ob zc 3 [.ref zcl, .ref zcr], ob zcl 4 [.ref zclq, .long kl], aJ G zclq 16 (rkF kl), ob zcr 4 [.ref zcrq, .long kr], aJ G zcrq 16 (rkF kr)] (fun r (_ : Unit) => r = chkV kl kr) (fun _ => [ob zc 3 [.ref zcl, .ref zcr], ob zcl 4 [.ref zclq, .long kl], aJ G zclq 16 (rkF kl), ob zcr 4 [.ref zcrq, .long kr], aJ G zcrq 16 (rkF kr)]) 0 0 := by
  refine Ct.of (Qp := fun A => va_Qi _ (qB G A _) A) Sx_stb (by decide) (Nat.le_of_ble_eq_true rfl) ?_
  intro p e s m args below meth c A X hE hr hlk hini
  refine pv_eql (ll2 := [(0, .ref zc)]) rfl ?_
  refine pv_aload_n X 0 d_C_checkValue_0 rfl ?_
  refine pv_lconst X 0 d_C_checkValue_1 (by decide) ?_
  refine pv_calllE X (Cut.all _) (rn_V X (c_C_sealBlock l G zc zcl zclq zcr zcrq kl kr (0 : Int64)) hE mf_C_sealBlock m_192 m_193 m_194 rfl 0 rfl rfl rfl (by decide) (by decide) rfl (Nat.le_of_ble_eq_true rfl) d_C_checkValue_2) (fun x1 => ?_)
  refine pv_eqw (ws2 := [ob zc 3 [.ref zcl, .ref zcr], ob zcl 4 [.ref zclq, .long kl], aJ G zclq 16 (rkF kl), ob zcr 4 [.ref zcrq, .long kr], aJ G zcrq 16 (rkF kr)]) rfl ?_
  refine pv_bipush X 40 d_C_checkValue_5 (by decide) ?_
  refine pv_lushr X d_C_checkValue_7 ?_
  refine pv_l2i X d_C_checkValue_8 ?_
  exact pv_iret X hr hlk () rfl rfl d_C_checkValue_9
