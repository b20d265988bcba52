def mth (n k : Nat) : Int32 := if 8 ≤ nI n - 8 * nI k then 8 else nI n - 8 * nI k
def mpv (g : Nat → Int64) (n k : Nat) : Int64 := if mth n k = 0 then 0 else ((g k).toUInt64 >>> ((64 - 8 * mth n k).toInt64.toUInt64 &&& Int64.toUInt64 63)).toInt64 <<< ((64 - 8 * mth n k).toInt64 &&& 63)
def mpw (g : Nat → Int64) (n k : Nat) : Int64 := if 8 ≤ mth n k then mpv g n k else mpv g n k ||| ((128 : Int64) <<< ((56 - 8 * mth n k).toInt64 &&& 63))
def mcd (a : Int64) (g : Nat → Int64) (n : Nat) : Nat → Int64
  | 0 => 0
  | i + 1 => menc a (mpw g n i ^^^ mcd a g n i)
def mcn (a : Int64) (f : Nat → Int64) : Nat → Nat → Int64
  | 0 => f
  | i + 1 => rnd a (mcn a f i) 16
theorem mth_in {n k : Nat} (hk : k < n / 8 + 1) (hn : n ≤ 64) (h : ¬ mth n k = 0) : vp_in (nI k) 8 := by
  refine vp_in_nI ?_ (by decide)
  rcases Nat.lt_or_ge k 8 with q | q
  · exact q
  · have e1 : k = 8 := by omega
    have e2 : n = 64 := by omega
    subst e1; subst e2
    exact absurd (by decide) h
def f_M_code (ys : Int32) (yu : Nat → Int32) (k n : Int32) : Int32 := if ys = 0 then -1 else if f_M_isSlot k = 0 then -2 else if f_M_in n.toInt64 0 64 = 0 then -2 else if (0 : Int32) ≤ yu k.toNatClampNeg then (if yu k.toNatClampNeg = 1 then 0 else -4) else -3
def g_M_code_zmf (ys : Int32) (yu : Nat → Int32) (ya yb yf yg : Nat → Int64) (k n : Int32) : Nat → Int64 := if f_M_code ys yu k n = 0 then vp_updL yf 0 (menc (ya k.toNatClampNeg) (mdec (yb k.toNatClampNeg) (mcd (ya k.toNatClampNeg) yg n.toNatClampNeg (n.toNatClampNeg / 8 + 1)))) else yf
abbrev rm_M_code : Room := { frames := 3, cells := 0, slots := 0, locals := 90 }
theorem mf_M_code : MF y_M_code b_M_code 9 (some .int) 2 := ⟨m_859, m_6, by decide, by decide, by decide +kernel⟩
theorem d_M_code_0 : decode b_M_code 0 = .ok (.aload_n 0, 1) := by decide +kernel
theorem d_M_code_1 : decode b_M_code 1 = .ok (.iconst 0, 1) := by decide +kernel
theorem d_M_code_2 : decode b_M_code 2 = .ok (.putfield 66, 3) := by decide +kernel
theorem d_M_code_5 : decode b_M_code 5 = .ok (.aload_n 0, 1) := by decide +kernel
theorem d_M_code_6 : decode b_M_code 6 = .ok (.getfield 108, 3) := by decide +kernel
theorem d_M_code_9 : decode b_M_code 9 = .ok (.ifCond .ne 5, 3) := by decide +kernel
theorem d_M_code_12 : decode b_M_code 12 = .ok (.iconst (-1), 1) := by decide +kernel
theorem d_M_code_13 : decode b_M_code 13 = .ok (.ireturn, 1) := by decide +kernel
theorem d_M_code_14 : decode b_M_code 14 = .ok (.iload_n 1, 1) := by decide +kernel
theorem d_M_code_15 : decode b_M_code 15 = .ok (.invokestatic 137, 3) := by decide +kernel
theorem d_M_code_18 : decode b_M_code 18 = .ok (.ifCond .eq 15, 3) := by decide +kernel
theorem d_M_code_21 : decode b_M_code 21 = .ok (.iload_n 2, 1) := by decide +kernel
theorem d_M_code_22 : decode b_M_code 22 = .ok (.i2l, 1) := by decide +kernel
theorem d_M_code_23 : decode b_M_code 23 = .ok (.lconst 0, 1) := by decide +kernel
theorem d_M_code_24 : decode b_M_code 24 = .ok (.ldc2_w 258, 3) := by decide +kernel
theorem d_M_code_27 : decode b_M_code 27 = .ok (.invokestatic 104, 3) := by decide +kernel
theorem d_M_code_30 : decode b_M_code 30 = .ok (.ifCond .ne 6, 3) := by decide +kernel
theorem d_M_code_33 : decode b_M_code 33 = .ok (.bipush (-2), 2) := by decide +kernel
theorem d_M_code_35 : decode b_M_code 35 = .ok (.ireturn, 1) := by decide +kernel
theorem d_M_code_36 : decode b_M_code 36 = .ok (.aload_n 0, 1) := by decide +kernel
theorem d_M_code_37 : decode b_M_code 37 = .ok (.getfield 30, 3) := by decide +kernel
theorem d_M_code_40 : decode b_M_code 40 = .ok (.iload_n 1, 1) := by decide +kernel
theorem d_M_code_41 : decode b_M_code 41 = .ok (.iaload, 1) := by decide +kernel
theorem d_M_code_42 : decode b_M_code 42 = .ok (.ifCond .ge 6, 3) := by decide +kernel
theorem d_M_code_45 : decode b_M_code 45 = .ok (.bipush (-3), 2) := by decide +kernel
theorem d_M_code_47 : decode b_M_code 47 = .ok (.ireturn, 1) := by decide +kernel
theorem d_M_code_48 : decode b_M_code 48 = .ok (.aload_n 0, 1) := by decide +kernel
theorem d_M_code_49 : decode b_M_code 49 = .ok (.getfield 30, 3) := by decide +kernel
theorem d_M_code_52 : decode b_M_code 52 = .ok (.iload_n 1, 1) := by decide +kernel
theorem d_M_code_53 : decode b_M_code 53 = .ok (.iaload, 1) := by decide +kernel
theorem d_M_code_54 : decode b_M_code 54 = .ok (.iconst 1, 1) := by decide +kernel
theorem d_M_code_55 : decode b_M_code 55 = .ok (.if_icmp .eq 6, 3) := by decide +kernel
theorem d_M_code_58 : decode b_M_code 58 = .ok (.bipush (-4), 2) := by decide +kernel
theorem d_M_code_60 : decode b_M_code 60 = .ok (.ireturn, 1) := by decide +kernel
theorem d_M_code_61 : decode b_M_code 61 = .ok (.lconst 0, 1) := by decide +kernel
theorem d_M_code_62 : decode b_M_code 62 = .ok (.lstore_n 3, 1) := by decide +kernel
theorem d_M_code_63 : decode b_M_code 63 = .ok (.iconst 0, 1) := by decide +kernel
theorem d_M_code_64 : decode b_M_code 64 = .ok (.istore 5, 2) := by decide +kernel
theorem d_M_code_66 : decode b_M_code 66 = .ok (.iload 5, 2) := by decide +kernel
theorem d_M_code_68 : decode b_M_code 68 = .ok (.iload_n 2, 1) := by decide +kernel
theorem d_M_code_69 : decode b_M_code 69 = .ok (.bipush 8, 2) := by decide +kernel
theorem d_M_code_71 : decode b_M_code 71 = .ok (.idiv, 1) := by decide +kernel
theorem d_M_code_72 : decode b_M_code 72 = .ok (.if_icmp .gt 116, 3) := by decide +kernel
theorem d_M_code_75 : decode b_M_code 75 = .ok (.iload_n 2, 1) := by decide +kernel
theorem d_M_code_76 : decode b_M_code 76 = .ok (.bipush 8, 2) := by decide +kernel
theorem d_M_code_78 : decode b_M_code 78 = .ok (.iload 5, 2) := by decide +kernel
theorem d_M_code_80 : decode b_M_code 80 = .ok (.imul, 1) := by decide +kernel
theorem d_M_code_81 : decode b_M_code 81 = .ok (.isub, 1) := by decide +kernel
theorem d_M_code_82 : decode b_M_code 82 = .ok (.bipush 8, 2) := by decide +kernel
theorem d_M_code_84 : decode b_M_code 84 = .ok (.if_icmp .ge 13, 3) := by decide +kernel
theorem d_M_code_87 : decode b_M_code 87 = .ok (.iload_n 2, 1) := by decide +kernel
theorem d_M_code_88 : decode b_M_code 88 = .ok (.bipush 8, 2) := by decide +kernel
theorem d_M_code_90 : decode b_M_code 90 = .ok (.iload 5, 2) := by decide +kernel
theorem d_M_code_92 : decode b_M_code 92 = .ok (.imul, 1) := by decide +kernel
theorem d_M_code_93 : decode b_M_code 93 = .ok (.isub, 1) := by decide +kernel
theorem d_M_code_94 : decode b_M_code 94 = .ok (.goto 5, 3) := by decide +kernel
theorem d_M_code_97 : decode b_M_code 97 = .ok (.bipush 8, 2) := by decide +kernel
theorem d_M_code_99 : decode b_M_code 99 = .ok (.istore 6, 2) := by decide +kernel
theorem d_M_code_101 : decode b_M_code 101 = .ok (.iload 6, 2) := by decide +kernel
theorem d_M_code_103 : decode b_M_code 103 = .ok (.ifCond .ne 7, 3) := by decide +kernel
theorem d_M_code_106 : decode b_M_code 106 = .ok (.lconst 0, 1) := by decide +kernel
theorem d_M_code_107 : decode b_M_code 107 = .ok (.goto 28, 3) := by decide +kernel
theorem d_M_code_110 : decode b_M_code 110 = .ok (.aload_n 0, 1) := by decide +kernel
theorem d_M_code_111 : decode b_M_code 111 = .ok (.getfield 60, 3) := by decide +kernel
theorem d_M_code_114 : decode b_M_code 114 = .ok (.iload 5, 2) := by decide +kernel
theorem d_M_code_116 : decode b_M_code 116 = .ok (.laload, 1) := by decide +kernel
theorem d_M_code_117 : decode b_M_code 117 = .ok (.bipush 64, 2) := by decide +kernel
theorem d_M_code_119 : decode b_M_code 119 = .ok (.bipush 8, 2) := by decide +kernel
theorem d_M_code_121 : decode b_M_code 121 = .ok (.iload 6, 2) := by decide +kernel
theorem d_M_code_123 : decode b_M_code 123 = .ok (.imul, 1) := by decide +kernel
theorem d_M_code_124 : decode b_M_code 124 = .ok (.isub, 1) := by decide +kernel
theorem d_M_code_125 : decode b_M_code 125 = .ok (.lushr, 1) := by decide +kernel
theorem d_M_code_126 : decode b_M_code 126 = .ok (.bipush 64, 2) := by decide +kernel
theorem d_M_code_128 : decode b_M_code 128 = .ok (.bipush 8, 2) := by decide +kernel
theorem d_M_code_130 : decode b_M_code 130 = .ok (.iload 6, 2) := by decide +kernel
theorem d_M_code_132 : decode b_M_code 132 = .ok (.imul, 1) := by decide +kernel
theorem d_M_code_133 : decode b_M_code 133 = .ok (.isub, 1) := by decide +kernel
theorem d_M_code_134 : decode b_M_code 134 = .ok (.lshl, 1) := by decide +kernel
theorem d_M_code_135 : decode b_M_code 135 = .ok (.lstore 7, 2) := by decide +kernel
theorem d_M_code_137 : decode b_M_code 137 = .ok (.iload 6, 2) := by decide +kernel
theorem d_M_code_139 : decode b_M_code 139 = .ok (.bipush 8, 2) := by decide +kernel
theorem d_M_code_141 : decode b_M_code 141 = .ok (.if_icmp .ge 21, 3) := by decide +kernel
theorem d_M_code_144 : decode b_M_code 144 = .ok (.lload 7, 2) := by decide +kernel
theorem d_M_code_146 : decode b_M_code 146 = .ok (.ldc2_w 183, 3) := by decide +kernel
theorem d_M_code_149 : decode b_M_code 149 = .ok (.bipush 56, 2) := by decide +kernel
theorem d_M_code_151 : decode b_M_code 151 = .ok (.bipush 8, 2) := by decide +kernel
theorem d_M_code_153 : decode b_M_code 153 = .ok (.iload 6, 2) := by decide +kernel
theorem d_M_code_155 : decode b_M_code 155 = .ok (.imul, 1) := by decide +kernel
theorem d_M_code_156 : decode b_M_code 156 = .ok (.isub, 1) := by decide +kernel
theorem d_M_code_157 : decode b_M_code 157 = .ok (.lshl, 1) := by decide +kernel
theorem d_M_code_158 : decode b_M_code 158 = .ok (.lor, 1) := by decide +kernel
theorem d_M_code_159 : decode b_M_code 159 = .ok (.goto 5, 3) := by decide +kernel
theorem d_M_code_162 : decode b_M_code 162 = .ok (.lload 7, 2) := by decide +kernel
theorem d_M_code_164 : decode b_M_code 164 = .ok (.lstore 7, 2) := by decide +kernel
theorem d_M_code_166 : decode b_M_code 166 = .ok (.aload_n 0, 1) := by decide +kernel
theorem d_M_code_167 : decode b_M_code 167 = .ok (.aload_n 0, 1) := by decide +kernel
theorem d_M_code_168 : decode b_M_code 168 = .ok (.getfield 36, 3) := by decide +kernel
theorem d_M_code_171 : decode b_M_code 171 = .ok (.iload_n 1, 1) := by decide +kernel
theorem d_M_code_172 : decode b_M_code 172 = .ok (.laload, 1) := by decide +kernel
theorem d_M_code_173 : decode b_M_code 173 = .ok (.lload 7, 2) := by decide +kernel
theorem d_M_code_175 : decode b_M_code 175 = .ok (.lload_n 3, 1) := by decide +kernel
theorem d_M_code_176 : decode b_M_code 176 = .ok (.lxor, 1) := by decide +kernel
theorem d_M_code_177 : decode b_M_code 177 = .ok (.iconst 0, 1) := by decide +kernel
theorem d_M_code_178 : decode b_M_code 178 = .ok (.invokevirtual 90, 3) := by decide +kernel
theorem d_M_code_181 : decode b_M_code 181 = .ok (.lstore_n 3, 1) := by decide +kernel
theorem d_M_code_182 : decode b_M_code 182 = .ok (.iinc 5 1, 3) := by decide +kernel
theorem d_M_code_185 : decode b_M_code 185 = .ok (.goto (-119), 3) := by decide +kernel
theorem d_M_code_188 : decode b_M_code 188 = .ok (.aload_n 0, 1) := by decide +kernel
theorem d_M_code_189 : decode b_M_code 189 = .ok (.getfield 57, 3) := by decide +kernel
theorem d_M_code_192 : decode b_M_code 192 = .ok (.iconst 0, 1) := by decide +kernel
theorem d_M_code_193 : decode b_M_code 193 = .ok (.aload_n 0, 1) := by decide +kernel
theorem d_M_code_194 : decode b_M_code 194 = .ok (.aload_n 0, 1) := by decide +kernel
theorem d_M_code_195 : decode b_M_code 195 = .ok (.getfield 36, 3) := by decide +kernel
theorem d_M_code_198 : decode b_M_code 198 = .ok (.iload_n 1, 1) := by decide +kernel
theorem d_M_code_199 : decode b_M_code 199 = .ok (.laload, 1) := by decide +kernel
theorem d_M_code_200 : decode b_M_code 200 = .ok (.aload_n 0, 1) := by decide +kernel
theorem d_M_code_201 : decode b_M_code 201 = .ok (.aload_n 0, 1) := by decide +kernel
theorem d_M_code_202 : decode b_M_code 202 = .ok (.getfield 39, 3) := by decide +kernel
theorem d_M_code_205 : decode b_M_code 205 = .ok (.iload_n 1, 1) := by decide +kernel
theorem d_M_code_206 : decode b_M_code 206 = .ok (.laload, 1) := by decide +kernel
theorem d_M_code_207 : decode b_M_code 207 = .ok (.lload_n 3, 1) := by decide +kernel
theorem d_M_code_208 : decode b_M_code 208 = .ok (.iconst 1, 1) := by decide +kernel
theorem d_M_code_209 : decode b_M_code 209 = .ok (.invokevirtual 90, 3) := by decide +kernel
theorem d_M_code_212 : decode b_M_code 212 = .ok (.iconst 0, 1) := by decide +kernel
theorem d_M_code_213 : decode b_M_code 213 = .ok (.invokevirtual 90, 3) := by decide +kernel
theorem d_M_code_216 : decode b_M_code 216 = .ok (.lastore, 1) := by decide +kernel
theorem d_M_code_217 : decode b_M_code 217 = .ok (.iconst 0, 1) := by decide +kernel
theorem d_M_code_218 : decode b_M_code 218 = .ok (.ireturn, 1) := by decide +kernel
set_option maxRecDepth 100000 in
set_option maxHeartbeats 4000000 in
theorem c_M_code (l : Launch) (G : Gt) (zm zmp zm1 zm2 zmx zmh zmt zmu zme zma zmb zmk zmc zmd zmi zmo zmf zmg zmn : Nat) (th ys : Int32) (yl yr : Int64) (yv : Nat → Int64) (yt yu ye : Nat → Int32) (ya yb : Nat → Int64) (yk : Nat → Int32) (yc yd yi : Nat → Int64) (yo : Nat → Int32) (yf yg yn : Nat → Int64) (yp yq : Int64) (yw : Int32) (yx : Int64) (k n : Int32) : CtI l G y_M_code b_M_code 9 (some .int) rm_M_code E0 [.ref zm, .int k, .int n] [ob zm 5 [.ref zmp, .ref zm1, .ref zm2, .ref zmx, .int th, .ref zmh, .ref zmt, .int ys, .long yl, .long yr, .ref zmu, .ref zme, .ref zma, .ref zmb, .ref zmk, .ref zmc, .ref zmd, .ref zmi, .ref zmo, .ref zmf, .ref zmg, .ref zmn, .long yp, .long yq, .int yw, .long yx], aI G zmp 32 tb_perm, aI G zm1 56 tb_c1, aI G zm2 48 tb_c2, aI G zmx 512 tb_box, aJ G zmh 6 yv, aZ G zmt 6 yt, aI G zmu 16 yu, aZ G zme 16 ye, aJ G zma 16 ya, aJ G zmb 16 yb, aZ G zmk 8 yk, aJ G zmc 8 yc, aJ G zmd 8 yd, aJ G zmi 8 yi, aI G zmo 8 yo, aJ G zmf 5 yf, aJ G zmg 8 yg, aJ G zmn 16 yn] (fun r (_ : Nat → Int64) => r = f_M_code ys yu k n) (fun x => [ob zm 5 [.ref zmp, .ref zm1, .ref zm2, .ref zmx, .int 0, .ref zmh, .ref zmt, .int ys, .long yl, .long yr, .ref zmu, .ref zme, .ref zma, .ref zmb, .ref zmk, .ref zmc, .ref zmd, .ref zmi, .ref zmo, .ref zmf, .ref zmg, .ref zmn, .long yp, .long yq, .int yw, .long yx], aI G zmp 32 tb_perm, aI G zm1 56 tb_c1, aI G zm2 48 tb_c2, aI G zmx 512 tb_box, aJ G zmh 6 yv, aZ G zmt 6 yt, aI G zmu 16 yu, aZ G zme 16 ye, aJ G zma 16 ya, aJ G zmb 16 yb, aZ G zmk 8 yk, aJ G zmc 8 yc, aJ G zmd 8 yd, aJ G zmi 8 yi, aI G zmo 8 yo, aJ G zmf 5 (g_M_code_zmf ys yu ya yb yf yg k n), aJ G zmg 8 yg, aJ G zmn 16 x]) 0 0 := by
  refine Ct.of (Qp := fun A => va_Qi _ (qB G A _) A) Stb_0 (by decide) (Nat.le_of_ble_eq_true rfl) ?_
  intro p e s m args below meth c A X hE hr hlk hini
  refine pv_eql (ll2 := [(0, .ref zm), (1, .int k), (2, .int n)]) rfl ?_
  refine pv_aload_n X 0 d_M_code_0 rfl ?_
  refine pv_iconst X 0 d_M_code_1 (by decide) ?_
  refine pv_put X (ty := .int) (ws2 := [ob zm 5 [.ref zmp, .ref zm1, .ref zm2, .ref zmx, .int 0, .ref zmh, .ref zmt, .int ys, .long yl, .long yr, .ref zmu, .ref zme, .ref zma, .ref zmb, .ref zmk, .ref zmc, .ref zmd, .ref zmi, .ref zmo, .ref zmf, .ref zmg, .ref zmn, .long yp, .long yq, .int yw, .long yx], aI G zmp 32 tb_perm, aI G zm1 56 tb_c1, aI G zm2 48 tb_c2, aI G zmx 512 tb_box, aJ G zmh 6 yv, aZ G zmt 6 yt, aI G zmu 16 yu, aZ G zme 16 ye, aJ G zma 16 ya, aJ G zmb 16 yb, aZ G zmk 8 yk, aJ G zmc 8 yc, aJ G zmd 8 yd, aJ G zmi 8 yi, aI G zmo 8 yo, aJ G zmf 5 yf, aJ G zmg 8 yg, aJ G zmn 16 yn]) 0 4 ty_M ty_M_ok n_M u_M_in m_578 rfl rfl (by decide) ⟨rfl, rfl, rfl⟩ rfl (by decide +kernel) rfl rfl (Nat.le_of_ble_eq_true rfl) rfl d_M_code_2 ?_
  refine pv_aload_n X 0 d_M_code_5 rfl ?_
  refine pv_get X 0 7 u_M_in m_581 rfl rfl (by decide) ⟨rfl, rfl, rfl⟩ rfl d_M_code_6 ?_
  refine pv_if_ne X 14 d_M_code_9 rfl (fun h1 => ?_) (fun h1n => ?_)
  · skip
    refine pv_iload_n X 1 d_M_code_14 rfl ?_
    refine pv_calli0 X (rn_S X (c_M_isSlot l G k) trivial mf_M_isSlot m_724 m_725 rfl (by decide) (by decide) rfl (Nat.le_of_ble_eq_true rfl) d_M_code_15) ?_
    refine pv_if_eq X 33 d_M_code_18 rfl (fun h3 => ?_) (fun h3n => ?_)
    · skip
      refine pv_bipush X (-2) d_M_code_33 (by decide) ?_
      exact pv_iret X hr hlk yn (by show _ = f_M_code ys yu k n; simp only [f_M_code, if_neg h1, if_pos h3]) (by rw [g_M_code_zmf, if_neg (by simp only [f_M_code, if_neg h1, if_pos h3]; decide)]) d_M_code_35
    · skip
      refine pv_iload_n X 2 d_M_code_21 rfl ?_
      refine pv_i2l X d_M_code_22 ?_
      refine pv_lconst X 0 d_M_code_23 (by decide) ?_
      refine pv_ldc2_w X m_860 d_M_code_24 ?_
      refine pv_calli0 X (rn_S X (c_M_in l G n.toInt64 (0 : Int64) (64 : Int64)) trivial mf_M_in m_662 m_663 rfl (by decide) (by decide) rfl (Nat.le_of_ble_eq_true rfl) d_M_code_27) ?_
      refine pv_if_ne X 36 d_M_code_30 rfl (fun h5 => ?_) (fun h5n => ?_)
      · skip
        refine pv_aload_n X 0 d_M_code_36 rfl ?_
        refine pv_get X 0 10 u_M_in m_584 rfl rfl (by decide) ⟨rfl, rfl, rfl⟩ rfl d_M_code_37 ?_
        refine pv_iload_n X 1 d_M_code_40 rfl ?_
        refine pv_iald X 7 rfl (Mslot_in h3n) d_M_code_41 ?_
        refine pv_if_ge X 48 d_M_code_42 rfl (fun h6 => ?_) (fun h6n => ?_)
        · skip
          refine pv_aload_n X 0 d_M_code_48 rfl ?_
          refine pv_get X 0 10 u_M_in m_584 rfl rfl (by decide) ⟨rfl, rfl, rfl⟩ rfl d_M_code_49 ?_
          refine pv_iload_n X 1 d_M_code_52 rfl ?_
          refine pv_iald X 7 rfl (Mslot_in h3n) d_M_code_53 ?_
          refine pv_iconst X 1 d_M_code_54 (by decide) ?_
          refine pv_icmp_eq X 61 d_M_code_55 rfl (fun h7 => ?_) (fun h7n => ?_)
          · skip
            refine pv_lconst X 0 d_M_code_61 (by decide) ?_
            refine pv_lstore_n (ll2 := [(3, .long (0 : Int64)), (0, .ref zm), (1, .int k), (2, .int n)]) X d_M_code_62 (by decide) rfl ?_
            refine pv_iconst X 0 d_M_code_63 (by decide) ?_
            refine pv_istore (ll2 := [(5, .int 0), (3, .long (0 : Int64)), (0, .ref zm), (1, .int k), (2, .int n)]) X d_M_code_64 (by decide) rfl ?_
            obtain ⟨n, hn, rfl⟩ := vp_in_of (Min_vp (n := 65) rfl h5) (by decide)
            refine pv_lpick (ll2 := [(5, .int (nI 0)), (3, .long (mcd (ya k.toNatClampNeg) yg n 0)), (0, .ref zm), (1, .int k), (2, .int (nI n))]) [0, 1, 2, 3, 4] rfl ?_
            refine pv_eqw (ws2 := [ob zm 5 [.ref zmp, .ref zm1, .ref zm2, .ref zmx, .int 0, .ref zmh, .ref zmt, .int ys, .long yl, .long yr, .ref zmu, .ref zme, .ref zma, .ref zmb, .ref zmk, .ref zmc, .ref zmd, .ref zmi, .ref zmo, .ref zmf, .ref zmg, .ref zmn, .long yp, .long yq, .int yw, .long yx], aI G zmp 32 tb_perm, aI G zm1 56 tb_c1, aI G zm2 48 tb_c2, aI G zmx 512 tb_box, aJ G zmh 6 yv, aZ G zmt 6 yt, aI G zmu 16 yu, aZ G zme 16 ye, aJ G zma 16 ya, aJ G zmb 16 yb, aZ G zmk 8 yk, aJ G zmc 8 yc, aJ G zmd 8 yd, aJ G zmi 8 yi, aI G zmo 8 yo, aJ G zmf 5 yf, aJ G zmg 8 yg, aJ G zmn 16 (mcn (ya k.toNatClampNeg) yn 0)]) rfl ?_
            refine pv_loop (n / 8 + 1) (fun i => True) (fun i => [ob zm 5 [.ref zmp, .ref zm1, .ref zm2, .ref zmx, .int 0, .ref zmh, .ref zmt, .int ys, .long yl, .long yr, .ref zmu, .ref zme, .ref zma, .ref zmb, .ref zmk, .ref zmc, .ref zmd, .ref zmi, .ref zmo, .ref zmf, .ref zmg, .ref zmn, .long yp, .long yq, .int yw, .long yx], aI G zmp 32 tb_perm, aI G zm1 56 tb_c1, aI G zm2 48 tb_c2, aI G zmx 512 tb_box, aJ G zmh 6 yv, aZ G zmt 6 yt, aI G zmu 16 yu, aZ G zme 16 ye, aJ G zma 16 ya, aJ G zmb 16 yb, aZ G zmk 8 yk, aJ G zmc 8 yc, aJ G zmd 8 yd, aJ G zmi 8 yi, aI G zmo 8 yo, aJ G zmf 5 yf, aJ G zmg 8 yg, aJ G zmn 16 (mcn (ya k.toNatClampNeg) yn i)]) (fun i => [(5, .int (nI i)), (3, .long (mcd (ya k.toNatClampNeg) yg n i)), (0, .ref zm), (1, .int k), (2, .int (nI n))]) 0 (by omega) trivial (fun hI_i => ?_) (fun i h_i hI_i ih_i => ?_)
            · skip
              refine pv_iload X 0 d_M_code_66 rfl ?_
              refine pv_iload_n X 4 d_M_code_68 rfl ?_
              refine pv_bipush X 8 d_M_code_69 (by decide) ?_
              refine pv_idiv X d_M_code_71 (by decide) ?_
              refine pv_topi (nI (n / 8)) (pk_div (a := n) (d := 8) (by omega) (by decide) (by decide)) ?_
              refine pv_icmp_gt X 188 d_M_code_72 rfl (fun _ => ?_) (fun h => absurd (nI_lt (by omega) (by omega)) h)
              refine pv_aload_n X 2 d_M_code_188 rfl ?_
              refine pv_get X 0 19 u_M_in m_593 rfl rfl (by decide) ⟨rfl, rfl, rfl⟩ rfl d_M_code_189 ?_
              refine pv_iconst X 0 d_M_code_192 (by decide) ?_
              refine pv_aload_n X 2 d_M_code_193 rfl ?_
              refine pv_aload_n X 2 d_M_code_194 rfl ?_
              refine pv_get X 0 12 u_M_in m_586 rfl rfl (by decide) ⟨rfl, rfl, rfl⟩ rfl d_M_code_195 ?_
              refine pv_iload_n X 3 d_M_code_198 rfl ?_
              refine pv_lald X 9 rfl (Mslot_in h3n) d_M_code_199 ?_
              refine pv_aload_n X 2 d_M_code_200 rfl ?_
              refine pv_aload_n X 2 d_M_code_201 rfl ?_
              refine pv_get X 0 13 u_M_in m_587 rfl rfl (by decide) ⟨rfl, rfl, rfl⟩ rfl d_M_code_202 ?_
              refine pv_iload_n X 3 d_M_code_205 rfl ?_
              refine pv_lald X 10 rfl (Mslot_in h3n) d_M_code_206 ?_
              refine pv_lload_n X 1 d_M_code_207 rfl ?_
              refine pv_iconst X 1 d_M_code_208 (by decide) ?_
              refine pv_calllE X (Cut.all _) (rn_V X (c_M_des1 l G zm zmp zm1 zm2 zmx zmh zmt zmu zme zma zmb zmk zmc zmd zmi zmo zmf zmg zmn 0 ys yl yr yv yt yu ye ya yb yk yc yd yi yo yf yg (mcn (ya k.toNatClampNeg) yn (n / 8 + 1)) yp yq yw yx (yb k.toNatClampNeg) (mcd (ya k.toNatClampNeg) yg n (n / 8 + 1)) ) trivial mf_M_des m_686 m_688 ms_15 rfl 0 rfl rfl rfl (by decide) (by decide) rfl (Nat.le_of_ble_eq_true rfl) d_M_code_209) (fun x8 => ?_)
              refine pv_eqw (ws2 := [ob zm 5 [.ref zmp, .ref zm1, .ref zm2, .ref zmx, .int 0, .ref zmh, .ref zmt, .int ys, .long yl, .long yr, .ref zmu, .ref zme, .ref zma, .ref zmb, .ref zmk, .ref zmc, .ref zmd, .ref zmi, .ref zmo, .ref zmf, .ref zmg, .ref zmn, .long yp, .long yq, .int yw, .long yx], aI G zmp 32 tb_perm, aI G zm1 56 tb_c1, aI G zm2 48 tb_c2, aI G zmx 512 tb_box, aJ G zmh 6 yv, aZ G zmt 6 yt, aI G zmu 16 yu, aZ G zme 16 ye, aJ G zma 16 ya, aJ G zmb 16 yb, aZ G zmk 8 yk, aJ G zmc 8 yc, aJ G zmd 8 yd, aJ G zmi 8 yi, aI G zmo 8 yo, aJ G zmf 5 yf, aJ G zmg 8 yg, aJ G zmn 16 (rnd (yb k.toNatClampNeg) (mcn (ya k.toNatClampNeg) yn (n / 8 + 1)) 16)]) rfl ?_
              refine pv_iconst X 0 d_M_code_212 (by decide) ?_
              refine pv_calllE X (Cut.all _) (rn_V X (c_M_des0 l G zm zmp zm1 zm2 zmx zmh zmt zmu zme zma zmb zmk zmc zmd zmi zmo zmf zmg zmn 0 ys yl yr yv yt yu ye ya yb yk yc yd yi yo yf yg (rnd (yb k.toNatClampNeg) (mcn (ya k.toNatClampNeg) yn (n / 8 + 1)) 16) yp yq yw yx (ya k.toNatClampNeg) (mdec (yb k.toNatClampNeg) (mcd (ya k.toNatClampNeg) yg n (n / 8 + 1))) ) trivial mf_M_des m_686 m_688 ms_15 rfl 0 rfl rfl rfl (by decide) (by decide) rfl (Nat.le_of_ble_eq_true rfl) d_M_code_213) (fun x9 => ?_)
              refine pv_eqw (ws2 := [ob zm 5 [.ref zmp, .ref zm1, .ref zm2, .ref zmx, .int 0, .ref zmh, .ref zmt, .int ys, .long yl, .long yr, .ref zmu, .ref zme, .ref zma, .ref zmb, .ref zmk, .ref zmc, .ref zmd, .ref zmi, .ref zmo, .ref zmf, .ref zmg, .ref zmn, .long yp, .long yq, .int yw, .long yx], aI G zmp 32 tb_perm, aI G zm1 56 tb_c1, aI G zm2 48 tb_c2, aI G zmx 512 tb_box, aJ G zmh 6 yv, aZ G zmt 6 yt, aI G zmu 16 yu, aZ G zme 16 ye, aJ G zma 16 ya, aJ G zmb 16 yb, aZ G zmk 8 yk, aJ G zmc 8 yc, aJ G zmd 8 yd, aJ G zmi 8 yi, aI G zmo 8 yo, aJ G zmf 5 yf, aJ G zmg 8 yg, aJ G zmn 16 (rnd (ya k.toNatClampNeg) (rnd (yb k.toNatClampNeg) (mcn (ya k.toNatClampNeg) yn (n / 8 + 1)) 16) 16)]) rfl ?_
              refine pv_last (ws2 := [ob zm 5 [.ref zmp, .ref zm1, .ref zm2, .ref zmx, .int 0, .ref zmh, .ref zmt, .int ys, .long yl, .long yr, .ref zmu, .ref zme, .ref zma, .ref zmb, .ref zmk, .ref zmc, .ref zmd, .ref zmi, .ref zmo, .ref zmf, .ref zmg, .ref zmn, .long yp, .long yq, .int yw, .long yx], aI G zmp 32 tb_perm, aI G zm1 56 tb_c1, aI G zm2 48 tb_c2, aI G zmx 512 tb_box, aJ G zmh 6 yv, aZ G zmt 6 yt, aI G zmu 16 yu, aZ G zme 16 ye, aJ G zma 16 ya, aJ G zmb 16 yb, aZ G zmk 8 yk, aJ G zmc 8 yc, aJ G zmd 8 yd, aJ G zmi 8 yi, aI G zmo 8 yo, aJ G zmf 5 (vp_updL yf 0 (menc (ya k.toNatClampNeg) (mdec (yb k.toNatClampNeg) (mcd (ya k.toNatClampNeg) yg n (n / 8 + 1))))), aJ G zmg 8 yg, aJ G zmn 16 (rnd (ya k.toNatClampNeg) (rnd (yb k.toNatClampNeg) (mcn (ya k.toNatClampNeg) yn (n / 8 + 1)) 16) 16)]) X 16 rfl (by unfold vp_in; decide) rfl d_M_code_216 ?_
              refine pv_iconst X 0 d_M_code_217 (by decide) ?_
              exact pv_iret X hr hlk (rnd (ya k.toNatClampNeg) (rnd (yb k.toNatClampNeg) (mcn (ya k.toNatClampNeg) yn (n / 8 + 1)) 16) 16) (by show _ = f_M_code ys yu k (nI n); simp only [f_M_code, if_neg h1, if_neg h3n, if_neg h5, if_pos h6, if_pos h7]) (by rw [g_M_code_zmf, if_pos (by simp only [f_M_code, if_neg h1, if_neg h3n, if_neg h5, if_pos h6, if_pos h7]), nI_clamp (by omega)]) d_M_code_218
            · skip
              refine pv_iload X 0 d_M_code_66 rfl ?_
              refine pv_iload_n X 4 d_M_code_68 rfl ?_
              refine pv_bipush X 8 d_M_code_69 (by decide) ?_
              refine pv_idiv X d_M_code_71 (by decide) ?_
              refine pv_topi (nI (n / 8)) (pk_div (a := n) (d := 8) (by omega) (by decide) (by decide)) ?_
              refine pv_icmp_gt X 188 d_M_code_72 rfl (fun h => absurd h (nI_nlt (by omega) (by omega))) (fun _ => ?_)
              refine pv_iload_n X 4 d_M_code_75 rfl ?_
              refine pv_bipush X 8 d_M_code_76 (by decide) ?_
              refine pv_iload X 0 d_M_code_78 rfl ?_
              refine pv_imul X d_M_code_80 ?_
              refine pv_isub X d_M_code_81 ?_
              refine pv_bipush X 8 d_M_code_82 (by decide) ?_
              refine pv_icmp_ge X 97 d_M_code_84 rfl (fun h10 => ?_) (fun h10n => ?_)
              · skip
                refine pv_bipush X 8 d_M_code_97 (by decide) ?_
                refine pv_topi (mth n i) (by unfold mth; rw [if_pos h10]) ?_
                refine pv_istore (ll2 := [(6, .int (mth n i)), (5, .int (nI i)), (3, .long (mcd (ya k.toNatClampNeg) yg n i)), (0, .ref zm), (1, .int k), (2, .int (nI n))]) X d_M_code_99 (by decide) rfl ?_
                refine pv_iload X 0 d_M_code_101 rfl ?_
                refine pv_if_ne X 110 d_M_code_103 rfl (fun h11 => ?_) (fun h11n => ?_)
                · skip
                  refine pv_aload_n X 3 d_M_code_110 rfl ?_
                  refine pv_get X 0 20 u_M_in m_594 rfl rfl (by decide) ⟨rfl, rfl, rfl⟩ rfl d_M_code_111 ?_
                  refine pv_iload X 1 d_M_code_114 rfl ?_
                  refine pv_lald X 17 rfl (mth_in h_i (by omega) h11) d_M_code_116 ?_
                  refine pv_topl (yg i) (congrArg yg (nI_clamp (by omega))) ?_
                  refine pv_bipush X 64 d_M_code_117 (by decide) ?_
                  refine pv_bipush X 8 d_M_code_119 (by decide) ?_
                  refine pv_iload X 0 d_M_code_121 rfl ?_
                  refine pv_imul X d_M_code_123 ?_
                  refine pv_isub X d_M_code_124 ?_
                  refine pv_lushr X d_M_code_125 ?_
                  refine pv_bipush X 64 d_M_code_126 (by decide) ?_
                  refine pv_bipush X 8 d_M_code_128 (by decide) ?_
                  refine pv_iload X 0 d_M_code_130 rfl ?_
                  refine pv_imul X d_M_code_132 ?_
                  refine pv_isub X d_M_code_133 ?_
                  refine pv_lshl X d_M_code_134 ?_
                  refine pv_topl (mpv yg n i) (by unfold mpv; rw [if_neg h11]) ?_
                  refine pv_lstore (ll2 := [(7, .long (mpv yg n i)), (6, .int (mth n i)), (5, .int (nI i)), (3, .long (mcd (ya k.toNatClampNeg) yg n i)), (0, .ref zm), (1, .int k), (2, .int (nI n))]) X d_M_code_135 (by decide) rfl ?_
                  refine pv_iload X 1 d_M_code_137 rfl ?_
                  refine pv_bipush X 8 d_M_code_139 (by decide) ?_
                  refine pv_icmp_ge X 162 d_M_code_141 rfl (fun h12 => ?_) (fun h12n => ?_)
                  · skip
                    refine pv_lload X 0 d_M_code_162 rfl ?_
                    refine pv_topl (mpw yg n i) (by unfold mpw; rw [if_pos h12]) ?_
                    refine pv_lstore (ll2 := [(7, .long (mpw yg n i)), (6, .int (mth n i)), (5, .int (nI i)), (3, .long (mcd (ya k.toNatClampNeg) yg n i)), (0, .ref zm), (1, .int k), (2, .int (nI n))]) X d_M_code_164 (by decide) rfl ?_
                    refine pv_aload_n X 4 d_M_code_166 rfl ?_
                    refine pv_aload_n X 4 d_M_code_167 rfl ?_
                    refine pv_get X 0 12 u_M_in m_586 rfl rfl (by decide) ⟨rfl, rfl, rfl⟩ rfl d_M_code_168 ?_
                    refine pv_iload_n X 5 d_M_code_171 rfl ?_
                    refine pv_lald X 9 rfl (Mslot_in h3n) d_M_code_172 ?_
                    refine pv_lload X 0 d_M_code_173 rfl ?_
                    refine pv_lload_n X 3 d_M_code_175 rfl ?_
                    refine pv_lxor X d_M_code_176 ?_
                    refine pv_iconst X 0 d_M_code_177 (by decide) ?_
                    refine pv_calllE X (Cut.all _) (rn_V X (c_M_des0 l G zm zmp zm1 zm2 zmx zmh zmt zmu zme zma zmb zmk zmc zmd zmi zmo zmf zmg zmn 0 ys yl yr yv yt yu ye ya yb yk yc yd yi yo yf yg (mcn (ya k.toNatClampNeg) yn i) yp yq yw yx (ya k.toNatClampNeg) ((mpw yg n i) ^^^ (mcd (ya k.toNatClampNeg) yg n i)) ) trivial mf_M_des m_686 m_688 ms_15 rfl 0 rfl rfl rfl (by decide) (by decide) rfl (Nat.le_of_ble_eq_true rfl) d_M_code_178) (fun x13 => ?_)
                    refine pv_eqw (ws2 := [ob zm 5 [.ref zmp, .ref zm1, .ref zm2, .ref zmx, .int 0, .ref zmh, .ref zmt, .int ys, .long yl, .long yr, .ref zmu, .ref zme, .ref zma, .ref zmb, .ref zmk, .ref zmc, .ref zmd, .ref zmi, .ref zmo, .ref zmf, .ref zmg, .ref zmn, .long yp, .long yq, .int yw, .long yx], aI G zmp 32 tb_perm, aI G zm1 56 tb_c1, aI G zm2 48 tb_c2, aI G zmx 512 tb_box, aJ G zmh 6 yv, aZ G zmt 6 yt, aI G zmu 16 yu, aZ G zme 16 ye, aJ G zma 16 ya, aJ G zmb 16 yb, aZ G zmk 8 yk, aJ G zmc 8 yc, aJ G zmd 8 yd, aJ G zmi 8 yi, aI G zmo 8 yo, aJ G zmf 5 yf, aJ G zmg 8 yg, aJ G zmn 16 (rnd (ya k.toNatClampNeg) (mcn (ya k.toNatClampNeg) yn i) 16)]) rfl ?_
                    refine pv_lstore_n (ll2 := [(3, .long (menc (ya k.toNatClampNeg) ((mpw yg n i) ^^^ (mcd (ya k.toNatClampNeg) yg n i)))), (7, .long (mpw yg n i)), (6, .int (mth n i)), (5, .int (nI i)), (0, .ref zm), (1, .int k), (2, .int (nI n))]) X d_M_code_181 (by decide) rfl ?_
                    refine pv_iinc (ll2 := [(5, .int (nI (i + 1))), (3, .long (menc (ya k.toNatClampNeg) ((mpw yg n i) ^^^ (mcd (ya k.toNatClampNeg) yg n i)))), (7, .long (mpw yg n i)), (6, .int (mth n i)), (0, .ref zm), (1, .int k), (2, .int (nI n))]) X 3 (nI (i + 1)) d_M_code_182 rfl (nI_1 _) (by decide) rfl ?_
                    refine pv_goto X 66 d_M_code_185 rfl ?_
                    refine pv_lpick (ll2 := [(5, .int (nI (i + 1))), (3, .long (mcd (ya k.toNatClampNeg) yg n (i + 1))), (0, .ref zm), (1, .int k), (2, .int (nI n))]) [0, 1, 4, 5, 6] rfl ?_
                    refine pv_eqw (ws2 := [ob zm 5 [.ref zmp, .ref zm1, .ref zm2, .ref zmx, .int 0, .ref zmh, .ref zmt, .int ys, .long yl, .long yr, .ref zmu, .ref zme, .ref zma, .ref zmb, .ref zmk, .ref zmc, .ref zmd, .ref zmi, .ref zmo, .ref zmf, .ref zmg, .ref zmn, .long yp, .long yq, .int yw, .long yx], aI G zmp 32 tb_perm, aI G zm1 56 tb_c1, aI G zm2 48 tb_c2, aI G zmx 512 tb_box, aJ G zmh 6 yv, aZ G zmt 6 yt, aI G zmu 16 yu, aZ G zme 16 ye, aJ G zma 16 ya, aJ G zmb 16 yb, aZ G zmk 8 yk, aJ G zmc 8 yc, aJ G zmd 8 yd, aJ G zmi 8 yi, aI G zmo 8 yo, aJ G zmf 5 yf, aJ G zmg 8 yg, aJ G zmn 16 (mcn (ya k.toNatClampNeg) yn (i + 1))]) rfl ?_
                    exact ih_i trivial
                  · skip
                    refine pv_lload X 0 d_M_code_144 rfl ?_
                    refine pv_ldc2_w X m_774 d_M_code_146 ?_
                    refine pv_bipush X 56 d_M_code_149 (by decide) ?_
                    refine pv_bipush X 8 d_M_code_151 (by decide) ?_
                    refine pv_iload X 1 d_M_code_153 rfl ?_
                    refine pv_imul X d_M_code_155 ?_
                    refine pv_isub X d_M_code_156 ?_
                    refine pv_lshl X d_M_code_157 ?_
                    refine pv_lor X d_M_code_158 ?_
                    refine pv_goto X 164 d_M_code_159 rfl ?_
                    refine pv_topl (mpw yg n i) (by unfold mpw; rw [if_neg h12n]) ?_
                    refine pv_lstore (ll2 := [(7, .long (mpw yg n i)), (6, .int (mth n i)), (5, .int (nI i)), (3, .long (mcd (ya k.toNatClampNeg) yg n i)), (0, .ref zm), (1, .int k), (2, .int (nI n))]) X d_M_code_164 (by decide) rfl ?_
                    refine pv_aload_n X 4 d_M_code_166 rfl ?_
                    refine pv_aload_n X 4 d_M_code_167 rfl ?_
                    refine pv_get X 0 12 u_M_in m_586 rfl rfl (by decide) ⟨rfl, rfl, rfl⟩ rfl d_M_code_168 ?_
                    refine pv_iload_n X 5 d_M_code_171 rfl ?_
                    refine pv_lald X 9 rfl (Mslot_in h3n) d_M_code_172 ?_
                    refine pv_lload X 0 d_M_code_173 rfl ?_
                    refine pv_lload_n X 3 d_M_code_175 rfl ?_
                    refine pv_lxor X d_M_code_176 ?_
                    refine pv_iconst X 0 d_M_code_177 (by decide) ?_
                    refine pv_calllE X (Cut.all _) (rn_V X (c_M_des0 l G zm zmp zm1 zm2 zmx zmh zmt zmu zme zma zmb zmk zmc zmd zmi zmo zmf zmg zmn 0 ys yl yr yv yt yu ye ya yb yk yc yd yi yo yf yg (mcn (ya k.toNatClampNeg) yn i) yp yq yw yx (ya k.toNatClampNeg) ((mpw yg n i) ^^^ (mcd (ya k.toNatClampNeg) yg n i)) ) trivial mf_M_des m_686 m_688 ms_15 rfl 0 rfl rfl rfl (by decide) (by decide) rfl (Nat.le_of_ble_eq_true rfl) d_M_code_178) (fun x14 => ?_)
                    refine pv_eqw (ws2 := [ob zm 5 [.ref zmp, .ref zm1, .ref zm2, .ref zmx, .int 0, .ref zmh, .ref zmt, .int ys, .long yl, .long yr, .ref zmu, .ref zme, .ref zma, .ref zmb, .ref zmk, .ref zmc, .ref zmd, .ref zmi, .ref zmo, .ref zmf, .ref zmg, .ref zmn, .long yp, .long yq, .int yw, .long yx], aI G zmp 32 tb_perm, aI G zm1 56 tb_c1, aI G zm2 48 tb_c2, aI G zmx 512 tb_box, aJ G zmh 6 yv, aZ G zmt 6 yt, aI G zmu 16 yu, aZ G zme 16 ye, aJ G zma 16 ya, aJ G zmb 16 yb, aZ G zmk 8 yk, aJ G zmc 8 yc, aJ G zmd 8 yd, aJ G zmi 8 yi, aI G zmo 8 yo, aJ G zmf 5 yf, aJ G zmg 8 yg, aJ G zmn 16 (rnd (ya k.toNatClampNeg) (mcn (ya k.toNatClampNeg) yn i) 16)]) rfl ?_
                    refine pv_lstore_n (ll2 := [(3, .long (menc (ya k.toNatClampNeg) ((mpw yg n i) ^^^ (mcd (ya k.toNatClampNeg) yg n i)))), (7, .long (mpw yg n i)), (6, .int (mth n i)), (5, .int (nI i)), (0, .ref zm), (1, .int k), (2, .int (nI n))]) X d_M_code_181 (by decide) rfl ?_
                    refine pv_iinc (ll2 := [(5, .int (nI (i + 1))), (3, .long (menc (ya k.toNatClampNeg) ((mpw yg n i) ^^^ (mcd (ya k.toNatClampNeg) yg n i)))), (7, .long (mpw yg n i)), (6, .int (mth n i)), (0, .ref zm), (1, .int k), (2, .int (nI n))]) X 3 (nI (i + 1)) d_M_code_182 rfl (nI_1 _) (by decide) rfl ?_
                    refine pv_goto X 66 d_M_code_185 rfl ?_
                    refine pv_lpick (ll2 := [(5, .int (nI (i + 1))), (3, .long (mcd (ya k.toNatClampNeg) yg n (i + 1))), (0, .ref zm), (1, .int k), (2, .int (nI n))]) [0, 1, 4, 5, 6] rfl ?_
                    refine pv_eqw (ws2 := [ob zm 5 [.ref zmp, .ref zm1, .ref zm2, .ref zmx, .int 0, .ref zmh, .ref zmt, .int ys, .long yl, .long yr, .ref zmu, .ref zme, .ref zma, .ref zmb, .ref zmk, .ref zmc, .ref zmd, .ref zmi, .ref zmo, .ref zmf, .ref zmg, .ref zmn, .long yp, .long yq, .int yw, .long yx], aI G zmp 32 tb_perm, aI G zm1 56 tb_c1, aI G zm2 48 tb_c2, aI G zmx 512 tb_box, aJ G zmh 6 yv, aZ G zmt 6 yt, aI G zmu 16 yu, aZ G zme 16 ye, aJ G zma 16 ya, aJ G zmb 16 yb, aZ G zmk 8 yk, aJ G zmc 8 yc, aJ G zmd 8 yd, aJ G zmi 8 yi, aI G zmo 8 yo, aJ G zmf 5 yf, aJ G zmg 8 yg, aJ G zmn 16 (mcn (ya k.toNatClampNeg) yn (i + 1))]) rfl ?_
                    exact ih_i trivial
                · skip
                  refine pv_lconst X 0 d_M_code_106 (by decide) ?_
                  refine pv_goto X 135 d_M_code_107 rfl ?_
                  refine pv_topl (mpv yg n i) (by unfold mpv; rw [if_pos h11n]) ?_
                  refine pv_lstore (ll2 := [(7, .long (mpv yg n i)), (6, .int (mth n i)), (5, .int (nI i)), (3, .long (mcd (ya k.toNatClampNeg) yg n i)), (0, .ref zm), (1, .int k), (2, .int (nI n))]) X d_M_code_135 (by decide) rfl ?_
                  refine pv_iload X 1 d_M_code_137 rfl ?_
                  refine pv_bipush X 8 d_M_code_139 (by decide) ?_
                  refine pv_icmp_ge X 162 d_M_code_141 rfl (fun h15 => ?_) (fun h15n => ?_)
                  · skip
                    refine pv_lload X 0 d_M_code_162 rfl ?_
                    refine pv_topl (mpw yg n i) (by unfold mpw; rw [if_pos h15]) ?_
                    refine pv_lstore (ll2 := [(7, .long (mpw yg n i)), (6, .int (mth n i)), (5, .int (nI i)), (3, .long (mcd (ya k.toNatClampNeg) yg n i)), (0, .ref zm), (1, .int k), (2, .int (nI n))]) X d_M_code_164 (by decide) rfl ?_
                    refine pv_aload_n X 4 d_M_code_166 rfl ?_
                    refine pv_aload_n X 4 d_M_code_167 rfl ?_
                    refine pv_get X 0 12 u_M_in m_586 rfl rfl (by decide) ⟨rfl, rfl, rfl⟩ rfl d_M_code_168 ?_
                    refine pv_iload_n X 5 d_M_code_171 rfl ?_
                    refine pv_lald X 9 rfl (Mslot_in h3n) d_M_code_172 ?_
                    refine pv_lload X 0 d_M_code_173 rfl ?_
                    refine pv_lload_n X 3 d_M_code_175 rfl ?_
                    refine pv_lxor X d_M_code_176 ?_
                    refine pv_iconst X 0 d_M_code_177 (by decide) ?_
                    refine pv_calllE X (Cut.all _) (rn_V X (c_M_des0 l G zm zmp zm1 zm2 zmx zmh zmt zmu zme zma zmb zmk zmc zmd zmi zmo zmf zmg zmn 0 ys yl yr yv yt yu ye ya yb yk yc yd yi yo yf yg (mcn (ya k.toNatClampNeg) yn i) yp yq yw yx (ya k.toNatClampNeg) ((mpw yg n i) ^^^ (mcd (ya k.toNatClampNeg) yg n i)) ) trivial mf_M_des m_686 m_688 ms_15 rfl 0 rfl rfl rfl (by decide) (by decide) rfl (Nat.le_of_ble_eq_true rfl) d_M_code_178) (fun x16 => ?_)
                    refine pv_eqw (ws2 := [ob zm 5 [.ref zmp, .ref zm1, .ref zm2, .ref zmx, .int 0, .ref zmh, .ref zmt, .int ys, .long yl, .long yr, .ref zmu, .ref zme, .ref zma, .ref zmb, .ref zmk, .ref zmc, .ref zmd, .ref zmi, .ref zmo, .ref zmf, .ref zmg, .ref zmn, .long yp, .long yq, .int yw, .long yx], aI G zmp 32 tb_perm, aI G zm1 56 tb_c1, aI G zm2 48 tb_c2, aI G zmx 512 tb_box, aJ G zmh 6 yv, aZ G zmt 6 yt, aI G zmu 16 yu, aZ G zme 16 ye, aJ G zma 16 ya, aJ G zmb 16 yb, aZ G zmk 8 yk, aJ G zmc 8 yc, aJ G zmd 8 yd, aJ G zmi 8 yi, aI G zmo 8 yo, aJ G zmf 5 yf, aJ G zmg 8 yg, aJ G zmn 16 (rnd (ya k.toNatClampNeg) (mcn (ya k.toNatClampNeg) yn i) 16)]) rfl ?_
                    refine pv_lstore_n (ll2 := [(3, .long (menc (ya k.toNatClampNeg) ((mpw yg n i) ^^^ (mcd (ya k.toNatClampNeg) yg n i)))), (7, .long (mpw yg n i)), (6, .int (mth n i)), (5, .int (nI i)), (0, .ref zm), (1, .int k), (2, .int (nI n))]) X d_M_code_181 (by decide) rfl ?_
                    refine pv_iinc (ll2 := [(5, .int (nI (i + 1))), (3, .long (menc (ya k.toNatClampNeg) ((mpw yg n i) ^^^ (mcd (ya k.toNatClampNeg) yg n i)))), (7, .long (mpw yg n i)), (6, .int (mth n i)), (0, .ref zm), (1, .int k), (2, .int (nI n))]) X 3 (nI (i + 1)) d_M_code_182 rfl (nI_1 _) (by decide) rfl ?_
                    refine pv_goto X 66 d_M_code_185 rfl ?_
                    refine pv_lpick (ll2 := [(5, .int (nI (i + 1))), (3, .long (mcd (ya k.toNatClampNeg) yg n (i + 1))), (0, .ref zm), (1, .int k), (2, .int (nI n))]) [0, 1, 4, 5, 6] rfl ?_
                    refine pv_eqw (ws2 := [ob zm 5 [.ref zmp, .ref zm1, .ref zm2, .ref zmx, .int 0, .ref zmh, .ref zmt, .int ys, .long yl, .long yr, .ref zmu, .ref zme, .ref zma, .ref zmb, .ref zmk, .ref zmc, .ref zmd, .ref zmi, .ref zmo, .ref zmf, .ref zmg, .ref zmn, .long yp, .long yq, .int yw, .long yx], aI G zmp 32 tb_perm, aI G zm1 56 tb_c1, aI G zm2 48 tb_c2, aI G zmx 512 tb_box, aJ G zmh 6 yv, aZ G zmt 6 yt, aI G zmu 16 yu, aZ G zme 16 ye, aJ G zma 16 ya, aJ G zmb 16 yb, aZ G zmk 8 yk, aJ G zmc 8 yc, aJ G zmd 8 yd, aJ G zmi 8 yi, aI G zmo 8 yo, aJ G zmf 5 yf, aJ G zmg 8 yg, aJ G zmn 16 (mcn (ya k.toNatClampNeg) yn (i + 1))]) rfl ?_
                    exact ih_i trivial
                  · skip
                    refine pv_lload X 0 d_M_code_144 rfl ?_
                    refine pv_ldc2_w X m_774 d_M_code_146 ?_
                    refine pv_bipush X 56 d_M_code_149 (by decide) ?_
                    refine pv_bipush X 8 d_M_code_151 (by decide) ?_
                    refine pv_iload X 1 d_M_code_153 rfl ?_
                    refine pv_imul X d_M_code_155 ?_
                    refine pv_isub X d_M_code_156 ?_
                    refine pv_lshl X d_M_code_157 ?_
                    refine pv_lor X d_M_code_158 ?_
                    refine pv_goto X 164 d_M_code_159 rfl ?_
                    refine pv_topl (mpw yg n i) (by unfold mpw; rw [if_neg h15n]) ?_
                    refine pv_lstore (ll2 := [(7, .long (mpw yg n i)), (6, .int (mth n i)), (5, .int (nI i)), (3, .long (mcd (ya k.toNatClampNeg) yg n i)), (0, .ref zm), (1, .int k), (2, .int (nI n))]) X d_M_code_164 (by decide) rfl ?_
                    refine pv_aload_n X 4 d_M_code_166 rfl ?_
                    refine pv_aload_n X 4 d_M_code_167 rfl ?_
                    refine pv_get X 0 12 u_M_in m_586 rfl rfl (by decide) ⟨rfl, rfl, rfl⟩ rfl d_M_code_168 ?_
                    refine pv_iload_n X 5 d_M_code_171 rfl ?_
                    refine pv_lald X 9 rfl (Mslot_in h3n) d_M_code_172 ?_
                    refine pv_lload X 0 d_M_code_173 rfl ?_
                    refine pv_lload_n X 3 d_M_code_175 rfl ?_
                    refine pv_lxor X d_M_code_176 ?_
                    refine pv_iconst X 0 d_M_code_177 (by decide) ?_
                    refine pv_calllE X (Cut.all _) (rn_V X (c_M_des0 l G zm zmp zm1 zm2 zmx zmh zmt zmu zme zma zmb zmk zmc zmd zmi zmo zmf zmg zmn 0 ys yl yr yv yt yu ye ya yb yk yc yd yi yo yf yg (mcn (ya k.toNatClampNeg) yn i) yp yq yw yx (ya k.toNatClampNeg) ((mpw yg n i) ^^^ (mcd (ya k.toNatClampNeg) yg n i)) ) trivial mf_M_des m_686 m_688 ms_15 rfl 0 rfl rfl rfl (by decide) (by decide) rfl (Nat.le_of_ble_eq_true rfl) d_M_code_178) (fun x17 => ?_)
                    refine pv_eqw (ws2 := [ob zm 5 [.ref zmp, .ref zm1, .ref zm2, .ref zmx, .int 0, .ref zmh, .ref zmt, .int ys, .long yl, .long yr, .ref zmu, .ref zme, .ref zma, .ref zmb, .ref zmk, .ref zmc, .ref zmd, .ref zmi, .ref zmo, .ref zmf, .ref zmg, .ref zmn, .long yp, .long yq, .int yw, .long yx], aI G zmp 32 tb_perm, aI G zm1 56 tb_c1, aI G zm2 48 tb_c2, aI G zmx 512 tb_box, aJ G zmh 6 yv, aZ G zmt 6 yt, aI G zmu 16 yu, aZ G zme 16 ye, aJ G zma 16 ya, aJ G zmb 16 yb, aZ G zmk 8 yk, aJ G zmc 8 yc, aJ G zmd 8 yd, aJ G zmi 8 yi, aI G zmo 8 yo, aJ G zmf 5 yf, aJ G zmg 8 yg, aJ G zmn 16 (rnd (ya k.toNatClampNeg) (mcn (ya k.toNatClampNeg) yn i) 16)]) rfl ?_
                    refine pv_lstore_n (ll2 := [(3, .long (menc (ya k.toNatClampNeg) ((mpw yg n i) ^^^ (mcd (ya k.toNatClampNeg) yg n i)))), (7, .long (mpw yg n i)), (6, .int (mth n i)), (5, .int (nI i)), (0, .ref zm), (1, .int k), (2, .int (nI n))]) X d_M_code_181 (by decide) rfl ?_
                    refine pv_iinc (ll2 := [(5, .int (nI (i + 1))), (3, .long (menc (ya k.toNatClampNeg) ((mpw yg n i) ^^^ (mcd (ya k.toNatClampNeg) yg n i)))), (7, .long (mpw yg n i)), (6, .int (mth n i)), (0, .ref zm), (1, .int k), (2, .int (nI n))]) X 3 (nI (i + 1)) d_M_code_182 rfl (nI_1 _) (by decide) rfl ?_
                    refine pv_goto X 66 d_M_code_185 rfl ?_
                    refine pv_lpick (ll2 := [(5, .int (nI (i + 1))), (3, .long (mcd (ya k.toNatClampNeg) yg n (i + 1))), (0, .ref zm), (1, .int k), (2, .int (nI n))]) [0, 1, 4, 5, 6] rfl ?_
                    refine pv_eqw (ws2 := [ob zm 5 [.ref zmp, .ref zm1, .ref zm2, .ref zmx, .int 0, .ref zmh, .ref zmt, .int ys, .long yl, .long yr, .ref zmu, .ref zme, .ref zma, .ref zmb, .ref zmk, .ref zmc, .ref zmd, .ref zmi, .ref zmo, .ref zmf, .ref zmg, .ref zmn, .long yp, .long yq, .int yw, .long yx], aI G zmp 32 tb_perm, aI G zm1 56 tb_c1, aI G zm2 48 tb_c2, aI G zmx 512 tb_box, aJ G zmh 6 yv, aZ G zmt 6 yt, aI G zmu 16 yu, aZ G zme 16 ye, aJ G zma 16 ya, aJ G zmb 16 yb, aZ G zmk 8 yk, aJ G zmc 8 yc, aJ G zmd 8 yd, aJ G zmi 8 yi, aI G zmo 8 yo, aJ G zmf 5 yf, aJ G zmg 8 yg, aJ G zmn 16 (mcn (ya k.toNatClampNeg) yn (i + 1))]) rfl ?_
                    exact ih_i trivial
              · skip
                refine pv_iload_n X 4 d_M_code_87 rfl ?_
                refine pv_bipush X 8 d_M_code_88 (by decide) ?_
                refine pv_iload X 0 d_M_code_90 rfl ?_
                refine pv_imul X d_M_code_92 ?_
                refine pv_isub X d_M_code_93 ?_
                refine pv_goto X 99 d_M_code_94 rfl ?_
                refine pv_topi (mth n i) (by unfold mth; rw [if_neg h10n]) ?_
                refine pv_istore (ll2 := [(6, .int (mth n i)), (5, .int (nI i)), (3, .long (mcd (ya k.toNatClampNeg) yg n i)), (0, .ref zm), (1, .int k), (2, .int (nI n))]) X d_M_code_99 (by decide) rfl ?_
                refine pv_iload X 0 d_M_code_101 rfl ?_
                refine pv_if_ne X 110 d_M_code_103 rfl (fun h18 => ?_) (fun h18n => ?_)
                · skip
                  refine pv_aload_n X 3 d_M_code_110 rfl ?_
                  refine pv_get X 0 20 u_M_in m_594 rfl rfl (by decide) ⟨rfl, rfl, rfl⟩ rfl d_M_code_111 ?_
                  refine pv_iload X 1 d_M_code_114 rfl ?_
                  refine pv_lald X 17 rfl (mth_in h_i (by omega) h18) d_M_code_116 ?_
                  refine pv_topl (yg i) (congrArg yg (nI_clamp (by omega))) ?_
                  refine pv_bipush X 64 d_M_code_117 (by decide) ?_
                  refine pv_bipush X 8 d_M_code_119 (by decide) ?_
                  refine pv_iload X 0 d_M_code_121 rfl ?_
                  refine pv_imul X d_M_code_123 ?_
                  refine pv_isub X d_M_code_124 ?_
                  refine pv_lushr X d_M_code_125 ?_
                  refine pv_bipush X 64 d_M_code_126 (by decide) ?_
                  refine pv_bipush X 8 d_M_code_128 (by decide) ?_
                  refine pv_iload X 0 d_M_code_130 rfl ?_
                  refine pv_imul X d_M_code_132 ?_
                  refine pv_isub X d_M_code_133 ?_
                  refine pv_lshl X d_M_code_134 ?_
                  refine pv_topl (mpv yg n i) (by unfold mpv; rw [if_neg h18]) ?_
                  refine pv_lstore (ll2 := [(7, .long (mpv yg n i)), (6, .int (mth n i)), (5, .int (nI i)), (3, .long (mcd (ya k.toNatClampNeg) yg n i)), (0, .ref zm), (1, .int k), (2, .int (nI n))]) X d_M_code_135 (by decide) rfl ?_
                  refine pv_iload X 1 d_M_code_137 rfl ?_
                  refine pv_bipush X 8 d_M_code_139 (by decide) ?_
                  refine pv_icmp_ge X 162 d_M_code_141 rfl (fun h19 => ?_) (fun h19n => ?_)
                  · skip
                    refine pv_lload X 0 d_M_code_162 rfl ?_
                    refine pv_topl (mpw yg n i) (by unfold mpw; rw [if_pos h19]) ?_
                    refine pv_lstore (ll2 := [(7, .long (mpw yg n i)), (6, .int (mth n i)), (5, .int (nI i)), (3, .long (mcd (ya k.toNatClampNeg) yg n i)), (0, .ref zm), (1, .int k), (2, .int (nI n))]) X d_M_code_164 (by decide) rfl ?_
                    refine pv_aload_n X 4 d_M_code_166 rfl ?_
                    refine pv_aload_n X 4 d_M_code_167 rfl ?_
                    refine pv_get X 0 12 u_M_in m_586 rfl rfl (by decide) ⟨rfl, rfl, rfl⟩ rfl d_M_code_168 ?_
                    refine pv_iload_n X 5 d_M_code_171 rfl ?_
                    refine pv_lald X 9 rfl (Mslot_in h3n) d_M_code_172 ?_
                    refine pv_lload X 0 d_M_code_173 rfl ?_
                    refine pv_lload_n X 3 d_M_code_175 rfl ?_
                    refine pv_lxor X d_M_code_176 ?_
                    refine pv_iconst X 0 d_M_code_177 (by decide) ?_
                    refine pv_calllE X (Cut.all _) (rn_V X (c_M_des0 l G zm zmp zm1 zm2 zmx zmh zmt zmu zme zma zmb zmk zmc zmd zmi zmo zmf zmg zmn 0 ys yl yr yv yt yu ye ya yb yk yc yd yi yo yf yg (mcn (ya k.toNatClampNeg) yn i) yp yq yw yx (ya k.toNatClampNeg) ((mpw yg n i) ^^^ (mcd (ya k.toNatClampNeg) yg n i)) ) trivial mf_M_des m_686 m_688 ms_15 rfl 0 rfl rfl rfl (by decide) (by decide) rfl (Nat.le_of_ble_eq_true rfl) d_M_code_178) (fun x20 => ?_)
                    refine pv_eqw (ws2 := [ob zm 5 [.ref zmp, .ref zm1, .ref zm2, .ref zmx, .int 0, .ref zmh, .ref zmt, .int ys, .long yl, .long yr, .ref zmu, .ref zme, .ref zma, .ref zmb, .ref zmk, .ref zmc, .ref zmd, .ref zmi, .ref zmo, .ref zmf, .ref zmg, .ref zmn, .long yp, .long yq, .int yw, .long yx], aI G zmp 32 tb_perm, aI G zm1 56 tb_c1, aI G zm2 48 tb_c2, aI G zmx 512 tb_box, aJ G zmh 6 yv, aZ G zmt 6 yt, aI G zmu 16 yu, aZ G zme 16 ye, aJ G zma 16 ya, aJ G zmb 16 yb, aZ G zmk 8 yk, aJ G zmc 8 yc, aJ G zmd 8 yd, aJ G zmi 8 yi, aI G zmo 8 yo, aJ G zmf 5 yf, aJ G zmg 8 yg, aJ G zmn 16 (rnd (ya k.toNatClampNeg) (mcn (ya k.toNatClampNeg) yn i) 16)]) rfl ?_
                    refine pv_lstore_n (ll2 := [(3, .long (menc (ya k.toNatClampNeg) ((mpw yg n i) ^^^ (mcd (ya k.toNatClampNeg) yg n i)))), (7, .long (mpw yg n i)), (6, .int (mth n i)), (5, .int (nI i)), (0, .ref zm), (1, .int k), (2, .int (nI n))]) X d_M_code_181 (by decide) rfl ?_
                    refine pv_iinc (ll2 := [(5, .int (nI (i + 1))), (3, .long (menc (ya k.toNatClampNeg) ((mpw yg n i) ^^^ (mcd (ya k.toNatClampNeg) yg n i)))), (7, .long (mpw yg n i)), (6, .int (mth n i)), (0, .ref zm), (1, .int k), (2, .int (nI n))]) X 3 (nI (i + 1)) d_M_code_182 rfl (nI_1 _) (by decide) rfl ?_
                    refine pv_goto X 66 d_M_code_185 rfl ?_
                    refine pv_lpick (ll2 := [(5, .int (nI (i + 1))), (3, .long (mcd (ya k.toNatClampNeg) yg n (i + 1))), (0, .ref zm), (1, .int k), (2, .int (nI n))]) [0, 1, 4, 5, 6] rfl ?_
                    refine pv_eqw (ws2 := [ob zm 5 [.ref zmp, .ref zm1, .ref zm2, .ref zmx, .int 0, .ref zmh, .ref zmt, .int ys, .long yl, .long yr, .ref zmu, .ref zme, .ref zma, .ref zmb, .ref zmk, .ref zmc, .ref zmd, .ref zmi, .ref zmo, .ref zmf, .ref zmg, .ref zmn, .long yp, .long yq, .int yw, .long yx], aI G zmp 32 tb_perm, aI G zm1 56 tb_c1, aI G zm2 48 tb_c2, aI G zmx 512 tb_box, aJ G zmh 6 yv, aZ G zmt 6 yt, aI G zmu 16 yu, aZ G zme 16 ye, aJ G zma 16 ya, aJ G zmb 16 yb, aZ G zmk 8 yk, aJ G zmc 8 yc, aJ G zmd 8 yd, aJ G zmi 8 yi, aI G zmo 8 yo, aJ G zmf 5 yf, aJ G zmg 8 yg, aJ G zmn 16 (mcn (ya k.toNatClampNeg) yn (i + 1))]) rfl ?_
                    exact ih_i trivial
                  · skip
                    refine pv_lload X 0 d_M_code_144 rfl ?_
                    refine pv_ldc2_w X m_774 d_M_code_146 ?_
                    refine pv_bipush X 56 d_M_code_149 (by decide) ?_
                    refine pv_bipush X 8 d_M_code_151 (by decide) ?_
                    refine pv_iload X 1 d_M_code_153 rfl ?_
                    refine pv_imul X d_M_code_155 ?_
                    refine pv_isub X d_M_code_156 ?_
                    refine pv_lshl X d_M_code_157 ?_
                    refine pv_lor X d_M_code_158 ?_
                    refine pv_goto X 164 d_M_code_159 rfl ?_
                    refine pv_topl (mpw yg n i) (by unfold mpw; rw [if_neg h19n]) ?_
                    refine pv_lstore (ll2 := [(7, .long (mpw yg n i)), (6, .int (mth n i)), (5, .int (nI i)), (3, .long (mcd (ya k.toNatClampNeg) yg n i)), (0, .ref zm), (1, .int k), (2, .int (nI n))]) X d_M_code_164 (by decide) rfl ?_
                    refine pv_aload_n X 4 d_M_code_166 rfl ?_
                    refine pv_aload_n X 4 d_M_code_167 rfl ?_
                    refine pv_get X 0 12 u_M_in m_586 rfl rfl (by decide) ⟨rfl, rfl, rfl⟩ rfl d_M_code_168 ?_
                    refine pv_iload_n X 5 d_M_code_171 rfl ?_
                    refine pv_lald X 9 rfl (Mslot_in h3n) d_M_code_172 ?_
                    refine pv_lload X 0 d_M_code_173 rfl ?_
                    refine pv_lload_n X 3 d_M_code_175 rfl ?_
                    refine pv_lxor X d_M_code_176 ?_
                    refine pv_iconst X 0 d_M_code_177 (by decide) ?_
                    refine pv_calllE X (Cut.all _) (rn_V X (c_M_des0 l G zm zmp zm1 zm2 zmx zmh zmt zmu zme zma zmb zmk zmc zmd zmi zmo zmf zmg zmn 0 ys yl yr yv yt yu ye ya yb yk yc yd yi yo yf yg (mcn (ya k.toNatClampNeg) yn i) yp yq yw yx (ya k.toNatClampNeg) ((mpw yg n i) ^^^ (mcd (ya k.toNatClampNeg) yg n i)) ) trivial mf_M_des m_686 m_688 ms_15 rfl 0 rfl rfl rfl (by decide) (by decide) rfl (Nat.le_of_ble_eq_true rfl) d_M_code_178) (fun x21 => ?_)
                    refine pv_eqw (ws2 := [ob zm 5 [.ref zmp, .ref zm1, .ref zm2, .ref zmx, .int 0, .ref zmh, .ref zmt, .int ys, .long yl, .long yr, .ref zmu, .ref zme, .ref zma, .ref zmb, .ref zmk, .ref zmc, .ref zmd, .ref zmi, .ref zmo, .ref zmf, .ref zmg, .ref zmn, .long yp, .long yq, .int yw, .long yx], aI G zmp 32 tb_perm, aI G zm1 56 tb_c1, aI G zm2 48 tb_c2, aI G zmx 512 tb_box, aJ G zmh 6 yv, aZ G zmt 6 yt, aI G zmu 16 yu, aZ G zme 16 ye, aJ G zma 16 ya, aJ G zmb 16 yb, aZ G zmk 8 yk, aJ G zmc 8 yc, aJ G zmd 8 yd, aJ G zmi 8 yi, aI G zmo 8 yo, aJ G zmf 5 yf, aJ G zmg 8 yg, aJ G zmn 16 (rnd (ya k.toNatClampNeg) (mcn (ya k.toNatClampNeg) yn i) 16)]) rfl ?_
                    refine pv_lstore_n (ll2 := [(3, .long (menc (ya k.toNatClampNeg) ((mpw yg n i) ^^^ (mcd (ya k.toNatClampNeg) yg n i)))), (7, .long (mpw yg n i)), (6, .int (mth n i)), (5, .int (nI i)), (0, .ref zm), (1, .int k), (2, .int (nI n))]) X d_M_code_181 (by decide) rfl ?_
                    refine pv_iinc (ll2 := [(5, .int (nI (i + 1))), (3, .long (menc (ya k.toNatClampNeg) ((mpw yg n i) ^^^ (mcd (ya k.toNatClampNeg) yg n i)))), (7, .long (mpw yg n i)), (6, .int (mth n i)), (0, .ref zm), (1, .int k), (2, .int (nI n))]) X 3 (nI (i + 1)) d_M_code_182 rfl (nI_1 _) (by decide) rfl ?_
                    refine pv_goto X 66 d_M_code_185 rfl ?_
                    refine pv_lpick (ll2 := [(5, .int (nI (i + 1))), (3, .long (mcd (ya k.toNatClampNeg) yg n (i + 1))), (0, .ref zm), (1, .int k), (2, .int (nI n))]) [0, 1, 4, 5, 6] rfl ?_
                    refine pv_eqw (ws2 := [ob zm 5 [.ref zmp, .ref zm1, .ref zm2, .ref zmx, .int 0, .ref zmh, .ref zmt, .int ys, .long yl, .long yr, .ref zmu, .ref zme, .ref zma, .ref zmb, .ref zmk, .ref zmc, .ref zmd, .ref zmi, .ref zmo, .ref zmf, .ref zmg, .ref zmn, .long yp, .long yq, .int yw, .long yx], aI G zmp 32 tb_perm, aI G zm1 56 tb_c1, aI G zm2 48 tb_c2, aI G zmx 512 tb_box, aJ G zmh 6 yv, aZ G zmt 6 yt, aI G zmu 16 yu, aZ G zme 16 ye, aJ G zma 16 ya, aJ G zmb 16 yb, aZ G zmk 8 yk, aJ G zmc 8 yc, aJ G zmd 8 yd, aJ G zmi 8 yi, aI G zmo 8 yo, aJ G zmf 5 yf, aJ G zmg 8 yg, aJ G zmn 16 (mcn (ya k.toNatClampNeg) yn (i + 1))]) rfl ?_
                    exact ih_i trivial
                · skip
                  refine pv_lconst X 0 d_M_code_106 (by decide) ?_
                  refine pv_goto X 135 d_M_code_107 rfl ?_
                  refine pv_topl (mpv yg n i) (by unfold mpv; rw [if_pos h18n]) ?_
                  refine pv_lstore (ll2 := [(7, .long (mpv yg n i)), (6, .int (mth n i)), (5, .int (nI i)), (3, .long (mcd (ya k.toNatClampNeg) yg n i)), (0, .ref zm), (1, .int k), (2, .int (nI n))]) X d_M_code_135 (by decide) rfl ?_
                  refine pv_iload X 1 d_M_code_137 rfl ?_
                  refine pv_bipush X 8 d_M_code_139 (by decide) ?_
                  refine pv_icmp_ge X 162 d_M_code_141 rfl (fun h22 => ?_) (fun h22n => ?_)
                  · skip
                    refine pv_lload X 0 d_M_code_162 rfl ?_
                    refine pv_topl (mpw yg n i) (by unfold mpw; rw [if_pos h22]) ?_
                    refine pv_lstore (ll2 := [(7, .long (mpw yg n i)), (6, .int (mth n i)), (5, .int (nI i)), (3, .long (mcd (ya k.toNatClampNeg) yg n i)), (0, .ref zm), (1, .int k), (2, .int (nI n))]) X d_M_code_164 (by decide) rfl ?_
                    refine pv_aload_n X 4 d_M_code_166 rfl ?_
                    refine pv_aload_n X 4 d_M_code_167 rfl ?_
                    refine pv_get X 0 12 u_M_in m_586 rfl rfl (by decide) ⟨rfl, rfl, rfl⟩ rfl d_M_code_168 ?_
                    refine pv_iload_n X 5 d_M_code_171 rfl ?_
                    refine pv_lald X 9 rfl (Mslot_in h3n) d_M_code_172 ?_
                    refine pv_lload X 0 d_M_code_173 rfl ?_
                    refine pv_lload_n X 3 d_M_code_175 rfl ?_
                    refine pv_lxor X d_M_code_176 ?_
                    refine pv_iconst X 0 d_M_code_177 (by decide) ?_
                    refine pv_calllE X (Cut.all _) (rn_V X (c_M_des0 l G zm zmp zm1 zm2 zmx zmh zmt zmu zme zma zmb zmk zmc zmd zmi zmo zmf zmg zmn 0 ys yl yr yv yt yu ye ya yb yk yc yd yi yo yf yg (mcn (ya k.toNatClampNeg) yn i) yp yq yw yx (ya k.toNatClampNeg) ((mpw yg n i) ^^^ (mcd (ya k.toNatClampNeg) yg n i)) ) trivial mf_M_des m_686 m_688 ms_15 rfl 0 rfl rfl rfl (by decide) (by decide) rfl (Nat.le_of_ble_eq_true rfl) d_M_code_178) (fun x23 => ?_)
                    refine pv_eqw (ws2 := [ob zm 5 [.ref zmp, .ref zm1, .ref zm2, .ref zmx, .int 0, .ref zmh, .ref zmt, .int ys, .long yl, .long yr, .ref zmu, .ref zme, .ref zma, .ref zmb, .ref zmk, .ref zmc, .ref zmd, .ref zmi, .ref zmo, .ref zmf, .ref zmg, .ref zmn, .long yp, .long yq, .int yw, .long yx], aI G zmp 32 tb_perm, aI G zm1 56 tb_c1, aI G zm2 48 tb_c2, aI G zmx 512 tb_box, aJ G zmh 6 yv, aZ G zmt 6 yt, aI G zmu 16 yu, aZ G zme 16 ye, aJ G zma 16 ya, aJ G zmb 16 yb, aZ G zmk 8 yk, aJ G zmc 8 yc, aJ G zmd 8 yd, aJ G zmi 8 yi, aI G zmo 8 yo, aJ G zmf 5 yf, aJ G zmg 8 yg, aJ G zmn 16 (rnd (ya k.toNatClampNeg) (mcn (ya k.toNatClampNeg) yn i) 16)]) rfl ?_
                    refine pv_lstore_n (ll2 := [(3, .long (menc (ya k.toNatClampNeg) ((mpw yg n i) ^^^ (mcd (ya k.toNatClampNeg) yg n i)))), (7, .long (mpw yg n i)), (6, .int (mth n i)), (5, .int (nI i)), (0, .ref zm), (1, .int k), (2, .int (nI n))]) X d_M_code_181 (by decide) rfl ?_
                    refine pv_iinc (ll2 := [(5, .int (nI (i + 1))), (3, .long (menc (ya k.toNatClampNeg) ((mpw yg n i) ^^^ (mcd (ya k.toNatClampNeg) yg n i)))), (7, .long (mpw yg n i)), (6, .int (mth n i)), (0, .ref zm), (1, .int k), (2, .int (nI n))]) X 3 (nI (i + 1)) d_M_code_182 rfl (nI_1 _) (by decide) rfl ?_
                    refine pv_goto X 66 d_M_code_185 rfl ?_
                    refine pv_lpick (ll2 := [(5, .int (nI (i + 1))), (3, .long (mcd (ya k.toNatClampNeg) yg n (i + 1))), (0, .ref zm), (1, .int k), (2, .int (nI n))]) [0, 1, 4, 5, 6] rfl ?_
                    refine pv_eqw (ws2 := [ob zm 5 [.ref zmp, .ref zm1, .ref zm2, .ref zmx, .int 0, .ref zmh, .ref zmt, .int ys, .long yl, .long yr, .ref zmu, .ref zme, .ref zma, .ref zmb, .ref zmk, .ref zmc, .ref zmd, .ref zmi, .ref zmo, .ref zmf, .ref zmg, .ref zmn, .long yp, .long yq, .int yw, .long yx], aI G zmp 32 tb_perm, aI G zm1 56 tb_c1, aI G zm2 48 tb_c2, aI G zmx 512 tb_box, aJ G zmh 6 yv, aZ G zmt 6 yt, aI G zmu 16 yu, aZ G zme 16 ye, aJ G zma 16 ya, aJ G zmb 16 yb, aZ G zmk 8 yk, aJ G zmc 8 yc, aJ G zmd 8 yd, aJ G zmi 8 yi, aI G zmo 8 yo, aJ G zmf 5 yf, aJ G zmg 8 yg, aJ G zmn 16 (mcn (ya k.toNatClampNeg) yn (i + 1))]) rfl ?_
                    exact ih_i trivial
                  · skip
                    refine pv_lload X 0 d_M_code_144 rfl ?_
                    refine pv_ldc2_w X m_774 d_M_code_146 ?_
                    refine pv_bipush X 56 d_M_code_149 (by decide) ?_
                    refine pv_bipush X 8 d_M_code_151 (by decide) ?_
                    refine pv_iload X 1 d_M_code_153 rfl ?_
                    refine pv_imul X d_M_code_155 ?_
                    refine pv_isub X d_M_code_156 ?_
                    refine pv_lshl X d_M_code_157 ?_
                    refine pv_lor X d_M_code_158 ?_
                    refine pv_goto X 164 d_M_code_159 rfl ?_
                    refine pv_topl (mpw yg n i) (by unfold mpw; rw [if_neg h22n]) ?_
                    refine pv_lstore (ll2 := [(7, .long (mpw yg n i)), (6, .int (mth n i)), (5, .int (nI i)), (3, .long (mcd (ya k.toNatClampNeg) yg n i)), (0, .ref zm), (1, .int k), (2, .int (nI n))]) X d_M_code_164 (by decide) rfl ?_
                    refine pv_aload_n X 4 d_M_code_166 rfl ?_
                    refine pv_aload_n X 4 d_M_code_167 rfl ?_
                    refine pv_get X 0 12 u_M_in m_586 rfl rfl (by decide) ⟨rfl, rfl, rfl⟩ rfl d_M_code_168 ?_
                    refine pv_iload_n X 5 d_M_code_171 rfl ?_
                    refine pv_lald X 9 rfl (Mslot_in h3n) d_M_code_172 ?_
                    refine pv_lload X 0 d_M_code_173 rfl ?_
                    refine pv_lload_n X 3 d_M_code_175 rfl ?_
                    refine pv_lxor X d_M_code_176 ?_
                    refine pv_iconst X 0 d_M_code_177 (by decide) ?_
                    refine pv_calllE X (Cut.all _) (rn_V X (c_M_des0 l G zm zmp zm1 zm2 zmx zmh zmt zmu zme zma zmb zmk zmc zmd zmi zmo zmf zmg zmn 0 ys yl yr yv yt yu ye ya yb yk yc yd yi yo yf yg (mcn (ya k.toNatClampNeg) yn i) yp yq yw yx (ya k.toNatClampNeg) ((mpw yg n i) ^^^ (mcd (ya k.toNatClampNeg) yg n i)) ) trivial mf_M_des m_686 m_688 ms_15 rfl 0 rfl rfl rfl (by decide) (by decide) rfl (Nat.le_of_ble_eq_true rfl) d_M_code_178) (fun x24 => ?_)
                    refine pv_eqw (ws2 := [ob zm 5 [.ref zmp, .ref zm1, .ref zm2, .ref zmx, .int 0, .ref zmh, .ref zmt, .int ys, .long yl, .long yr, .ref zmu, .ref zme, .ref zma, .ref zmb, .ref zmk, .ref zmc, .ref zmd, .ref zmi, .ref zmo, .ref zmf, .ref zmg, .ref zmn, .long yp, .long yq, .int yw, .long yx], aI G zmp 32 tb_perm, aI G zm1 56 tb_c1, aI G zm2 48 tb_c2, aI G zmx 512 tb_box, aJ G zmh 6 yv, aZ G zmt 6 yt, aI G zmu 16 yu, aZ G zme 16 ye, aJ G zma 16 ya, aJ G zmb 16 yb, aZ G zmk 8 yk, aJ G zmc 8 yc, aJ G zmd 8 yd, aJ G zmi 8 yi, aI G zmo 8 yo, aJ G zmf 5 yf, aJ G zmg 8 yg, aJ G zmn 16 (rnd (ya k.toNatClampNeg) (mcn (ya k.toNatClampNeg) yn i) 16)]) rfl ?_
                    refine pv_lstore_n (ll2 := [(3, .long (menc (ya k.toNatClampNeg) ((mpw yg n i) ^^^ (mcd (ya k.toNatClampNeg) yg n i)))), (7, .long (mpw yg n i)), (6, .int (mth n i)), (5, .int (nI i)), (0, .ref zm), (1, .int k), (2, .int (nI n))]) X d_M_code_181 (by decide) rfl ?_
                    refine pv_iinc (ll2 := [(5, .int (nI (i + 1))), (3, .long (menc (ya k.toNatClampNeg) ((mpw yg n i) ^^^ (mcd (ya k.toNatClampNeg) yg n i)))), (7, .long (mpw yg n i)), (6, .int (mth n i)), (0, .ref zm), (1, .int k), (2, .int (nI n))]) X 3 (nI (i + 1)) d_M_code_182 rfl (nI_1 _) (by decide) rfl ?_
                    refine pv_goto X 66 d_M_code_185 rfl ?_
                    refine pv_lpick (ll2 := [(5, .int (nI (i + 1))), (3, .long (mcd (ya k.toNatClampNeg) yg n (i + 1))), (0, .ref zm), (1, .int k), (2, .int (nI n))]) [0, 1, 4, 5, 6] rfl ?_
                    refine pv_eqw (ws2 := [ob zm 5 [.ref zmp, .ref zm1, .ref zm2, .ref zmx, .int 0, .ref zmh, .ref zmt, .int ys, .long yl, .long yr, .ref zmu, .ref zme, .ref zma, .ref zmb, .ref zmk, .ref zmc, .ref zmd, .ref zmi, .ref zmo, .ref zmf, .ref zmg, .ref zmn, .long yp, .long yq, .int yw, .long yx], aI G zmp 32 tb_perm, aI G zm1 56 tb_c1, aI G zm2 48 tb_c2, aI G zmx 512 tb_box, aJ G zmh 6 yv, aZ G zmt 6 yt, aI G zmu 16 yu, aZ G zme 16 ye, aJ G zma 16 ya, aJ G zmb 16 yb, aZ G zmk 8 yk, aJ G zmc 8 yc, aJ G zmd 8 yd, aJ G zmi 8 yi, aI G zmo 8 yo, aJ G zmf 5 yf, aJ G zmg 8 yg, aJ G zmn 16 (mcn (ya k.toNatClampNeg) yn (i + 1))]) rfl ?_
                    exact ih_i trivial
          · skip
            refine pv_bipush X (-4) d_M_code_58 (by decide) ?_
            exact pv_iret X hr hlk yn (by show _ = f_M_code ys yu k n; simp only [f_M_code, if_neg h1, if_neg h3n, if_neg h5, if_pos h6, if_neg h7n]) (by rw [g_M_code_zmf, if_neg (by simp only [f_M_code, if_neg h1, if_neg h3n, if_neg h5, if_pos h6, if_neg h7n]; decide)]) d_M_code_60
        · skip
          refine pv_bipush X (-3) d_M_code_45 (by decide) ?_
          exact pv_iret X hr hlk yn (by show _ = f_M_code ys yu k n; simp only [f_M_code, if_neg h1, if_neg h3n, if_neg h5, if_neg h6n]) (by rw [g_M_code_zmf, if_neg (by simp only [f_M_code, if_neg h1, if_neg h3n, if_neg h5, if_neg h6n]; decide)]) d_M_code_47
      · skip
        refine pv_bipush X (-2) d_M_code_33 (by decide) ?_
        exact pv_iret X hr hlk yn (by show _ = f_M_code ys yu k n; simp only [f_M_code, if_neg h1, if_neg h3n, if_pos h5n]) (by rw [g_M_code_zmf, if_neg (by simp only [f_M_code, if_neg h1, if_neg h3n, if_pos h5n]; decide)]) d_M_code_35
  · skip
    refine pv_iconst X (-1) d_M_code_12 (by decide) ?_
    exact pv_iret X hr hlk yn (by show _ = f_M_code ys yu k n; simp only [f_M_code, if_pos h1n]) (by rw [g_M_code_zmf, if_neg (by simp only [f_M_code, if_pos h1n]; decide)]) d_M_code_13
