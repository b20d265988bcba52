theorem M_in_rng {v lo hi : Int64} (h : ¬ f_M_in v lo hi = 0) : lo.toInt ≤ v.toInt ∧ v.toInt ≤ hi.toInt := by
  unfold f_M_in at h
  have c1 : lg_cmp v lo < 0 ↔ v < lo := by
    unfold lg_cmp
    by_cases h1 : lo < v
    · simp [h1, lg_lt_not h1]
    · by_cases h2 : v = lo
      · subst h2; simp [Int64.lt_irrefl]
      · simp [h1, h2]; rcases lg_tri v lo with q | q | q
        · exact q
        · exact absurd q h2
        · exact absurd q h1
  have c2 : 0 < lg_cmp v hi ↔ hi < v := by
    unfold lg_cmp
    by_cases h1 : hi < v
    · simp [h1]
    · by_cases h2 : v = hi
      · subst h2; simp [Int64.lt_irrefl]
      · simp [h1, h2]
  by_cases h1 : lg_cmp v lo < 0
  · rw [if_pos h1] at h; exact absurd rfl h
  · rw [if_neg h1] at h
    by_cases h2 : 0 < lg_cmp v hi
    · rw [if_pos h2] at h; exact absurd rfl h
    · rw [c1, Int64.lt_iff_toInt_lt] at h1
      rw [c2, Int64.lt_iff_toInt_lt] at h2
      omega
theorem i2l_toInt (k : Int32) : k.toInt64.toInt = k.toInt := Int32.toInt_toInt64 k
theorem Min_vp {k : Int32} {M : Int64} {n : Nat} (hM : M.toInt + 1 = n) (h : ¬ f_M_in k.toInt64 0 M = 0) : vp_in k n := by
  have h1 := M_in_rng h
  rw [i2l_toInt] at h1
  rw [vp_in_iff]
  have e0 : (0 : Int64).toInt = 0 := rfl
  omega
theorem comp2_in {k h : Int32} (h1 : ¬ f_M_in k.toInt64 0 2 = 0) (h2 : ¬ f_M_in h.toInt64 0 1 = 0) : vp_in (2 * k + h) 6 := by
  obtain ⟨a, ha, rfl⟩ := vp_in_of (Min_vp (n := 3) rfl h1) (by decide)
  obtain ⟨b, hb, rfl⟩ := vp_in_of (Min_vp (n := 2) rfl h2) (by decide)
  rw [show (2 : Int32) = nI 2 from rfl, pk_mul, nI_add]
  exact vp_in_nI (by omega) (by decide)
theorem Mslot_in {k : Int32} (h : ¬ f_M_isSlot k = 0) : vp_in k 16 := Min_vp (n := 16) rfl h
theorem Mterm_in {k : Int32} (h : ¬ f_M_isTerminal k = 0) : vp_in k 8 := Min_vp (n := 8) rfl h
theorem MK_in1 {k : Int32} (h : ¬ f_M_in k.toInt64 0 23 = 0) (h2 : ¬ 16 ≤ k) : vp_in k 16 := by
  have h1 := vp_in_iff.mp (Min_vp (n := 24) rfl h)
  rw [vp_in_iff]; rw [i32_le] at h2
  have e2 : (16 : Int32).toInt = 16 := rfl
  omega
theorem MK_in3 {k : Int32} (h : ¬ f_M_in k.toInt64 0 23 = 0) (h2 : ¬ 15 < k) : vp_in k 16 := by
  have h1 := vp_in_iff.mp (Min_vp (n := 24) rfl h)
  rw [vp_in_iff]; rw [i32_lt] at h2
  have e2 : (15 : Int32).toInt = 15 := rfl
  omega
theorem MK_in2 {k : Int32} (h : ¬ f_M_in k.toInt64 0 23 = 0) (h2 : 16 ≤ k) : vp_in (k - 16) 8 := by
  obtain ⟨j, hj, e⟩ := vp_in_of (Min_vp (n := 24) rfl h) (by decide)
  subst e
  rw [i32_le, nI_toInt (by omega)] at h2
  have e2 : (16 : Int32).toInt = 16 := rfl
  rw [show (16 : Int32) = nI 16 from rfl, pk_sub (by omega)]
  exact vp_in_nI (by omega) (by decide)
theorem c_M_counterFrom2 (l : Launch) (G : Gt) (x : Int32) (h0 : ¬ x < 0) (h1 : x ≤ 2097152) : CtI l G y_M_counterFrom b_M_counterFrom 2 (some .int) rm_M_counterFrom E0 [.int x] [] (fun r (_ : Unit) => r = nI (cfn x.toNatClampNeg)) (fun _ => []) 0 0 := by
  obtain ⟨u, hu, rfl⟩ := nI_of2 (n := 2097152) rfl h0 h1
  rw [nI_clamp (by omega)]
  exact c_M_counterFrom l G u hu
def f_M_sealBlock (a : Int64) (b : Int64) (e0 : Int64) : Int64 := menc a (mdec b (menc a e0))
def g_M_sealBlock_zmn (yn : Nat → Int64) (a : Int64) (b : Int64) : Nat → Int64 := rnd a (rnd b (rnd a yn 16) 16) 16
abbrev rm_M_sealBlock : Room := { frames := 3, cells := 0, slots := 0, locals := 90 }
theorem mf_M_sealBlock : MF y_M_sealBlock b_M_sealBlock 7 (some .long) 3 := ⟨m_685, m_6, by decide, by decide, by decide +kernel⟩
theorem d_M_sealBlock_0 : decode b_M_sealBlock 0 = .ok (.aload_n 0, 1) := by decide +kernel
theorem d_M_sealBlock_1 : decode b_M_sealBlock 1 = .ok (.lload_n 1, 1) := by decide +kernel
theorem d_M_sealBlock_2 : decode b_M_sealBlock 2 = .ok (.aload_n 0, 1) := by decide +kernel
theorem d_M_sealBlock_3 : decode b_M_sealBlock 3 = .ok (.lload_n 3, 1) := by decide +kernel
theorem d_M_sealBlock_4 : decode b_M_sealBlock 4 = .ok (.aload_n 0, 1) := by decide +kernel
theorem d_M_sealBlock_5 : decode b_M_sealBlock 5 = .ok (.lload_n 1, 1) := by decide +kernel
theorem d_M_sealBlock_6 : decode b_M_sealBlock 6 = .ok (.lload 5, 2) := by decide +kernel
theorem d_M_sealBlock_8 : decode b_M_sealBlock 8 = .ok (.iconst 0, 1) := by decide +kernel
theorem d_M_sealBlock_9 : decode b_M_sealBlock 9 = .ok (.invokevirtual 90, 3) := by decide +kernel
theorem d_M_sealBlock_12 : decode b_M_sealBlock 12 = .ok (.iconst 1, 1) := by decide +kernel
theorem d_M_sealBlock_13 : decode b_M_sealBlock 13 = .ok (.invokevirtual 90, 3) := by decide +kernel
theorem d_M_sealBlock_16 : decode b_M_sealBlock 16 = .ok (.iconst 0, 1) := by decide +kernel
theorem d_M_sealBlock_17 : decode b_M_sealBlock 17 = .ok (.invokevirtual 90, 3) := by decide +kernel
theorem d_M_sealBlock_20 : decode b_M_sealBlock 20 = .ok (.lreturn, 1) := by decide +kernel
set_option maxRecDepth 100000 in
set_option maxHeartbeats 4000000 in
theorem c_M_sealBlock (l : Launch) (G : Gt) (zm zmp zm1 zm2 zmx zmh zmt zmu zme zma zmb zmk zmc zmd zmi zmo zmf zmg zmn : Nat) (th ys : Int32) (yl yr : Int64) (yv : Nat → Int64) (yt yu ye : Nat → Int32) (ya yb : Nat → Int64) (yk : Nat → Int32) (yc yd yi : Nat → Int64) (yo : Nat → Int32) (yf yg yn : Nat → Int64) (yp yq : Int64) (yw : Int32) (yx : Int64) (a b e0 : Int64) : CtL l G y_M_sealBlock b_M_sealBlock 7 (some .long) rm_M_sealBlock E0 [.ref zm, .long a, .long b, .long e0] [ob zm 5 [.ref zmp, .ref zm1, .ref zm2, .ref zmx, .int th, .ref zmh, .ref zmt, .int ys, .long yl, .long yr, .ref zmu, .ref zme, .ref zma, .ref zmb, .ref zmk, .ref zmc, .ref zmd, .ref zmi, .ref zmo, .ref zmf, .ref zmg, .ref zmn, .long yp, .long yq, .int yw, .long yx], aI G zmp 32 tb_perm, aI G zm1 56 tb_c1, aI G zm2 48 tb_c2, aI G zmx 512 tb_box, aJ G zmh 6 yv, aZ G zmt 6 yt, aI G zmu 16 yu, aZ G zme 16 ye, aJ G zma 16 ya, aJ G zmb 16 yb, aZ G zmk 8 yk, aJ G zmc 8 yc, aJ G zmd 8 yd, aJ G zmi 8 yi, aI G zmo 8 yo, aJ G zmf 5 yf, aJ G zmg 8 yg, aJ G zmn 16 yn] (fun r (_ : Unit) => r = f_M_sealBlock a b e0) (fun _ => [ob zm 5 [.ref zmp, .ref zm1, .ref zm2, .ref zmx, .int th, .ref zmh, .ref zmt, .int ys, .long yl, .long yr, .ref zmu, .ref zme, .ref zma, .ref zmb, .ref zmk, .ref zmc, .ref zmd, .ref zmi, .ref zmo, .ref zmf, .ref zmg, .ref zmn, .long yp, .long yq, .int yw, .long yx], aI G zmp 32 tb_perm, aI G zm1 56 tb_c1, aI G zm2 48 tb_c2, aI G zmx 512 tb_box, aJ G zmh 6 yv, aZ G zmt 6 yt, aI G zmu 16 yu, aZ G zme 16 ye, aJ G zma 16 ya, aJ G zmb 16 yb, aZ G zmk 8 yk, aJ G zmc 8 yc, aJ G zmd 8 yd, aJ G zmi 8 yi, aI G zmo 8 yo, aJ G zmf 5 yf, aJ G zmg 8 yg, aJ G zmn 16 (g_M_sealBlock_zmn yn a b)]) 0 0 := by
  refine Ct.of (Qp := fun A => va_Ql _ (qB G A _) A) Stb_0 (by decide) (Nat.le_of_ble_eq_true rfl) ?_
  intro p e s m args below meth c A X hE hr hlk hini
  refine pv_eql (ll2 := [(0, .ref zm), (1, .long a), (3, .long b), (5, .long e0)]) rfl ?_
  refine pv_aload_n X 0 d_M_sealBlock_0 rfl ?_
  refine pv_lload_n X 1 d_M_sealBlock_1 rfl ?_
  refine pv_aload_n X 0 d_M_sealBlock_2 rfl ?_
  refine pv_lload_n X 2 d_M_sealBlock_3 rfl ?_
  refine pv_aload_n X 0 d_M_sealBlock_4 rfl ?_
  refine pv_lload_n X 1 d_M_sealBlock_5 rfl ?_
  refine pv_lload X 3 d_M_sealBlock_6 rfl ?_
  refine pv_iconst X 0 d_M_sealBlock_8 (by decide) ?_
  refine pv_calllE X (Cut.all _) (rn_V X (c_M_des0 l G zm zmp zm1 zm2 zmx zmh zmt zmu zme zma zmb zmk zmc zmd zmi zmo zmf zmg zmn th ys yl yr yv yt yu ye ya yb yk yc yd yi yo yf yg yn yp yq yw yx a e0 ) trivial mf_M_des m_686 m_688 ms_15 rfl 0 rfl rfl rfl (by decide) (by decide) rfl (Nat.le_of_ble_eq_true rfl) d_M_sealBlock_9) (fun x1 => ?_)
  refine pv_eqw (ws2 := [ob zm 5 [.ref zmp, .ref zm1, .ref zm2, .ref zmx, .int th, .ref zmh, .ref zmt, .int ys, .long yl, .long yr, .ref zmu, .ref zme, .ref zma, .ref zmb, .ref zmk, .ref zmc, .ref zmd, .ref zmi, .ref zmo, .ref zmf, .ref zmg, .ref zmn, .long yp, .long yq, .int yw, .long yx], aI G zmp 32 tb_perm, aI G zm1 56 tb_c1, aI G zm2 48 tb_c2, aI G zmx 512 tb_box, aJ G zmh 6 yv, aZ G zmt 6 yt, aI G zmu 16 yu, aZ G zme 16 ye, aJ G zma 16 ya, aJ G zmb 16 yb, aZ G zmk 8 yk, aJ G zmc 8 yc, aJ G zmd 8 yd, aJ G zmi 8 yi, aI G zmo 8 yo, aJ G zmf 5 yf, aJ G zmg 8 yg, aJ G zmn 16 (rnd a yn 16)]) rfl ?_
  refine pv_iconst X 1 d_M_sealBlock_12 (by decide) ?_
  refine pv_calllE X (Cut.all _) (rn_V X (c_M_des1 l G zm zmp zm1 zm2 zmx zmh zmt zmu zme zma zmb zmk zmc zmd zmi zmo zmf zmg zmn th ys yl yr yv yt yu ye ya yb yk yc yd yi yo yf yg (rnd a yn 16) yp yq yw yx b (menc a e0) ) trivial mf_M_des m_686 m_688 ms_15 rfl 0 rfl rfl rfl (by decide) (by decide) rfl (Nat.le_of_ble_eq_true rfl) d_M_sealBlock_13) (fun x2 => ?_)
  refine pv_eqw (ws2 := [ob zm 5 [.ref zmp, .ref zm1, .ref zm2, .ref zmx, .int th, .ref zmh, .ref zmt, .int ys, .long yl, .long yr, .ref zmu, .ref zme, .ref zma, .ref zmb, .ref zmk, .ref zmc, .ref zmd, .ref zmi, .ref zmo, .ref zmf, .ref zmg, .ref zmn, .long yp, .long yq, .int yw, .long yx], aI G zmp 32 tb_perm, aI G zm1 56 tb_c1, aI G zm2 48 tb_c2, aI G zmx 512 tb_box, aJ G zmh 6 yv, aZ G zmt 6 yt, aI G zmu 16 yu, aZ G zme 16 ye, aJ G zma 16 ya, aJ G zmb 16 yb, aZ G zmk 8 yk, aJ G zmc 8 yc, aJ G zmd 8 yd, aJ G zmi 8 yi, aI G zmo 8 yo, aJ G zmf 5 yf, aJ G zmg 8 yg, aJ G zmn 16 (rnd b (rnd a yn 16) 16)]) rfl ?_
  refine pv_iconst X 0 d_M_sealBlock_16 (by decide) ?_
  refine pv_calllE X (Cut.all _) (rn_V X (c_M_des0 l G zm zmp zm1 zm2 zmx zmh zmt zmu zme zma zmb zmk zmc zmd zmi zmo zmf zmg zmn th ys yl yr yv yt yu ye ya yb yk yc yd yi yo yf yg (rnd b (rnd a yn 16) 16) yp yq yw yx a (mdec b (menc a e0)) ) trivial mf_M_des m_686 m_688 ms_15 rfl 0 rfl rfl rfl (by decide) (by decide) rfl (Nat.le_of_ble_eq_true rfl) d_M_sealBlock_17) (fun x3 => ?_)
  refine pv_eqw (ws2 := [ob zm 5 [.ref zmp, .ref zm1, .ref zm2, .ref zmx, .int th, .ref zmh, .ref zmt, .int ys, .long yl, .long yr, .ref zmu, .ref zme, .ref zma, .ref zmb, .ref zmk, .ref zmc, .ref zmd, .ref zmi, .ref zmo, .ref zmf, .ref zmg, .ref zmn, .long yp, .long yq, .int yw, .long yx], aI G zmp 32 tb_perm, aI G zm1 56 tb_c1, aI G zm2 48 tb_c2, aI G zmx 512 tb_box, aJ G zmh 6 yv, aZ G zmt 6 yt, aI G zmu 16 yu, aZ G zme 16 ye, aJ G zma 16 ya, aJ G zmb 16 yb, aZ G zmk 8 yk, aJ G zmc 8 yc, aJ G zmd 8 yd, aJ G zmi 8 yi, aI G zmo 8 yo, aJ G zmf 5 yf, aJ G zmg 8 yg, aJ G zmn 16 (rnd a (rnd b (rnd a yn 16) 16) 16)]) rfl ?_
  exact pv_lret X hr hlk () rfl (by simp only [g_M_sealBlock_zmn]) d_M_sealBlock_20
def f_M_openBlock (a : Int64) (b : Int64) (e0 : Int64) : Int64 := mdec a (menc b (mdec a e0))
def g_M_openBlock_zmn (yn : Nat → Int64) (a : Int64) (b : Int64) : Nat → Int64 := rnd a (rnd b (rnd a yn 16) 16) 16
abbrev rm_M_openBlock : Room := { frames := 3, cells := 0, slots := 0, locals := 90 }
theorem mf_M_openBlock : MF y_M_openBlock b_M_openBlock 7 (some .long) 3 := ⟨m_773, m_6, by decide, by decide, by decide +kernel⟩
theorem d_M_openBlock_0 : decode b_M_openBlock 0 = .ok (.aload_n 0, 1) := by decide +kernel
theorem d_M_openBlock_1 : decode b_M_openBlock 1 = .ok (.lload_n 1, 1) := by decide +kernel
theorem d_M_openBlock_2 : decode b_M_openBlock 2 = .ok (.aload_n 0, 1) := by decide +kernel
theorem d_M_openBlock_3 : decode b_M_openBlock 3 = .ok (.lload_n 3, 1) := by decide +kernel
theorem d_M_openBlock_4 : decode b_M_openBlock 4 = .ok (.aload_n 0, 1) := by decide +kernel
theorem d_M_openBlock_5 : decode b_M_openBlock 5 = .ok (.lload_n 1, 1) := by decide +kernel
theorem d_M_openBlock_6 : decode b_M_openBlock 6 = .ok (.lload 5, 2) := by decide +kernel
theorem d_M_openBlock_8 : decode b_M_openBlock 8 = .ok (.iconst 1, 1) := by decide +kernel
theorem d_M_openBlock_9 : decode b_M_openBlock 9 = .ok (.invokevirtual 90, 3) := by decide +kernel
theorem d_M_openBlock_12 : decode b_M_openBlock 12 = .ok (.iconst 0, 1) := by decide +kernel
theorem d_M_openBlock_13 : decode b_M_openBlock 13 = .ok (.invokevirtual 90, 3) := by decide +kernel
theorem d_M_openBlock_16 : decode b_M_openBlock 16 = .ok (.iconst 1, 1) := by decide +kernel
theorem d_M_openBlock_17 : decode b_M_openBlock 17 = .ok (.invokevirtual 90, 3) := by decide +kernel
theorem d_M_openBlock_20 : decode b_M_openBlock 20 = .ok (.lreturn, 1) := by decide +kernel
set_option maxRecDepth 100000 in
set_option maxHeartbeats 4000000 in
theorem c_M_openBlock (l : Launch) (G : Gt) (zm zmp zm1 zm2 zmx zmh zmt zmu zme zma zmb zmk zmc zmd zmi zmo zmf zmg zmn : Nat) (th ys : Int32) (yl yr : Int64) (yv : Nat → Int64) (yt yu ye : Nat → Int32) (ya yb : Nat → Int64) (yk : Nat → Int32) (yc yd yi : Nat → Int64) (yo : Nat → Int32) (yf yg yn : Nat → Int64) (yp yq : Int64) (yw : Int32) (yx : Int64) (a b e0 : Int64) : CtL l G y_M_openBlock b_M_openBlock 7 (some .long) rm_M_openBlock E0 [.ref zm, .long a, .long b, .long e0] [ob zm 5 [.ref zmp, .ref zm1, .ref zm2, .ref zmx, .int th, .ref zmh, .ref zmt, .int ys, .long yl, .long yr, .ref zmu, .ref zme, .ref zma, .ref zmb, .ref zmk, .ref zmc, .ref zmd, .ref zmi, .ref zmo, .ref zmf, .ref zmg, .ref zmn, .long yp, .long yq, .int yw, .long yx], aI G zmp 32 tb_perm, aI G zm1 56 tb_c1, aI G zm2 48 tb_c2, aI G zmx 512 tb_box, aJ G zmh 6 yv, aZ G zmt 6 yt, aI G zmu 16 yu, aZ G zme 16 ye, aJ G zma 16 ya, aJ G zmb 16 yb, aZ G zmk 8 yk, aJ G zmc 8 yc, aJ G zmd 8 yd, aJ G zmi 8 yi, aI G zmo 8 yo, aJ G zmf 5 yf, aJ G zmg 8 yg, aJ G zmn 16 yn] (fun r (_ : Unit) => r = f_M_openBlock a b e0) (fun _ => [ob zm 5 [.ref zmp, .ref zm1, .ref zm2, .ref zmx, .int th, .ref zmh, .ref zmt, .int ys, .long yl, .long yr, .ref zmu, .ref zme, .ref zma, .ref zmb, .ref zmk, .ref zmc, .ref zmd, .ref zmi, .ref zmo, .ref zmf, .ref zmg, .ref zmn, .long yp, .long yq, .int yw, .long yx], aI G zmp 32 tb_perm, aI G zm1 56 tb_c1, aI G zm2 48 tb_c2, aI G zmx 512 tb_box, aJ G zmh 6 yv, aZ G zmt 6 yt, aI G zmu 16 yu, aZ G zme 16 ye, aJ G zma 16 ya, aJ G zmb 16 yb, aZ G zmk 8 yk, aJ G zmc 8 yc, aJ G zmd 8 yd, aJ G zmi 8 yi, aI G zmo 8 yo, aJ G zmf 5 yf, aJ G zmg 8 yg, aJ G zmn 16 (g_M_openBlock_zmn yn a b)]) 0 0 := by
  refine Ct.of (Qp := fun A => va_Ql _ (qB G A _) A) Stb_0 (by decide) (Nat.le_of_ble_eq_true rfl) ?_
  intro p e s m args below meth c A X hE hr hlk hini
  refine pv_eql (ll2 := [(0, .ref zm), (1, .long a), (3, .long b), (5, .long e0)]) rfl ?_
  refine pv_aload_n X 0 d_M_openBlock_0 rfl ?_
  refine pv_lload_n X 1 d_M_openBlock_1 rfl ?_
  refine pv_aload_n X 0 d_M_openBlock_2 rfl ?_
  refine pv_lload_n X 2 d_M_openBlock_3 rfl ?_
  refine pv_aload_n X 0 d_M_openBlock_4 rfl ?_
  refine pv_lload_n X 1 d_M_openBlock_5 rfl ?_
  refine pv_lload X 3 d_M_openBlock_6 rfl ?_
  refine pv_iconst X 1 d_M_openBlock_8 (by decide) ?_
  refine pv_calllE X (Cut.all _) (rn_V X (c_M_des1 l G zm zmp zm1 zm2 zmx zmh zmt zmu zme zma zmb zmk zmc zmd zmi zmo zmf zmg zmn th ys yl yr yv yt yu ye ya yb yk yc yd yi yo yf yg yn yp yq yw yx a e0 ) trivial mf_M_des m_686 m_688 ms_15 rfl 0 rfl rfl rfl (by decide) (by decide) rfl (Nat.le_of_ble_eq_true rfl) d_M_openBlock_9) (fun x1 => ?_)
  refine pv_eqw (ws2 := [ob zm 5 [.ref zmp, .ref zm1, .ref zm2, .ref zmx, .int th, .ref zmh, .ref zmt, .int ys, .long yl, .long yr, .ref zmu, .ref zme, .ref zma, .ref zmb, .ref zmk, .ref zmc, .ref zmd, .ref zmi, .ref zmo, .ref zmf, .ref zmg, .ref zmn, .long yp, .long yq, .int yw, .long yx], aI G zmp 32 tb_perm, aI G zm1 56 tb_c1, aI G zm2 48 tb_c2, aI G zmx 512 tb_box, aJ G zmh 6 yv, aZ G zmt 6 yt, aI G zmu 16 yu, aZ G zme 16 ye, aJ G zma 16 ya, aJ G zmb 16 yb, aZ G zmk 8 yk, aJ G zmc 8 yc, aJ G zmd 8 yd, aJ G zmi 8 yi, aI G zmo 8 yo, aJ G zmf 5 yf, aJ G zmg 8 yg, aJ G zmn 16 (rnd a yn 16)]) rfl ?_
  refine pv_iconst X 0 d_M_openBlock_12 (by decide) ?_
  refine pv_calllE X (Cut.all _) (rn_V X (c_M_des0 l G zm zmp zm1 zm2 zmx zmh zmt zmu zme zma zmb zmk zmc zmd zmi zmo zmf zmg zmn th ys yl yr yv yt yu ye ya yb yk yc yd yi yo yf yg (rnd a yn 16) yp yq yw yx b (mdec a e0) ) trivial mf_M_des m_686 m_688 ms_15 rfl 0 rfl rfl rfl (by decide) (by decide) rfl (Nat.le_of_ble_eq_true rfl) d_M_openBlock_13) (fun x2 => ?_)
  refine pv_eqw (ws2 := [ob zm 5 [.ref zmp, .ref zm1, .ref zm2, .ref zmx, .int th, .ref zmh, .ref zmt, .int ys, .long yl, .long yr, .ref zmu, .ref zme, .ref zma, .ref zmb, .ref zmk, .ref zmc, .ref zmd, .ref zmi, .ref zmo, .ref zmf, .ref zmg, .ref zmn, .long yp, .long yq, .int yw, .long yx], aI G zmp 32 tb_perm, aI G zm1 56 tb_c1, aI G zm2 48 tb_c2, aI G zmx 512 tb_box, aJ G zmh 6 yv, aZ G zmt 6 yt, aI G zmu 16 yu, aZ G zme 16 ye, aJ G zma 16 ya, aJ G zmb 16 yb, aZ G zmk 8 yk, aJ G zmc 8 yc, aJ G zmd 8 yd, aJ G zmi 8 yi, aI G zmo 8 yo, aJ G zmf 5 yf, aJ G zmg 8 yg, aJ G zmn 16 (rnd b (rnd a yn 16) 16)]) rfl ?_
  refine pv_iconst X 1 d_M_openBlock_16 (by decide) ?_
  refine pv_calllE X (Cut.all _) (rn_V X (c_M_des1 l G zm zmp zm1 zm2 zmx zmh zmt zmu zme zma zmb zmk zmc zmd zmi zmo zmf zmg zmn th ys yl yr yv yt yu ye ya yb yk yc yd yi yo yf yg (rnd b (rnd a yn 16) 16) yp yq yw yx a (menc b (mdec a e0)) ) trivial mf_M_des m_686 m_688 ms_15 rfl 0 rfl rfl rfl (by decide) (by decide) rfl (Nat.le_of_ble_eq_true rfl) d_M_openBlock_17) (fun x3 => ?_)
  refine pv_eqw (ws2 := [ob zm 5 [.ref zmp, .ref zm1, .ref zm2, .ref zmx, .int th, .ref zmh, .ref zmt, .int ys, .long yl, .long yr, .ref zmu, .ref zme, .ref zma, .ref zmb, .ref zmk, .ref zmc, .ref zmd, .ref zmi, .ref zmo, .ref zmf, .ref zmg, .ref zmn, .long yp, .long yq, .int yw, .long yx], aI G zmp 32 tb_perm, aI G zm1 56 tb_c1, aI G zm2 48 tb_c2, aI G zmx 512 tb_box, aJ G zmh 6 yv, aZ G zmt 6 yt, aI G zmu 16 yu, aZ G zme 16 ye, aJ G zma 16 ya, aJ G zmb 16 yb, aZ G zmk 8 yk, aJ G zmc 8 yc, aJ G zmd 8 yd, aJ G zmi 8 yi, aI G zmo 8 yo, aJ G zmf 5 yf, aJ G zmg 8 yg, aJ G zmn 16 (rnd a (rnd b (rnd a yn 16) 16) 16)]) rfl ?_
  exact pv_lret X hr hlk () rfl (by simp only [g_M_openBlock_zmn]) d_M_openBlock_20
def f_M_checkOf (a : Int64) (b : Int64) : Int32 := (((f_M_sealBlock a b (0 : Int64)).toUInt64 >>> ((40 : Int32).toInt64.toUInt64 &&& Int64.toUInt64 63)).toInt64).toInt32
def g_M_checkOf_zmn (yn : Nat → Int64) (a : Int64) (b : Int64) : Nat → Int64 := g_M_sealBlock_zmn yn a b
abbrev rm_M_checkOf : Room := { frames := 4, cells := 0, slots := 0, locals := 116 }
theorem mf_M_checkOf : MF y_M_checkOf b_M_checkOf 5 (some .int) 2 := ⟨m_681, m_6, by decide, by decide, by decide +kernel⟩
theorem d_M_checkOf_0 : decode b_M_checkOf 0 = .ok (.aload_n 0, 1) := by decide +kernel
theorem d_M_checkOf_1 : decode b_M_checkOf 1 = .ok (.lload_n 1, 1) := by decide +kernel
theorem d_M_checkOf_2 : decode b_M_checkOf 2 = .ok (.lload_n 3, 1) := by decide +kernel
theorem d_M_checkOf_3 : decode b_M_checkOf 3 = .ok (.lconst 0, 1) := by decide +kernel
theorem d_M_checkOf_4 : decode b_M_checkOf 4 = .ok (.invokevirtual 98, 3) := by decide +kernel
theorem d_M_checkOf_7 : decode b_M_checkOf 7 = .ok (.bipush 40, 2) := by decide +kernel
theorem d_M_checkOf_9 : decode b_M_checkOf 9 = .ok (.lushr, 1) := by decide +kernel
theorem d_M_checkOf_10 : decode b_M_checkOf 10 = .ok (.l2i, 1) := by decide +kernel
theorem d_M_checkOf_11 : decode b_M_checkOf 11 = .ok (.ireturn, 1) := by decide +kernel
set_option maxRecDepth 100000 in
set_option maxHeartbeats 4000000 in
theorem c_M_checkOf (l : Launch) (G : Gt) (zm zmp zm1 zm2 zmx zmh zmt zmu zme zma zmb zmk zmc zmd zmi zmo zmf zmg zmn : Nat) (th ys : Int32) (yl yr : Int64) (yv : Nat → Int64) (yt yu ye : Nat → Int32) (ya yb : Nat → Int64) (yk : Nat → Int32) (yc yd yi : Nat → Int64) (yo : Nat → Int32) (yf yg yn : Nat → Int64) (yp yq : Int64) (yw : Int32) (yx : Int64) (a b : Int64) : CtI l G y_M_checkOf b_M_checkOf 5 (some .int) rm_M_checkOf E0 [.ref zm, .long a, .long b] [ob zm 5 [.ref zmp, .ref zm1, .ref zm2, .ref zmx, .int th, .ref zmh, .ref zmt, .int ys, .long yl, .long yr, .ref zmu, .ref zme, .ref zma, .ref zmb, .ref zmk, .ref zmc, .ref zmd, .ref zmi, .ref zmo, .ref zmf, .ref zmg, .ref zmn, .long yp, .long yq, .int yw, .long yx], aI G zmp 32 tb_perm, aI G zm1 56 tb_c1, aI G zm2 48 tb_c2, aI G zmx 512 tb_box, aJ G zmh 6 yv, aZ G zmt 6 yt, aI G zmu 16 yu, aZ G zme 16 ye, aJ G zma 16 ya, aJ G zmb 16 yb, aZ G zmk 8 yk, aJ G zmc 8 yc, aJ G zmd 8 yd, aJ G zmi 8 yi, aI G zmo 8 yo, aJ G zmf 5 yf, aJ G zmg 8 yg, aJ G zmn 16 yn] (fun r (_ : Unit) => r = f_M_checkOf a b) (fun _ => [ob zm 5 [.ref zmp, .ref zm1, .ref zm2, .ref zmx, .int th, .ref zmh, .ref zmt, .int ys, .long yl, .long yr, .ref zmu, .ref zme, .ref zma, .ref zmb, .ref zmk, .ref zmc, .ref zmd, .ref zmi, .ref zmo, .ref zmf, .ref zmg, .ref zmn, .long yp, .long yq, .int yw, .long yx], aI G zmp 32 tb_perm, aI G zm1 56 tb_c1, aI G zm2 48 tb_c2, aI G zmx 512 tb_box, aJ G zmh 6 yv, aZ G zmt 6 yt, aI G zmu 16 yu, aZ G zme 16 ye, aJ G zma 16 ya, aJ G zmb 16 yb, aZ G zmk 8 yk, aJ G zmc 8 yc, aJ G zmd 8 yd, aJ G zmi 8 yi, aI G zmo 8 yo, aJ G zmf 5 yf, aJ G zmg 8 yg, aJ G zmn 16 (g_M_checkOf_zmn yn a b)]) 0 0 := by
  refine Ct.of (Qp := fun A => va_Qi _ (qB G A _) A) Stb_0 (by decide) (Nat.le_of_ble_eq_true rfl) ?_
  intro p e s m args below meth c A X hE hr hlk hini
  refine pv_eql (ll2 := [(0, .ref zm), (1, .long a), (3, .long b)]) rfl ?_
  refine pv_aload_n X 0 d_M_checkOf_0 rfl ?_
  refine pv_lload_n X 1 d_M_checkOf_1 rfl ?_
  refine pv_lload_n X 2 d_M_checkOf_2 rfl ?_
  refine pv_lconst X 0 d_M_checkOf_3 (by decide) ?_
  refine pv_calllE X (Cut.all _) (rn_V X (c_M_sealBlock l G zm zmp zm1 zm2 zmx zmh zmt zmu zme zma zmb zmk zmc zmd zmi zmo zmf zmg zmn th ys yl yr yv yt yu ye ya yb yk yc yd yi yo yf yg yn yp yq yw yx a b (0 : Int64) ) trivial mf_M_sealBlock m_682 m_684 ms_14 rfl 0 rfl rfl rfl (by decide) (by decide) rfl (Nat.le_of_ble_eq_true rfl) d_M_checkOf_4) (fun x1 => ?_)
  refine pv_eqw (ws2 := [ob zm 5 [.ref zmp, .ref zm1, .ref zm2, .ref zmx, .int th, .ref zmh, .ref zmt, .int ys, .long yl, .long yr, .ref zmu, .ref zme, .ref zma, .ref zmb, .ref zmk, .ref zmc, .ref zmd, .ref zmi, .ref zmo, .ref zmf, .ref zmg, .ref zmn, .long yp, .long yq, .int yw, .long yx], aI G zmp 32 tb_perm, aI G zm1 56 tb_c1, aI G zm2 48 tb_c2, aI G zmx 512 tb_box, aJ G zmh 6 yv, aZ G zmt 6 yt, aI G zmu 16 yu, aZ G zme 16 ye, aJ G zma 16 ya, aJ G zmb 16 yb, aZ G zmk 8 yk, aJ G zmc 8 yc, aJ G zmd 8 yd, aJ G zmi 8 yi, aI G zmo 8 yo, aJ G zmf 5 yf, aJ G zmg 8 yg, aJ G zmn 16 (g_M_sealBlock_zmn yn a b)]) rfl ?_
  refine pv_bipush X 40 d_M_checkOf_7 (by decide) ?_
  refine pv_lushr X d_M_checkOf_9 ?_
  refine pv_l2i X d_M_checkOf_10 ?_
  exact pv_iret X hr hlk () rfl (by simp only [g_M_checkOf_zmn]) d_M_checkOf_11
def g_M_component_zm_4 (ys : Int32) (k : Int32) (h : Int32) : Int32 := if (f_M_in k.toInt64 (0 : Int64) (2 : Int64)) = 0 then (g_M_throwing_zm_4 1 0) else (if (f_M_in h.toInt64 (0 : Int64) (1 : Int64)) = 0 then (g_M_throwing_zm_4 1 0) else (if ys = 0 then (g_M_throwing_zm_4 0 0) else (g_M_throwing_zm_4 0 1)))
def g_M_component_zmh (ys : Int32) (yv : Nat → Int64) (k : Int32) (h : Int32) (v : Int64) : Nat → Int64 := if (f_M_in k.toInt64 (0 : Int64) (2 : Int64)) = 0 then yv else (if (f_M_in h.toInt64 (0 : Int64) (1 : Int64)) = 0 then yv else (if ys = 0 then (vp_updL yv (((2 * k) + h).toNatClampNeg) v) else yv))
def g_M_component_zmt (ys : Int32) (yt : Nat → Int32) (k : Int32) (h : Int32) : Nat → Int32 := if (f_M_in k.toInt64 (0 : Int64) (2 : Int64)) = 0 then yt else (if (f_M_in h.toInt64 (0 : Int64) (1 : Int64)) = 0 then yt else (if ys = 0 then (upd yt (((2 * k) + h).toNatClampNeg) 1) else yt))
abbrev rm_M_component : Room := { frames := 1, cells := 0, slots := 0, locals := 25 }
theorem mf_M_component : MF y_M_component b_M_component 6 none 3 := ⟨m_660, m_6, by decide, by decide, by decide +kernel⟩
theorem d_M_component_0 : decode b_M_component 0 = .ok (.iload_n 1, 1) := by decide +kernel
theorem d_M_component_1 : decode b_M_component 1 = .ok (.i2l, 1) := by decide +kernel
theorem d_M_component_2 : decode b_M_component 2 = .ok (.lconst 0, 1) := by decide +kernel
theorem d_M_component_3 : decode b_M_component 3 = .ok (.ldc2_w 102, 3) := by decide +kernel
theorem d_M_component_6 : decode b_M_component 6 = .ok (.invokestatic 104, 3) := by decide +kernel
theorem d_M_component_9 : decode b_M_component 9 = .ok (.ifCond .eq 13, 3) := by decide +kernel
theorem d_M_component_12 : decode b_M_component 12 = .ok (.iload_n 2, 1) := by decide +kernel
theorem d_M_component_13 : decode b_M_component 13 = .ok (.i2l, 1) := by decide +kernel
theorem d_M_component_14 : decode b_M_component 14 = .ok (.lconst 0, 1) := by decide +kernel
theorem d_M_component_15 : decode b_M_component 15 = .ok (.lconst 1, 1) := by decide +kernel
theorem d_M_component_16 : decode b_M_component 16 = .ok (.invokestatic 104, 3) := by decide +kernel
theorem d_M_component_19 : decode b_M_component 19 = .ok (.ifCond .ne 7, 3) := by decide +kernel
theorem d_M_component_22 : decode b_M_component 22 = .ok (.iconst 1, 1) := by decide +kernel
theorem d_M_component_23 : decode b_M_component 23 = .ok (.goto 4, 3) := by decide +kernel
theorem d_M_component_26 : decode b_M_component 26 = .ok (.iconst 0, 1) := by decide +kernel
theorem d_M_component_27 : decode b_M_component 27 = .ok (.istore 5, 2) := by decide +kernel
theorem d_M_component_29 : decode b_M_component 29 = .ok (.aload_n 0, 1) := by decide +kernel
theorem d_M_component_30 : decode b_M_component 30 = .ok (.iload 5, 2) := by decide +kernel
theorem d_M_component_32 : decode b_M_component 32 = .ok (.iload 5, 2) := by decide +kernel
theorem d_M_component_34 : decode b_M_component 34 = .ok (.ifCond .ne 14, 3) := by decide +kernel
theorem d_M_component_37 : decode b_M_component 37 = .ok (.aload_n 0, 1) := by decide +kernel
theorem d_M_component_38 : decode b_M_component 38 = .ok (.getfield 108, 3) := by decide +kernel
theorem d_M_component_41 : decode b_M_component 41 = .ok (.ifCond .eq 7, 3) := by decide +kernel
theorem d_M_component_44 : decode b_M_component 44 = .ok (.iconst 1, 1) := by decide +kernel
theorem d_M_component_45 : decode b_M_component 45 = .ok (.goto 4, 3) := by decide +kernel
theorem d_M_component_48 : decode b_M_component 48 = .ok (.iconst 0, 1) := by decide +kernel
theorem d_M_component_49 : decode b_M_component 49 = .ok (.invokevirtual 112, 3) := by decide +kernel
theorem d_M_component_52 : decode b_M_component 52 = .ok (.ifCond .eq 4, 3) := by decide +kernel
theorem d_M_component_55 : decode b_M_component 55 = .ok (.return_, 1) := by decide +kernel
theorem d_M_component_56 : decode b_M_component 56 = .ok (.aload_n 0, 1) := by decide +kernel
theorem d_M_component_57 : decode b_M_component 57 = .ok (.getfield 22, 3) := by decide +kernel
theorem d_M_component_60 : decode b_M_component 60 = .ok (.iconst 2, 1) := by decide +kernel
theorem d_M_component_61 : decode b_M_component 61 = .ok (.iload_n 1, 1) := by decide +kernel
theorem d_M_component_62 : decode b_M_component 62 = .ok (.imul, 1) := by decide +kernel
theorem d_M_component_63 : decode b_M_component 63 = .ok (.iload_n 2, 1) := by decide +kernel
theorem d_M_component_64 : decode b_M_component 64 = .ok (.iadd, 1) := by decide +kernel
theorem d_M_component_65 : decode b_M_component 65 = .ok (.lload_n 3, 1) := by decide +kernel
theorem d_M_component_66 : decode b_M_component 66 = .ok (.lastore, 1) := by decide +kernel
theorem d_M_component_67 : decode b_M_component 67 = .ok (.aload_n 0, 1) := by decide +kernel
theorem d_M_component_68 : decode b_M_component 68 = .ok (.getfield 26, 3) := by decide +kernel
theorem d_M_component_71 : decode b_M_component 71 = .ok (.iconst 2, 1) := by decide +kernel
theorem d_M_component_72 : decode b_M_component 72 = .ok (.iload_n 1, 1) := by decide +kernel
theorem d_M_component_73 : decode b_M_component 73 = .ok (.imul, 1) := by decide +kernel
theorem d_M_component_74 : decode b_M_component 74 = .ok (.iload_n 2, 1) := by decide +kernel
theorem d_M_component_75 : decode b_M_component 75 = .ok (.iadd, 1) := by decide +kernel
theorem d_M_component_76 : decode b_M_component 76 = .ok (.iconst 1, 1) := by decide +kernel
theorem d_M_component_77 : decode b_M_component 77 = .ok (.bastore, 1) := by decide +kernel
theorem d_M_component_78 : decode b_M_component 78 = .ok (.return_, 1) := by decide +kernel
set_option maxRecDepth 100000 in
set_option maxHeartbeats 4000000 in
theorem c_M_component (l : Launch) (G : Gt) (zm zmp zm1 zm2 zmx zmh zmt zmu zme zma zmb zmk zmc zmd zmi zmo zmf zmg zmn : Nat) (th ys : Int32) (yl yr : Int64) (yv : Nat → Int64) (yt yu ye : Nat → Int32) (ya yb : Nat → Int64) (yk : Nat → Int32) (yc yd yi : Nat → Int64) (yo : Nat → Int32) (yf yg yn : Nat → Int64) (yp yq : Int64) (yw : Int32) (yx : Int64) (k h : Int32) (v : Int64) : CtV l G y_M_component b_M_component 6 none rm_M_component E0 [.ref zm, .int k, .int h, .long v] [ob zm 5 [.ref zmp, .ref zm1, .ref zm2, .ref zmx, .int th, .ref zmh, .ref zmt, .int ys, .long yl, .long yr, .ref zmu, .ref zme, .ref zma, .ref zmb, .ref zmk, .ref zmc, .ref zmd, .ref zmi, .ref zmo, .ref zmf, .ref zmg, .ref zmn, .long yp, .long yq, .int yw, .long yx], aI G zmp 32 tb_perm, aI G zm1 56 tb_c1, aI G zm2 48 tb_c2, aI G zmx 512 tb_box, aJ G zmh 6 yv, aZ G zmt 6 yt, aI G zmu 16 yu, aZ G zme 16 ye, aJ G zma 16 ya, aJ G zmb 16 yb, aZ G zmk 8 yk, aJ G zmc 8 yc, aJ G zmd 8 yd, aJ G zmi 8 yi, aI G zmo 8 yo, aJ G zmf 5 yf, aJ G zmg 8 yg, aJ G zmn 16 yn] (fun (_ : Unit) => True) (fun _ => [ob zm 5 [.ref zmp, .ref zm1, .ref zm2, .ref zmx, .int (g_M_component_zm_4 ys k h), .ref zmh, .ref zmt, .int ys, .long yl, .long yr, .ref zmu, .ref zme, .ref zma, .ref zmb, .ref zmk, .ref zmc, .ref zmd, .ref zmi, .ref zmo, .ref zmf, .ref zmg, .ref zmn, .long yp, .long yq, .int yw, .long yx], aI G zmp 32 tb_perm, aI G zm1 56 tb_c1, aI G zm2 48 tb_c2, aI G zmx 512 tb_box, aJ G zmh 6 (g_M_component_zmh ys yv k h v), aZ G zmt 6 (g_M_component_zmt ys yt k h), aI G zmu 16 yu, aZ G zme 16 ye, aJ G zma 16 ya, aJ G zmb 16 yb, aZ G zmk 8 yk, aJ G zmc 8 yc, aJ G zmd 8 yd, aJ G zmi 8 yi, aI G zmo 8 yo, aJ G zmf 5 yf, aJ G zmg 8 yg, aJ G zmn 16 yn]) 0 0 := by
  refine Ct.of (Qp := fun A => va_Qv _ (qB G A _) A) Stb_0 (by decide) (Nat.le_of_ble_eq_true rfl) ?_
  intro p e s m args below meth c A X hE hr hlk hini
  refine pv_eql (ll2 := [(0, .ref zm), (1, .int k), (2, .int h), (3, .long v)]) rfl ?_
  refine pv_iload_n X 1 d_M_component_0 rfl ?_
  refine pv_i2l X d_M_component_1 ?_
  refine pv_lconst X 0 d_M_component_2 (by decide) ?_
  refine pv_ldc2_w X m_661 d_M_component_3 ?_
  refine pv_calli0 X (rn_S X (c_M_in l G k.toInt64 (0 : Int64) (2 : Int64)) trivial mf_M_in m_662 m_663 rfl (by decide) (by decide) rfl (Nat.le_of_ble_eq_true rfl) d_M_component_6) ?_
  refine pv_if_eq X 22 d_M_component_9 rfl (fun h2 => ?_) (fun h2n => ?_)
  · skip
    refine pv_iconst X 1 d_M_component_22 (by decide) ?_
    refine pv_goto X 27 d_M_component_23 rfl ?_
    refine pv_istore (ll2 := [(5, .int 1), (0, .ref zm), (1, .int k), (2, .int h), (3, .long v)]) X d_M_component_27 (by decide) rfl ?_
    refine pv_aload_n X 1 d_M_component_29 rfl ?_
    refine pv_iload X 0 d_M_component_30 rfl ?_
    refine pv_iload X 0 d_M_component_32 rfl ?_
    refine pv_if_ne X 48 d_M_component_34 rfl (fun _ => ?_) (fun h => absurd h (by decide))
    refine pv_iconst X 0 d_M_component_48 (by decide) ?_
    refine pv_calliE X (Cut.all _) (rn_V X (c_M_throwing l G zm zmp zm1 zm2 zmx zmh zmt zmu zme zma zmb zmk zmc zmd zmi zmo zmf zmg zmn th ys yl yr yv yt yu ye ya yb yk yc yd yi yo yf yg yn yp yq yw yx 1 0 ) trivial mf_M_throwing m_665 m_667 ms_12 rfl 0 rfl rfl rfl (by decide) (by decide) rfl (Nat.le_of_ble_eq_true rfl) d_M_component_49) (fun x3 => ?_)
    refine pv_eqw (ws2 := [ob zm 5 [.ref zmp, .ref zm1, .ref zm2, .ref zmx, .int (g_M_throwing_zm_4 1 0), .ref zmh, .ref zmt, .int ys, .long yl, .long yr, .ref zmu, .ref zme, .ref zma, .ref zmb, .ref zmk, .ref zmc, .ref zmd, .ref zmi, .ref zmo, .ref zmf, .ref zmg, .ref zmn, .long yp, .long yq, .int yw, .long yx], aI G zmp 32 tb_perm, aI G zm1 56 tb_c1, aI G zm2 48 tb_c2, aI G zmx 512 tb_box, aJ G zmh 6 yv, aZ G zmt 6 yt, aI G zmu 16 yu, aZ G zme 16 ye, aJ G zma 16 ya, aJ G zmb 16 yb, aZ G zmk 8 yk, aJ G zmc 8 yc, aJ G zmd 8 yd, aJ G zmi 8 yi, aI G zmo 8 yo, aJ G zmf 5 yf, aJ G zmg 8 yg, aJ G zmn 16 yn]) rfl ?_
    refine pv_if_eq X 56 d_M_component_52 rfl (fun h => absurd h (by decide)) (fun _ => ?_)
    exact pv_vret X hr hlk () trivial (by simp only [g_M_component_zm_4, g_M_component_zmh, g_M_component_zmt, if_pos h2]) d_M_component_55
  · skip
    refine pv_iload_n X 2 d_M_component_12 rfl ?_
    refine pv_i2l X d_M_component_13 ?_
    refine pv_lconst X 0 d_M_component_14 (by decide) ?_
    refine pv_lconst X 1 d_M_component_15 (by decide) ?_
    refine pv_calli0 X (rn_S X (c_M_in l G h.toInt64 (0 : Int64) (1 : Int64)) trivial mf_M_in m_662 m_663 rfl (by decide) (by decide) rfl (Nat.le_of_ble_eq_true rfl) d_M_component_16) ?_
    refine pv_if_ne X 26 d_M_component_19 rfl (fun h5 => ?_) (fun h5n => ?_)
    · skip
      refine pv_iconst X 0 d_M_component_26 (by decide) ?_
      refine pv_istore (ll2 := [(5, .int 0), (0, .ref zm), (1, .int k), (2, .int h), (3, .long v)]) X d_M_component_27 (by decide) rfl ?_
      refine pv_aload_n X 1 d_M_component_29 rfl ?_
      refine pv_iload X 0 d_M_component_30 rfl ?_
      refine pv_iload X 0 d_M_component_32 rfl ?_
      refine pv_if_ne X 48 d_M_component_34 rfl (fun h => absurd (by decide) h) (fun _ => ?_)
      refine pv_aload_n X 1 d_M_component_37 rfl ?_
      refine pv_get X 0 7 u_M_in m_581 rfl rfl (by decide) ⟨rfl, rfl, rfl⟩ rfl d_M_component_38 ?_
      refine pv_if_eq X 48 d_M_component_41 rfl (fun h6 => ?_) (fun h6n => ?_)
      · skip
        refine pv_iconst X 0 d_M_component_48 (by decide) ?_
        refine pv_calliE X (Cut.all _) (rn_V X (c_M_throwing l G zm zmp zm1 zm2 zmx zmh zmt zmu zme zma zmb zmk zmc zmd zmi zmo zmf zmg zmn th ys yl yr yv yt yu ye ya yb yk yc yd yi yo yf yg yn yp yq yw yx 0 0 ) trivial mf_M_throwing m_665 m_667 ms_12 rfl 0 rfl rfl rfl (by decide) (by decide) rfl (Nat.le_of_ble_eq_true rfl) d_M_component_49) (fun x7 => ?_)
        refine pv_eqw (ws2 := [ob zm 5 [.ref zmp, .ref zm1, .ref zm2, .ref zmx, .int (g_M_throwing_zm_4 0 0), .ref zmh, .ref zmt, .int ys, .long yl, .long yr, .ref zmu, .ref zme, .ref zma, .ref zmb, .ref zmk, .ref zmc, .ref zmd, .ref zmi, .ref zmo, .ref zmf, .ref zmg, .ref zmn, .long yp, .long yq, .int yw, .long yx], aI G zmp 32 tb_perm, aI G zm1 56 tb_c1, aI G zm2 48 tb_c2, aI G zmx 512 tb_box, aJ G zmh 6 yv, aZ G zmt 6 yt, aI G zmu 16 yu, aZ G zme 16 ye, aJ G zma 16 ya, aJ G zmb 16 yb, aZ G zmk 8 yk, aJ G zmc 8 yc, aJ G zmd 8 yd, aJ G zmi 8 yi, aI G zmo 8 yo, aJ G zmf 5 yf, aJ G zmg 8 yg, aJ G zmn 16 yn]) rfl ?_
        refine pv_if_eq X 56 d_M_component_52 rfl (fun _ => ?_) (fun h => absurd (by decide) h)
        refine pv_aload_n X 1 d_M_component_56 rfl ?_
        refine pv_get X 0 5 u_M_in m_579 rfl rfl (by decide) ⟨rfl, rfl, rfl⟩ rfl d_M_component_57 ?_
        refine pv_iconst X 2 d_M_component_60 (by decide) ?_
        refine pv_iload_n X 2 d_M_component_61 rfl ?_
        refine pv_imul X d_M_component_62 ?_
        refine pv_iload_n X 3 d_M_component_63 rfl ?_
        refine pv_iadd X d_M_component_64 ?_
        refine pv_lload_n X 4 d_M_component_65 rfl ?_
        refine pv_last (ws2 := [ob zm 5 [.ref zmp, .ref zm1, .ref zm2, .ref zmx, .int (g_M_throwing_zm_4 0 0), .ref zmh, .ref zmt, .int ys, .long yl, .long yr, .ref zmu, .ref zme, .ref zma, .ref zmb, .ref zmk, .ref zmc, .ref zmd, .ref zmi, .ref zmo, .ref zmf, .ref zmg, .ref zmn, .long yp, .long yq, .int yw, .long yx], aI G zmp 32 tb_perm, aI G zm1 56 tb_c1, aI G zm2 48 tb_c2, aI G zmx 512 tb_box, aJ G zmh 6 (vp_updL yv (((2 * k) + h).toNatClampNeg) v), aZ G zmt 6 yt, aI G zmu 16 yu, aZ G zme 16 ye, aJ G zma 16 ya, aJ G zmb 16 yb, aZ G zmk 8 yk, aJ G zmc 8 yc, aJ G zmd 8 yd, aJ G zmi 8 yi, aI G zmo 8 yo, aJ G zmf 5 yf, aJ G zmg 8 yg, aJ G zmn 16 yn]) X 5 rfl (comp2_in h2n h5) rfl d_M_component_66 ?_
        refine pv_aload_n X 1 d_M_component_67 rfl ?_
        refine pv_get X 0 6 u_M_in m_580 rfl rfl (by decide) ⟨rfl, rfl, rfl⟩ rfl d_M_component_68 ?_
        refine pv_iconst X 2 d_M_component_71 (by decide) ?_
        refine pv_iload_n X 2 d_M_component_72 rfl ?_
        refine pv_imul X d_M_component_73 ?_
        refine pv_iload_n X 3 d_M_component_74 rfl ?_
        refine pv_iadd X d_M_component_75 ?_
        refine pv_iconst X 1 d_M_component_76 (by decide) ?_
        refine pv_zast (ws2 := [ob zm 5 [.ref zmp, .ref zm1, .ref zm2, .ref zmx, .int (g_M_throwing_zm_4 0 0), .ref zmh, .ref zmt, .int ys, .long yl, .long yr, .ref zmu, .ref zme, .ref zma, .ref zmb, .ref zmk, .ref zmc, .ref zmd, .ref zmi, .ref zmo, .ref zmf, .ref zmg, .ref zmn, .long yp, .long yq, .int yw, .long yx], aI G zmp 32 tb_perm, aI G zm1 56 tb_c1, aI G zm2 48 tb_c2, aI G zmx 512 tb_box, aJ G zmh 6 (vp_updL yv (((2 * k) + h).toNatClampNeg) v), aZ G zmt 6 (upd yt (((2 * k) + h).toNatClampNeg) 1), aI G zmu 16 yu, aZ G zme 16 ye, aJ G zma 16 ya, aJ G zmb 16 yb, aZ G zmk 8 yk, aJ G zmc 8 yc, aJ G zmd 8 yd, aJ G zmi 8 yi, aI G zmo 8 yo, aJ G zmf 5 yf, aJ G zmg 8 yg, aJ G zmn 16 yn]) X 6 rfl (comp2_in h2n h5) rfl d_M_component_77 ?_
        exact pv_vret X hr hlk () trivial (by simp only [g_M_component_zm_4, g_M_component_zmh, g_M_component_zmt, if_neg h2n, if_neg h5, if_pos h6]) d_M_component_78
      · skip
        refine pv_iconst X 1 d_M_component_44 (by decide) ?_
        refine pv_goto X 49 d_M_component_45 rfl ?_
        refine pv_calliE X (Cut.all _) (rn_V X (c_M_throwing l G zm zmp zm1 zm2 zmx zmh zmt zmu zme zma zmb zmk zmc zmd zmi zmo zmf zmg zmn th ys yl yr yv yt yu ye ya yb yk yc yd yi yo yf yg yn yp yq yw yx 0 1 ) trivial mf_M_throwing m_665 m_667 ms_12 rfl 0 rfl rfl rfl (by decide) (by decide) rfl (Nat.le_of_ble_eq_true rfl) d_M_component_49) (fun x8 => ?_)
        refine pv_eqw (ws2 := [ob zm 5 [.ref zmp, .ref zm1, .ref zm2, .ref zmx, .int (g_M_throwing_zm_4 0 1), .ref zmh, .ref zmt, .int ys, .long yl, .long yr, .ref zmu, .ref zme, .ref zma, .ref zmb, .ref zmk, .ref zmc, .ref zmd, .ref zmi, .ref zmo, .ref zmf, .ref zmg, .ref zmn, .long yp, .long yq, .int yw, .long yx], aI G zmp 32 tb_perm, aI G zm1 56 tb_c1, aI G zm2 48 tb_c2, aI G zmx 512 tb_box, aJ G zmh 6 yv, aZ G zmt 6 yt, aI G zmu 16 yu, aZ G zme 16 ye, aJ G zma 16 ya, aJ G zmb 16 yb, aZ G zmk 8 yk, aJ G zmc 8 yc, aJ G zmd 8 yd, aJ G zmi 8 yi, aI G zmo 8 yo, aJ G zmf 5 yf, aJ G zmg 8 yg, aJ G zmn 16 yn]) rfl ?_
        refine pv_if_eq X 56 d_M_component_52 rfl (fun h => absurd h (by decide)) (fun _ => ?_)
        exact pv_vret X hr hlk () trivial (by simp only [g_M_component_zm_4, g_M_component_zmh, g_M_component_zmt, if_neg h2n, if_neg h5, if_neg h6n]) d_M_component_55
    · skip
      refine pv_iconst X 1 d_M_component_22 (by decide) ?_
      refine pv_goto X 27 d_M_component_23 rfl ?_
      refine pv_istore (ll2 := [(5, .int 1), (0, .ref zm), (1, .int k), (2, .int h), (3, .long v)]) X d_M_component_27 (by decide) rfl ?_
      refine pv_aload_n X 1 d_M_component_29 rfl ?_
      refine pv_iload X 0 d_M_component_30 rfl ?_
      refine pv_iload X 0 d_M_component_32 rfl ?_
      refine pv_if_ne X 48 d_M_component_34 rfl (fun _ => ?_) (fun h => absurd h (by decide))
      refine pv_iconst X 0 d_M_component_48 (by decide) ?_
      refine pv_calliE X (Cut.all _) (rn_V X (c_M_throwing l G zm zmp zm1 zm2 zmx zmh zmt zmu zme zma zmb zmk zmc zmd zmi zmo zmf zmg zmn th ys yl yr yv yt yu ye ya yb yk yc yd yi yo yf yg yn yp yq yw yx 1 0 ) trivial mf_M_throwing m_665 m_667 ms_12 rfl 0 rfl rfl rfl (by decide) (by decide) rfl (Nat.le_of_ble_eq_true rfl) d_M_component_49) (fun x9 => ?_)
      refine pv_eqw (ws2 := [ob zm 5 [.ref zmp, .ref zm1, .ref zm2, .ref zmx, .int (g_M_throwing_zm_4 1 0), .ref zmh, .ref zmt, .int ys, .long yl, .long yr, .ref zmu, .ref zme, .ref zma, .ref zmb, .ref zmk, .ref zmc, .ref zmd, .ref zmi, .ref zmo, .ref zmf, .ref zmg, .ref zmn, .long yp, .long yq, .int yw, .long yx], aI G zmp 32 tb_perm, aI G zm1 56 tb_c1, aI G zm2 48 tb_c2, aI G zmx 512 tb_box, aJ G zmh 6 yv, aZ G zmt 6 yt, aI G zmu 16 yu, aZ G zme 16 ye, aJ G zma 16 ya, aJ G zmb 16 yb, aZ G zmk 8 yk, aJ G zmc 8 yc, aJ G zmd 8 yd, aJ G zmi 8 yi, aI G zmo 8 yo, aJ G zmf 5 yf, aJ G zmg 8 yg, aJ G zmn 16 yn]) rfl ?_
      refine pv_if_eq X 56 d_M_component_52 rfl (fun h => absurd h (by decide)) (fun _ => ?_)
      exact pv_vret X hr hlk () trivial (by simp only [g_M_component_zm_4, g_M_component_zmh, g_M_component_zmt, if_neg h2n, if_pos h5n]) d_M_component_55
def f_M_seal (ys : Int32) (yv : Nat → Int64) (yt : Nat → Int32) : Int32 := if (yt 0) = 0 then 0 else (if (yt 1) = 0 then 0 else (if (yt 2) = 0 then 0 else (if (yt 3) = 0 then 0 else (if (yt 4) = 0 then 0 else (if (yt 5) = 0 then 0 else (if ys = 0 then (f_M_checkOf (f_M_odd (((yv 0) ^^^ (yv 2)) ^^^ (yv 4))) (f_M_odd (((yv 1) ^^^ (yv 3)) ^^^ (yv 5)))) else 0))))))
def g_M_seal_zm_4 (ys : Int32) (yt : Nat → Int32) : Int32 := if (yt 0) = 0 then (g_M_throwing_zm_4 1 0) else (if (yt 1) = 0 then (g_M_throwing_zm_4 1 0) else (if (yt 2) = 0 then (g_M_throwing_zm_4 1 0) else (if (yt 3) = 0 then (g_M_throwing_zm_4 1 0) else (if (yt 4) = 0 then (g_M_throwing_zm_4 1 0) else (if (yt 5) = 0 then (g_M_throwing_zm_4 1 0) else (if ys = 0 then (g_M_throwing_zm_4 0 0) else (g_M_throwing_zm_4 1 0)))))))
def g_M_seal_zm_7 (ys : Int32) (yt : Nat → Int32) : Int32 := if (yt 0) = 0 then ys else (if (yt 1) = 0 then ys else (if (yt 2) = 0 then ys else (if (yt 3) = 0 then ys else (if (yt 4) = 0 then ys else (if (yt 5) = 0 then ys else (if ys = 0 then 1 else ys))))))
def g_M_seal_zm_8 (ys : Int32) (yl : Int64) (yv : Nat → Int64) (yt : Nat → Int32) : Int64 := if (yt 0) = 0 then yl else (if (yt 1) = 0 then yl else (if (yt 2) = 0 then yl else (if (yt 3) = 0 then yl else (if (yt 4) = 0 then yl else (if (yt 5) = 0 then yl else (if ys = 0 then (f_M_odd (((yv 0) ^^^ (yv 2)) ^^^ (yv 4))) else yl))))))
def g_M_seal_zm_9 (ys : Int32) (yr : Int64) (yv : Nat → Int64) (yt : Nat → Int32) : Int64 := if (yt 0) = 0 then yr else (if (yt 1) = 0 then yr else (if (yt 2) = 0 then yr else (if (yt 3) = 0 then yr else (if (yt 4) = 0 then yr else (if (yt 5) = 0 then yr else (if ys = 0 then (f_M_odd (((yv 1) ^^^ (yv 3)) ^^^ (yv 5))) else yr))))))
def g_M_seal_zmn (ys : Int32) (yv : Nat → Int64) (yt : Nat → Int32) (yn : Nat → Int64) : Nat → Int64 := if (yt 0) = 0 then yn else (if (yt 1) = 0 then yn else (if (yt 2) = 0 then yn else (if (yt 3) = 0 then yn else (if (yt 4) = 0 then yn else (if (yt 5) = 0 then yn else (if ys = 0 then (g_M_checkOf_zmn yn (f_M_odd (((yv 0) ^^^ (yv 2)) ^^^ (yv 4))) (f_M_odd (((yv 1) ^^^ (yv 3)) ^^^ (yv 5)))) else yn))))))
abbrev rm_M_seal : Room := { frames := 5, cells := 0, slots := 0, locals := 140 }
theorem mf_M_seal : MF y_M_seal b_M_seal 3 (some .int) 0 := ⟨m_672, m_6, by decide, by decide, by decide +kernel⟩
theorem d_M_seal_0 : decode b_M_seal 0 = .ok (.iconst 1, 1) := by decide +kernel
theorem d_M_seal_1 : decode b_M_seal 1 = .ok (.istore_n 1, 1) := by decide +kernel
theorem d_M_seal_2 : decode b_M_seal 2 = .ok (.iconst 0, 1) := by decide +kernel
theorem d_M_seal_3 : decode b_M_seal 3 = .ok (.istore_n 2, 1) := by decide +kernel
theorem d_M_seal_4 : decode b_M_seal 4 = .ok (.iload_n 2, 1) := by decide +kernel
theorem d_M_seal_5 : decode b_M_seal 5 = .ok (.bipush 6, 2) := by decide +kernel
theorem d_M_seal_7 : decode b_M_seal 7 = .ok (.if_icmp .ge 28, 3) := by decide +kernel
theorem d_M_seal_10 : decode b_M_seal 10 = .ok (.iload_n 1, 1) := by decide +kernel
theorem d_M_seal_11 : decode b_M_seal 11 = .ok (.ifCond .eq 16, 3) := by decide +kernel
theorem d_M_seal_14 : decode b_M_seal 14 = .ok (.aload_n 0, 1) := by decide +kernel
theorem d_M_seal_15 : decode b_M_seal 15 = .ok (.getfield 26, 3) := by decide +kernel
theorem d_M_seal_18 : decode b_M_seal 18 = .ok (.iload_n 2, 1) := by decide +kernel
theorem d_M_seal_19 : decode b_M_seal 19 = .ok (.baload, 1) := by decide +kernel
theorem d_M_seal_20 : decode b_M_seal 20 = .ok (.ifCond .eq 7, 3) := by decide +kernel
theorem d_M_seal_23 : decode b_M_seal 23 = .ok (.iconst 1, 1) := by decide +kernel
theorem d_M_seal_24 : decode b_M_seal 24 = .ok (.goto 4, 3) := by decide +kernel
theorem d_M_seal_27 : decode b_M_seal 27 = .ok (.iconst 0, 1) := by decide +kernel
theorem d_M_seal_28 : decode b_M_seal 28 = .ok (.istore_n 1, 1) := by decide +kernel
theorem d_M_seal_29 : decode b_M_seal 29 = .ok (.iinc 2 1, 3) := by decide +kernel
theorem d_M_seal_32 : decode b_M_seal 32 = .ok (.goto (-28), 3) := by decide +kernel
theorem d_M_seal_35 : decode b_M_seal 35 = .ok (.aload_n 0, 1) := by decide +kernel
theorem d_M_seal_36 : decode b_M_seal 36 = .ok (.iload_n 1, 1) := by decide +kernel
theorem d_M_seal_37 : decode b_M_seal 37 = .ok (.ifCond .eq 10, 3) := by decide +kernel
theorem d_M_seal_40 : decode b_M_seal 40 = .ok (.aload_n 0, 1) := by decide +kernel
theorem d_M_seal_41 : decode b_M_seal 41 = .ok (.getfield 108, 3) := by decide +kernel
theorem d_M_seal_44 : decode b_M_seal 44 = .ok (.ifCond .eq 7, 3) := by decide +kernel
theorem d_M_seal_47 : decode b_M_seal 47 = .ok (.iconst 1, 1) := by decide +kernel
theorem d_M_seal_48 : decode b_M_seal 48 = .ok (.goto 4, 3) := by decide +kernel
theorem d_M_seal_51 : decode b_M_seal 51 = .ok (.iconst 0, 1) := by decide +kernel
theorem d_M_seal_52 : decode b_M_seal 52 = .ok (.iconst 0, 1) := by decide +kernel
theorem d_M_seal_53 : decode b_M_seal 53 = .ok (.invokevirtual 112, 3) := by decide +kernel
theorem d_M_seal_56 : decode b_M_seal 56 = .ok (.ifCond .eq 5, 3) := by decide +kernel
theorem d_M_seal_59 : decode b_M_seal 59 = .ok (.iconst 0, 1) := by decide +kernel
theorem d_M_seal_60 : decode b_M_seal 60 = .ok (.ireturn, 1) := by decide +kernel
theorem d_M_seal_61 : decode b_M_seal 61 = .ok (.aload_n 0, 1) := by decide +kernel
theorem d_M_seal_62 : decode b_M_seal 62 = .ok (.iconst 1, 1) := by decide +kernel
theorem d_M_seal_63 : decode b_M_seal 63 = .ok (.putfield 108, 3) := by decide +kernel
theorem d_M_seal_66 : decode b_M_seal 66 = .ok (.aload_n 0, 1) := by decide +kernel
theorem d_M_seal_67 : decode b_M_seal 67 = .ok (.aload_n 0, 1) := by decide +kernel
theorem d_M_seal_68 : decode b_M_seal 68 = .ok (.getfield 22, 3) := by decide +kernel
theorem d_M_seal_71 : decode b_M_seal 71 = .ok (.iconst 0, 1) := by decide +kernel
theorem d_M_seal_72 : decode b_M_seal 72 = .ok (.laload, 1) := by decide +kernel
theorem d_M_seal_73 : decode b_M_seal 73 = .ok (.aload_n 0, 1) := by decide +kernel
theorem d_M_seal_74 : decode b_M_seal 74 = .ok (.getfield 22, 3) := by decide +kernel
theorem d_M_seal_77 : decode b_M_seal 77 = .ok (.iconst 2, 1) := by decide +kernel
theorem d_M_seal_78 : decode b_M_seal 78 = .ok (.laload, 1) := by decide +kernel
theorem d_M_seal_79 : decode b_M_seal 79 = .ok (.lxor, 1) := by decide +kernel
theorem d_M_seal_80 : decode b_M_seal 80 = .ok (.aload_n 0, 1) := by decide +kernel
theorem d_M_seal_81 : decode b_M_seal 81 = .ok (.getfield 22, 3) := by decide +kernel
theorem d_M_seal_84 : decode b_M_seal 84 = .ok (.iconst 4, 1) := by decide +kernel
theorem d_M_seal_85 : decode b_M_seal 85 = .ok (.laload, 1) := by decide +kernel
theorem d_M_seal_86 : decode b_M_seal 86 = .ok (.lxor, 1) := by decide +kernel
theorem d_M_seal_87 : decode b_M_seal 87 = .ok (.invokestatic 116, 3) := by decide +kernel
theorem d_M_seal_90 : decode b_M_seal 90 = .ok (.putfield 120, 3) := by decide +kernel
theorem d_M_seal_93 : decode b_M_seal 93 = .ok (.aload_n 0, 1) := by decide +kernel
theorem d_M_seal_94 : decode b_M_seal 94 = .ok (.aload_n 0, 1) := by decide +kernel
theorem d_M_seal_95 : decode b_M_seal 95 = .ok (.getfield 22, 3) := by decide +kernel
theorem d_M_seal_98 : decode b_M_seal 98 = .ok (.iconst 1, 1) := by decide +kernel
theorem d_M_seal_99 : decode b_M_seal 99 = .ok (.laload, 1) := by decide +kernel
theorem d_M_seal_100 : decode b_M_seal 100 = .ok (.aload_n 0, 1) := by decide +kernel
theorem d_M_seal_101 : decode b_M_seal 101 = .ok (.getfield 22, 3) := by decide +kernel
theorem d_M_seal_104 : decode b_M_seal 104 = .ok (.iconst 3, 1) := by decide +kernel
theorem d_M_seal_105 : decode b_M_seal 105 = .ok (.laload, 1) := by decide +kernel
theorem d_M_seal_106 : decode b_M_seal 106 = .ok (.lxor, 1) := by decide +kernel
theorem d_M_seal_107 : decode b_M_seal 107 = .ok (.aload_n 0, 1) := by decide +kernel
theorem d_M_seal_108 : decode b_M_seal 108 = .ok (.getfield 22, 3) := by decide +kernel
theorem d_M_seal_111 : decode b_M_seal 111 = .ok (.iconst 5, 1) := by decide +kernel
theorem d_M_seal_112 : decode b_M_seal 112 = .ok (.laload, 1) := by decide +kernel
theorem d_M_seal_113 : decode b_M_seal 113 = .ok (.lxor, 1) := by decide +kernel
theorem d_M_seal_114 : decode b_M_seal 114 = .ok (.invokestatic 116, 3) := by decide +kernel
theorem d_M_seal_117 : decode b_M_seal 117 = .ok (.putfield 124, 3) := by decide +kernel
theorem d_M_seal_120 : decode b_M_seal 120 = .ok (.aload_n 0, 1) := by decide +kernel
theorem d_M_seal_121 : decode b_M_seal 121 = .ok (.aload_n 0, 1) := by decide +kernel
theorem d_M_seal_122 : decode b_M_seal 122 = .ok (.getfield 120, 3) := by decide +kernel
theorem d_M_seal_125 : decode b_M_seal 125 = .ok (.aload_n 0, 1) := by decide +kernel
theorem d_M_seal_126 : decode b_M_seal 126 = .ok (.getfield 124, 3) := by decide +kernel
theorem d_M_seal_129 : decode b_M_seal 129 = .ok (.invokevirtual 127, 3) := by decide +kernel
theorem d_M_seal_132 : decode b_M_seal 132 = .ok (.ireturn, 1) := by decide +kernel
set_option maxRecDepth 100000 in
set_option maxHeartbeats 4000000 in
theorem c_M_seal (l : Launch) (G : Gt) (zm zmp zm1 zm2 zmx zmh zmt zmu zme zma zmb zmk zmc zmd zmi zmo zmf zmg zmn : Nat) (th ys : Int32) (yl yr : Int64) (yv : Nat → Int64) (yt yu ye : Nat → Int32) (ya yb : Nat → Int64) (yk : Nat → Int32) (yc yd yi : Nat → Int64) (yo : Nat → Int32) (yf yg yn : Nat → Int64) (yp yq : Int64) (yw : Int32) (yx : Int64)  : CtI l G y_M_seal b_M_seal 3 (some .int) rm_M_seal E0 [.ref zm] [ob zm 5 [.ref zmp, .ref zm1, .ref zm2, .ref zmx, .int th, .ref zmh, .ref zmt, .int ys, .long yl, .long yr, .ref zmu, .ref zme, .ref zma, .ref zmb, .ref zmk, .ref zmc, .ref zmd, .ref zmi, .ref zmo, .ref zmf, .ref zmg, .ref zmn, .long yp, .long yq, .int yw, .long yx], aI G zmp 32 tb_perm, aI G zm1 56 tb_c1, aI G zm2 48 tb_c2, aI G zmx 512 tb_box, aJ G zmh 6 yv, aZ G zmt 6 yt, aI G zmu 16 yu, aZ G zme 16 ye, aJ G zma 16 ya, aJ G zmb 16 yb, aZ G zmk 8 yk, aJ G zmc 8 yc, aJ G zmd 8 yd, aJ G zmi 8 yi, aI G zmo 8 yo, aJ G zmf 5 yf, aJ G zmg 8 yg, aJ G zmn 16 yn] (fun r (_ : Unit) => r = f_M_seal ys yv yt) (fun _ => [ob zm 5 [.ref zmp, .ref zm1, .ref zm2, .ref zmx, .int (g_M_seal_zm_4 ys yt), .ref zmh, .ref zmt, .int (g_M_seal_zm_7 ys yt), .long (g_M_seal_zm_8 ys yl yv yt), .long (g_M_seal_zm_9 ys yr yv yt), .ref zmu, .ref zme, .ref zma, .ref zmb, .ref zmk, .ref zmc, .ref zmd, .ref zmi, .ref zmo, .ref zmf, .ref zmg, .ref zmn, .long yp, .long yq, .int yw, .long yx], aI G zmp 32 tb_perm, aI G zm1 56 tb_c1, aI G zm2 48 tb_c2, aI G zmx 512 tb_box, aJ G zmh 6 yv, aZ G zmt 6 yt, aI G zmu 16 yu, aZ G zme 16 ye, aJ G zma 16 ya, aJ G zmb 16 yb, aZ G zmk 8 yk, aJ G zmc 8 yc, aJ G zmd 8 yd, aJ G zmi 8 yi, aI G zmo 8 yo, aJ G zmf 5 yf, aJ G zmg 8 yg, aJ G zmn 16 (g_M_seal_zmn ys yv yt yn)]) 0 0 := by
  refine Ct.of (Qp := fun A => va_Qi _ (qB G A _) A) Stb_0 (by decide) (Nat.le_of_ble_eq_true rfl) ?_
  intro p e s m args below meth c A X hE hr hlk hini
  refine pv_eql (ll2 := [(0, .ref zm)]) rfl ?_
  refine pv_iconst X 1 d_M_seal_0 (by decide) ?_
  refine pv_istore_n (ll2 := [(1, .int 1), (0, .ref zm)]) X d_M_seal_1 (by decide) rfl ?_
  refine pv_iconst X 0 d_M_seal_2 (by decide) ?_
  refine pv_istore_n (ll2 := [(2, .int 0), (1, .int 1), (0, .ref zm)]) X d_M_seal_3 (by decide) rfl ?_
  refine pv_iload_n X 0 d_M_seal_4 rfl ?_
  refine pv_bipush X 6 d_M_seal_5 (by decide) ?_
  refine pv_icmp_ge X 35 d_M_seal_7 rfl (fun h => absurd h (by decide)) (fun _ => ?_)
  refine pv_iload_n X 1 d_M_seal_10 rfl ?_
  refine pv_if_eq X 27 d_M_seal_11 rfl (fun h => absurd h (by decide)) (fun _ => ?_)
  refine pv_aload_n X 2 d_M_seal_14 rfl ?_
  refine pv_get X 0 6 u_M_in m_580 rfl rfl (by decide) ⟨rfl, rfl, rfl⟩ rfl d_M_seal_15 ?_
  refine pv_iload_n X 0 d_M_seal_18 rfl ?_
  refine pv_zald X 6 rfl (by unfold vp_in; decide) d_M_seal_19 ?_
  refine pv_topi (yt 0) rfl ?_
  refine pv_if_eq X 27 d_M_seal_20 rfl (fun h1 => ?_) (fun h1n => ?_)
  · skip
    refine pv_iconst X 0 d_M_seal_27 (by decide) ?_
    refine pv_istore_n (ll2 := [(1, .int 0), (2, .int 0), (0, .ref zm)]) X d_M_seal_28 (by decide) rfl ?_
    refine pv_iinc (ll2 := [(2, .int 1), (1, .int 0), (0, .ref zm)]) X 1 (1) d_M_seal_29 rfl (by decide) (by decide) rfl ?_
    refine pv_goto X 4 d_M_seal_32 rfl ?_
    refine pv_iload_n X 0 d_M_seal_4 rfl ?_
    refine pv_bipush X 6 d_M_seal_5 (by decide) ?_
    refine pv_icmp_ge X 35 d_M_seal_7 rfl (fun h => absurd h (by decide)) (fun _ => ?_)
    refine pv_iload_n X 1 d_M_seal_10 rfl ?_
    refine pv_if_eq X 27 d_M_seal_11 rfl (fun _ => ?_) (fun h => absurd (by decide) h)
    refine pv_iconst X 0 d_M_seal_27 (by decide) ?_
    refine pv_istore_n (ll2 := [(1, .int 0), (2, .int 1), (0, .ref zm)]) X d_M_seal_28 (by decide) rfl ?_
    refine pv_iinc (ll2 := [(2, .int 2), (1, .int 0), (0, .ref zm)]) X 1 (2) d_M_seal_29 rfl (by decide) (by decide) rfl ?_
    refine pv_goto X 4 d_M_seal_32 rfl ?_
    refine pv_iload_n X 0 d_M_seal_4 rfl ?_
    refine pv_bipush X 6 d_M_seal_5 (by decide) ?_
    refine pv_icmp_ge X 35 d_M_seal_7 rfl (fun h => absurd h (by decide)) (fun _ => ?_)
    refine pv_iload_n X 1 d_M_seal_10 rfl ?_
    refine pv_if_eq X 27 d_M_seal_11 rfl (fun _ => ?_) (fun h => absurd (by decide) h)
    refine pv_iconst X 0 d_M_seal_27 (by decide) ?_
    refine pv_istore_n (ll2 := [(1, .int 0), (2, .int 2), (0, .ref zm)]) X d_M_seal_28 (by decide) rfl ?_
    refine pv_iinc (ll2 := [(2, .int 3), (1, .int 0), (0, .ref zm)]) X 1 (3) d_M_seal_29 rfl (by decide) (by decide) rfl ?_
    refine pv_goto X 4 d_M_seal_32 rfl ?_
    refine pv_iload_n X 0 d_M_seal_4 rfl ?_
    refine pv_bipush X 6 d_M_seal_5 (by decide) ?_
    refine pv_icmp_ge X 35 d_M_seal_7 rfl (fun h => absurd h (by decide)) (fun _ => ?_)
    refine pv_iload_n X 1 d_M_seal_10 rfl ?_
    refine pv_if_eq X 27 d_M_seal_11 rfl (fun _ => ?_) (fun h => absurd (by decide) h)
    refine pv_iconst X 0 d_M_seal_27 (by decide) ?_
    refine pv_istore_n (ll2 := [(1, .int 0), (2, .int 3), (0, .ref zm)]) X d_M_seal_28 (by decide) rfl ?_
    refine pv_iinc (ll2 := [(2, .int 4), (1, .int 0), (0, .ref zm)]) X 1 (4) d_M_seal_29 rfl (by decide) (by decide) rfl ?_
    refine pv_goto X 4 d_M_seal_32 rfl ?_
    refine pv_iload_n X 0 d_M_seal_4 rfl ?_
    refine pv_bipush X 6 d_M_seal_5 (by decide) ?_
    refine pv_icmp_ge X 35 d_M_seal_7 rfl (fun h => absurd h (by decide)) (fun _ => ?_)
    refine pv_iload_n X 1 d_M_seal_10 rfl ?_
    refine pv_if_eq X 27 d_M_seal_11 rfl (fun _ => ?_) (fun h => absurd (by decide) h)
    refine pv_iconst X 0 d_M_seal_27 (by decide) ?_
    refine pv_istore_n (ll2 := [(1, .int 0), (2, .int 4), (0, .ref zm)]) X d_M_seal_28 (by decide) rfl ?_
    refine pv_iinc (ll2 := [(2, .int 5), (1, .int 0), (0, .ref zm)]) X 1 (5) d_M_seal_29 rfl (by decide) (by decide) rfl ?_
    refine pv_goto X 4 d_M_seal_32 rfl ?_
    refine pv_iload_n X 0 d_M_seal_4 rfl ?_
    refine pv_bipush X 6 d_M_seal_5 (by decide) ?_
    refine pv_icmp_ge X 35 d_M_seal_7 rfl (fun h => absurd h (by decide)) (fun _ => ?_)
    refine pv_iload_n X 1 d_M_seal_10 rfl ?_
    refine pv_if_eq X 27 d_M_seal_11 rfl (fun _ => ?_) (fun h => absurd (by decide) h)
    refine pv_iconst X 0 d_M_seal_27 (by decide) ?_
    refine pv_istore_n (ll2 := [(1, .int 0), (2, .int 5), (0, .ref zm)]) X d_M_seal_28 (by decide) rfl ?_
    refine pv_iinc (ll2 := [(2, .int 6), (1, .int 0), (0, .ref zm)]) X 1 (6) d_M_seal_29 rfl (by decide) (by decide) rfl ?_
    refine pv_goto X 4 d_M_seal_32 rfl ?_
    refine pv_iload_n X 0 d_M_seal_4 rfl ?_
    refine pv_bipush X 6 d_M_seal_5 (by decide) ?_
    refine pv_icmp_ge X 35 d_M_seal_7 rfl (fun _ => ?_) (fun h => absurd (by decide) h)
    refine pv_aload_n X 2 d_M_seal_35 rfl ?_
    refine pv_iload_n X 1 d_M_seal_36 rfl ?_
    refine pv_if_eq X 47 d_M_seal_37 rfl (fun _ => ?_) (fun h => absurd (by decide) h)
    refine pv_iconst X 1 d_M_seal_47 (by decide) ?_
    refine pv_goto X 52 d_M_seal_48 rfl ?_
    refine pv_iconst X 0 d_M_seal_52 (by decide) ?_
    refine pv_calliE X (Cut.all _) (rn_V X (c_M_throwing l G zm zmp zm1 zm2 zmx zmh zmt zmu zme zma zmb zmk zmc zmd zmi zmo zmf zmg zmn th ys yl yr yv yt yu ye ya yb yk yc yd yi yo yf yg yn yp yq yw yx 1 0 ) trivial mf_M_throwing m_665 m_667 ms_12 rfl 0 rfl rfl rfl (by decide) (by decide) rfl (Nat.le_of_ble_eq_true rfl) d_M_seal_53) (fun x2 => ?_)
    refine pv_eqw (ws2 := [ob zm 5 [.ref zmp, .ref zm1, .ref zm2, .ref zmx, .int (g_M_throwing_zm_4 1 0), .ref zmh, .ref zmt, .int ys, .long yl, .long yr, .ref zmu, .ref zme, .ref zma, .ref zmb, .ref zmk, .ref zmc, .ref zmd, .ref zmi, .ref zmo, .ref zmf, .ref zmg, .ref zmn, .long yp, .long yq, .int yw, .long yx], aI G zmp 32 tb_perm, aI G zm1 56 tb_c1, aI G zm2 48 tb_c2, aI G zmx 512 tb_box, aJ G zmh 6 yv, aZ G zmt 6 yt, aI G zmu 16 yu, aZ G zme 16 ye, aJ G zma 16 ya, aJ G zmb 16 yb, aZ G zmk 8 yk, aJ G zmc 8 yc, aJ G zmd 8 yd, aJ G zmi 8 yi, aI G zmo 8 yo, aJ G zmf 5 yf, aJ G zmg 8 yg, aJ G zmn 16 yn]) rfl ?_
    refine pv_if_eq X 61 d_M_seal_56 rfl (fun h => absurd h (by decide)) (fun _ => ?_)
    refine pv_iconst X 0 d_M_seal_59 (by decide) ?_
    exact pv_iret X hr hlk () (by show _ = f_M_seal ys yv yt; simp only [f_M_seal, if_pos h1]) (by simp only [g_M_seal_zm_4, g_M_seal_zm_7, g_M_seal_zm_8, g_M_seal_zm_9, g_M_seal_zmn, if_pos h1]) d_M_seal_60
  · skip
    refine pv_iconst X 1 d_M_seal_23 (by decide) ?_
    refine pv_goto X 28 d_M_seal_24 rfl ?_
    refine pv_istore_n (ll2 := [(1, .int 1), (2, .int 0), (0, .ref zm)]) X d_M_seal_28 (by decide) rfl ?_
    refine pv_iinc (ll2 := [(2, .int 1), (1, .int 1), (0, .ref zm)]) X 1 (1) d_M_seal_29 rfl (by decide) (by decide) rfl ?_
    refine pv_goto X 4 d_M_seal_32 rfl ?_
    refine pv_iload_n X 0 d_M_seal_4 rfl ?_
    refine pv_bipush X 6 d_M_seal_5 (by decide) ?_
    refine pv_icmp_ge X 35 d_M_seal_7 rfl (fun h => absurd h (by decide)) (fun _ => ?_)
    refine pv_iload_n X 1 d_M_seal_10 rfl ?_
    refine pv_if_eq X 27 d_M_seal_11 rfl (fun h => absurd h (by decide)) (fun _ => ?_)
    refine pv_aload_n X 2 d_M_seal_14 rfl ?_
    refine pv_get X 0 6 u_M_in m_580 rfl rfl (by decide) ⟨rfl, rfl, rfl⟩ rfl d_M_seal_15 ?_
    refine pv_iload_n X 0 d_M_seal_18 rfl ?_
    refine pv_zald X 6 rfl (by unfold vp_in; decide) d_M_seal_19 ?_
    refine pv_topi (yt 1) rfl ?_
    refine pv_if_eq X 27 d_M_seal_20 rfl (fun h3 => ?_) (fun h3n => ?_)
    · skip
      refine pv_iconst X 0 d_M_seal_27 (by decide) ?_
      refine pv_istore_n (ll2 := [(1, .int 0), (2, .int 1), (0, .ref zm)]) X d_M_seal_28 (by decide) rfl ?_
      refine pv_iinc (ll2 := [(2, .int 2), (1, .int 0), (0, .ref zm)]) X 1 (2) d_M_seal_29 rfl (by decide) (by decide) rfl ?_
      refine pv_goto X 4 d_M_seal_32 rfl ?_
      refine pv_iload_n X 0 d_M_seal_4 rfl ?_
      refine pv_bipush X 6 d_M_seal_5 (by decide) ?_
      refine pv_icmp_ge X 35 d_M_seal_7 rfl (fun h => absurd h (by decide)) (fun _ => ?_)
      refine pv_iload_n X 1 d_M_seal_10 rfl ?_
      refine pv_if_eq X 27 d_M_seal_11 rfl (fun _ => ?_) (fun h => absurd (by decide) h)
      refine pv_iconst X 0 d_M_seal_27 (by decide) ?_
      refine pv_istore_n (ll2 := [(1, .int 0), (2, .int 2), (0, .ref zm)]) X d_M_seal_28 (by decide) rfl ?_
      refine pv_iinc (ll2 := [(2, .int 3), (1, .int 0), (0, .ref zm)]) X 1 (3) d_M_seal_29 rfl (by decide) (by decide) rfl ?_
      refine pv_goto X 4 d_M_seal_32 rfl ?_
      refine pv_iload_n X 0 d_M_seal_4 rfl ?_
      refine pv_bipush X 6 d_M_seal_5 (by decide) ?_
      refine pv_icmp_ge X 35 d_M_seal_7 rfl (fun h => absurd h (by decide)) (fun _ => ?_)
      refine pv_iload_n X 1 d_M_seal_10 rfl ?_
      refine pv_if_eq X 27 d_M_seal_11 rfl (fun _ => ?_) (fun h => absurd (by decide) h)
      refine pv_iconst X 0 d_M_seal_27 (by decide) ?_
      refine pv_istore_n (ll2 := [(1, .int 0), (2, .int 3), (0, .ref zm)]) X d_M_seal_28 (by decide) rfl ?_
      refine pv_iinc (ll2 := [(2, .int 4), (1, .int 0), (0, .ref zm)]) X 1 (4) d_M_seal_29 rfl (by decide) (by decide) rfl ?_
      refine pv_goto X 4 d_M_seal_32 rfl ?_
      refine pv_iload_n X 0 d_M_seal_4 rfl ?_
      refine pv_bipush X 6 d_M_seal_5 (by decide) ?_
      refine pv_icmp_ge X 35 d_M_seal_7 rfl (fun h => absurd h (by decide)) (fun _ => ?_)
      refine pv_iload_n X 1 d_M_seal_10 rfl ?_
      refine pv_if_eq X 27 d_M_seal_11 rfl (fun _ => ?_) (fun h => absurd (by decide) h)
      refine pv_iconst X 0 d_M_seal_27 (by decide) ?_
      refine pv_istore_n (ll2 := [(1, .int 0), (2, .int 4), (0, .ref zm)]) X d_M_seal_28 (by decide) rfl ?_
      refine pv_iinc (ll2 := [(2, .int 5), (1, .int 0), (0, .ref zm)]) X 1 (5) d_M_seal_29 rfl (by decide) (by decide) rfl ?_
      refine pv_goto X 4 d_M_seal_32 rfl ?_
      refine pv_iload_n X 0 d_M_seal_4 rfl ?_
      refine pv_bipush X 6 d_M_seal_5 (by decide) ?_
      refine pv_icmp_ge X 35 d_M_seal_7 rfl (fun h => absurd h (by decide)) (fun _ => ?_)
      refine pv_iload_n X 1 d_M_seal_10 rfl ?_
      refine pv_if_eq X 27 d_M_seal_11 rfl (fun _ => ?_) (fun h => absurd (by decide) h)
      refine pv_iconst X 0 d_M_seal_27 (by decide) ?_
      refine pv_istore_n (ll2 := [(1, .int 0), (2, .int 5), (0, .ref zm)]) X d_M_seal_28 (by decide) rfl ?_
      refine pv_iinc (ll2 := [(2, .int 6), (1, .int 0), (0, .ref zm)]) X 1 (6) d_M_seal_29 rfl (by decide) (by decide) rfl ?_
      refine pv_goto X 4 d_M_seal_32 rfl ?_
      refine pv_iload_n X 0 d_M_seal_4 rfl ?_
      refine pv_bipush X 6 d_M_seal_5 (by decide) ?_
      refine pv_icmp_ge X 35 d_M_seal_7 rfl (fun _ => ?_) (fun h => absurd (by decide) h)
      refine pv_aload_n X 2 d_M_seal_35 rfl ?_
      refine pv_iload_n X 1 d_M_seal_36 rfl ?_
      refine pv_if_eq X 47 d_M_seal_37 rfl (fun _ => ?_) (fun h => absurd (by decide) h)
      refine pv_iconst X 1 d_M_seal_47 (by decide) ?_
      refine pv_goto X 52 d_M_seal_48 rfl ?_
      refine pv_iconst X 0 d_M_seal_52 (by decide) ?_
      refine pv_calliE X (Cut.all _) (rn_V X (c_M_throwing l G zm zmp zm1 zm2 zmx zmh zmt zmu zme zma zmb zmk zmc zmd zmi zmo zmf zmg zmn th ys yl yr yv yt yu ye ya yb yk yc yd yi yo yf yg yn yp yq yw yx 1 0 ) trivial mf_M_throwing m_665 m_667 ms_12 rfl 0 rfl rfl rfl (by decide) (by decide) rfl (Nat.le_of_ble_eq_true rfl) d_M_seal_53) (fun x4 => ?_)
      refine pv_eqw (ws2 := [ob zm 5 [.ref zmp, .ref zm1, .ref zm2, .ref zmx, .int (g_M_throwing_zm_4 1 0), .ref zmh, .ref zmt, .int ys, .long yl, .long yr, .ref zmu, .ref zme, .ref zma, .ref zmb, .ref zmk, .ref zmc, .ref zmd, .ref zmi, .ref zmo, .ref zmf, .ref zmg, .ref zmn, .long yp, .long yq, .int yw, .long yx], aI G zmp 32 tb_perm, aI G zm1 56 tb_c1, aI G zm2 48 tb_c2, aI G zmx 512 tb_box, aJ G zmh 6 yv, aZ G zmt 6 yt, aI G zmu 16 yu, aZ G zme 16 ye, aJ G zma 16 ya, aJ G zmb 16 yb, aZ G zmk 8 yk, aJ G zmc 8 yc, aJ G zmd 8 yd, aJ G zmi 8 yi, aI G zmo 8 yo, aJ G zmf 5 yf, aJ G zmg 8 yg, aJ G zmn 16 yn]) rfl ?_
      refine pv_if_eq X 61 d_M_seal_56 rfl (fun h => absurd h (by decide)) (fun _ => ?_)
      refine pv_iconst X 0 d_M_seal_59 (by decide) ?_
      exact pv_iret X hr hlk () (by show _ = f_M_seal ys yv yt; simp only [f_M_seal, if_neg h1n, if_pos h3]) (by simp only [g_M_seal_zm_4, g_M_seal_zm_7, g_M_seal_zm_8, g_M_seal_zm_9, g_M_seal_zmn, if_neg h1n, if_pos h3]) d_M_seal_60
    · skip
      refine pv_iconst X 1 d_M_seal_23 (by decide) ?_
      refine pv_goto X 28 d_M_seal_24 rfl ?_
      refine pv_istore_n (ll2 := [(1, .int 1), (2, .int 1), (0, .ref zm)]) X d_M_seal_28 (by decide) rfl ?_
      refine pv_iinc (ll2 := [(2, .int 2), (1, .int 1), (0, .ref zm)]) X 1 (2) d_M_seal_29 rfl (by decide) (by decide) rfl ?_
      refine pv_goto X 4 d_M_seal_32 rfl ?_
      refine pv_iload_n X 0 d_M_seal_4 rfl ?_
      refine pv_bipush X 6 d_M_seal_5 (by decide) ?_
      refine pv_icmp_ge X 35 d_M_seal_7 rfl (fun h => absurd h (by decide)) (fun _ => ?_)
      refine pv_iload_n X 1 d_M_seal_10 rfl ?_
      refine pv_if_eq X 27 d_M_seal_11 rfl (fun h => absurd h (by decide)) (fun _ => ?_)
      refine pv_aload_n X 2 d_M_seal_14 rfl ?_
      refine pv_get X 0 6 u_M_in m_580 rfl rfl (by decide) ⟨rfl, rfl, rfl⟩ rfl d_M_seal_15 ?_
      refine pv_iload_n X 0 d_M_seal_18 rfl ?_
      refine pv_zald X 6 rfl (by unfold vp_in; decide) d_M_seal_19 ?_
      refine pv_topi (yt 2) rfl ?_
      refine pv_if_eq X 27 d_M_seal_20 rfl (fun h5 => ?_) (fun h5n => ?_)
      · skip
        refine pv_iconst X 0 d_M_seal_27 (by decide) ?_
        refine pv_istore_n (ll2 := [(1, .int 0), (2, .int 2), (0, .ref zm)]) X d_M_seal_28 (by decide) rfl ?_
        refine pv_iinc (ll2 := [(2, .int 3), (1, .int 0), (0, .ref zm)]) X 1 (3) d_M_seal_29 rfl (by decide) (by decide) rfl ?_
        refine pv_goto X 4 d_M_seal_32 rfl ?_
        refine pv_iload_n X 0 d_M_seal_4 rfl ?_
        refine pv_bipush X 6 d_M_seal_5 (by decide) ?_
        refine pv_icmp_ge X 35 d_M_seal_7 rfl (fun h => absurd h (by decide)) (fun _ => ?_)
        refine pv_iload_n X 1 d_M_seal_10 rfl ?_
        refine pv_if_eq X 27 d_M_seal_11 rfl (fun _ => ?_) (fun h => absurd (by decide) h)
        refine pv_iconst X 0 d_M_seal_27 (by decide) ?_
        refine pv_istore_n (ll2 := [(1, .int 0), (2, .int 3), (0, .ref zm)]) X d_M_seal_28 (by decide) rfl ?_
        refine pv_iinc (ll2 := [(2, .int 4), (1, .int 0), (0, .ref zm)]) X 1 (4) d_M_seal_29 rfl (by decide) (by decide) rfl ?_
        refine pv_goto X 4 d_M_seal_32 rfl ?_
        refine pv_iload_n X 0 d_M_seal_4 rfl ?_
        refine pv_bipush X 6 d_M_seal_5 (by decide) ?_
        refine pv_icmp_ge X 35 d_M_seal_7 rfl (fun h => absurd h (by decide)) (fun _ => ?_)
        refine pv_iload_n X 1 d_M_seal_10 rfl ?_
        refine pv_if_eq X 27 d_M_seal_11 rfl (fun _ => ?_) (fun h => absurd (by decide) h)
        refine pv_iconst X 0 d_M_seal_27 (by decide) ?_
        refine pv_istore_n (ll2 := [(1, .int 0), (2, .int 4), (0, .ref zm)]) X d_M_seal_28 (by decide) rfl ?_
        refine pv_iinc (ll2 := [(2, .int 5), (1, .int 0), (0, .ref zm)]) X 1 (5) d_M_seal_29 rfl (by decide) (by decide) rfl ?_
        refine pv_goto X 4 d_M_seal_32 rfl ?_
        refine pv_iload_n X 0 d_M_seal_4 rfl ?_
        refine pv_bipush X 6 d_M_seal_5 (by decide) ?_
        refine pv_icmp_ge X 35 d_M_seal_7 rfl (fun h => absurd h (by decide)) (fun _ => ?_)
        refine pv_iload_n X 1 d_M_seal_10 rfl ?_
        refine pv_if_eq X 27 d_M_seal_11 rfl (fun _ => ?_) (fun h => absurd (by decide) h)
        refine pv_iconst X 0 d_M_seal_27 (by decide) ?_
        refine pv_istore_n (ll2 := [(1, .int 0), (2, .int 5), (0, .ref zm)]) X d_M_seal_28 (by decide) rfl ?_
        refine pv_iinc (ll2 := [(2, .int 6), (1, .int 0), (0, .ref zm)]) X 1 (6) d_M_seal_29 rfl (by decide) (by decide) rfl ?_
        refine pv_goto X 4 d_M_seal_32 rfl ?_
        refine pv_iload_n X 0 d_M_seal_4 rfl ?_
        refine pv_bipush X 6 d_M_seal_5 (by decide) ?_
        refine pv_icmp_ge X 35 d_M_seal_7 rfl (fun _ => ?_) (fun h => absurd (by decide) h)
        refine pv_aload_n X 2 d_M_seal_35 rfl ?_
        refine pv_iload_n X 1 d_M_seal_36 rfl ?_
        refine pv_if_eq X 47 d_M_seal_37 rfl (fun _ => ?_) (fun h => absurd (by decide) h)
        refine pv_iconst X 1 d_M_seal_47 (by decide) ?_
        refine pv_goto X 52 d_M_seal_48 rfl ?_
        refine pv_iconst X 0 d_M_seal_52 (by decide) ?_
        refine pv_calliE X (Cut.all _) (rn_V X (c_M_throwing l G zm zmp zm1 zm2 zmx zmh zmt zmu zme zma zmb zmk zmc zmd zmi zmo zmf zmg zmn th ys yl yr yv yt yu ye ya yb yk yc yd yi yo yf yg yn yp yq yw yx 1 0 ) trivial mf_M_throwing m_665 m_667 ms_12 rfl 0 rfl rfl rfl (by decide) (by decide) rfl (Nat.le_of_ble_eq_true rfl) d_M_seal_53) (fun x6 => ?_)
        refine pv_eqw (ws2 := [ob zm 5 [.ref zmp, .ref zm1, .ref zm2, .ref zmx, .int (g_M_throwing_zm_4 1 0), .ref zmh, .ref zmt, .int ys, .long yl, .long yr, .ref zmu, .ref zme, .ref zma, .ref zmb, .ref zmk, .ref zmc, .ref zmd, .ref zmi, .ref zmo, .ref zmf, .ref zmg, .ref zmn, .long yp, .long yq, .int yw, .long yx], aI G zmp 32 tb_perm, aI G zm1 56 tb_c1, aI G zm2 48 tb_c2, aI G zmx 512 tb_box, aJ G zmh 6 yv, aZ G zmt 6 yt, aI G zmu 16 yu, aZ G zme 16 ye, aJ G zma 16 ya, aJ G zmb 16 yb, aZ G zmk 8 yk, aJ G zmc 8 yc, aJ G zmd 8 yd, aJ G zmi 8 yi, aI G zmo 8 yo, aJ G zmf 5 yf, aJ G zmg 8 yg, aJ G zmn 16 yn]) rfl ?_
        refine pv_if_eq X 61 d_M_seal_56 rfl (fun h => absurd h (by decide)) (fun _ => ?_)
        refine pv_iconst X 0 d_M_seal_59 (by decide) ?_
        exact pv_iret X hr hlk () (by show _ = f_M_seal ys yv yt; simp only [f_M_seal, if_neg h1n, if_neg h3n, if_pos h5]) (by simp only [g_M_seal_zm_4, g_M_seal_zm_7, g_M_seal_zm_8, g_M_seal_zm_9, g_M_seal_zmn, if_neg h1n, if_neg h3n, if_pos h5]) d_M_seal_60
      · skip
        refine pv_iconst X 1 d_M_seal_23 (by decide) ?_
        refine pv_goto X 28 d_M_seal_24 rfl ?_
        refine pv_istore_n (ll2 := [(1, .int 1), (2, .int 2), (0, .ref zm)]) X d_M_seal_28 (by decide) rfl ?_
        refine pv_iinc (ll2 := [(2, .int 3), (1, .int 1), (0, .ref zm)]) X 1 (3) d_M_seal_29 rfl (by decide) (by decide) rfl ?_
        refine pv_goto X 4 d_M_seal_32 rfl ?_
        refine pv_iload_n X 0 d_M_seal_4 rfl ?_
        refine pv_bipush X 6 d_M_seal_5 (by decide) ?_
        refine pv_icmp_ge X 35 d_M_seal_7 rfl (fun h => absurd h (by decide)) (fun _ => ?_)
        refine pv_iload_n X 1 d_M_seal_10 rfl ?_
        refine pv_if_eq X 27 d_M_seal_11 rfl (fun h => absurd h (by decide)) (fun _ => ?_)
        refine pv_aload_n X 2 d_M_seal_14 rfl ?_
        refine pv_get X 0 6 u_M_in m_580 rfl rfl (by decide) ⟨rfl, rfl, rfl⟩ rfl d_M_seal_15 ?_
        refine pv_iload_n X 0 d_M_seal_18 rfl ?_
        refine pv_zald X 6 rfl (by unfold vp_in; decide) d_M_seal_19 ?_
        refine pv_topi (yt 3) rfl ?_
        refine pv_if_eq X 27 d_M_seal_20 rfl (fun h7 => ?_) (fun h7n => ?_)
        · skip
          refine pv_iconst X 0 d_M_seal_27 (by decide) ?_
          refine pv_istore_n (ll2 := [(1, .int 0), (2, .int 3), (0, .ref zm)]) X d_M_seal_28 (by decide) rfl ?_
          refine pv_iinc (ll2 := [(2, .int 4), (1, .int 0), (0, .ref zm)]) X 1 (4) d_M_seal_29 rfl (by decide) (by decide) rfl ?_
          refine pv_goto X 4 d_M_seal_32 rfl ?_
          refine pv_iload_n X 0 d_M_seal_4 rfl ?_
          refine pv_bipush X 6 d_M_seal_5 (by decide) ?_
          refine pv_icmp_ge X 35 d_M_seal_7 rfl (fun h => absurd h (by decide)) (fun _ => ?_)
          refine pv_iload_n X 1 d_M_seal_10 rfl ?_
          refine pv_if_eq X 27 d_M_seal_11 rfl (fun _ => ?_) (fun h => absurd (by decide) h)
          refine pv_iconst X 0 d_M_seal_27 (by decide) ?_
          refine pv_istore_n (ll2 := [(1, .int 0), (2, .int 4), (0, .ref zm)]) X d_M_seal_28 (by decide) rfl ?_
          refine pv_iinc (ll2 := [(2, .int 5), (1, .int 0), (0, .ref zm)]) X 1 (5) d_M_seal_29 rfl (by decide) (by decide) rfl ?_
          refine pv_goto X 4 d_M_seal_32 rfl ?_
          refine pv_iload_n X 0 d_M_seal_4 rfl ?_
          refine pv_bipush X 6 d_M_seal_5 (by decide) ?_
          refine pv_icmp_ge X 35 d_M_seal_7 rfl (fun h => absurd h (by decide)) (fun _ => ?_)
          refine pv_iload_n X 1 d_M_seal_10 rfl ?_
          refine pv_if_eq X 27 d_M_seal_11 rfl (fun _ => ?_) (fun h => absurd (by decide) h)
          refine pv_iconst X 0 d_M_seal_27 (by decide) ?_
          refine pv_istore_n (ll2 := [(1, .int 0), (2, .int 5), (0, .ref zm)]) X d_M_seal_28 (by decide) rfl ?_
          refine pv_iinc (ll2 := [(2, .int 6), (1, .int 0), (0, .ref zm)]) X 1 (6) d_M_seal_29 rfl (by decide) (by decide) rfl ?_
          refine pv_goto X 4 d_M_seal_32 rfl ?_
          refine pv_iload_n X 0 d_M_seal_4 rfl ?_
          refine pv_bipush X 6 d_M_seal_5 (by decide) ?_
          refine pv_icmp_ge X 35 d_M_seal_7 rfl (fun _ => ?_) (fun h => absurd (by decide) h)
          refine pv_aload_n X 2 d_M_seal_35 rfl ?_
          refine pv_iload_n X 1 d_M_seal_36 rfl ?_
          refine pv_if_eq X 47 d_M_seal_37 rfl (fun _ => ?_) (fun h => absurd (by decide) h)
          refine pv_iconst X 1 d_M_seal_47 (by decide) ?_
          refine pv_goto X 52 d_M_seal_48 rfl ?_
          refine pv_iconst X 0 d_M_seal_52 (by decide) ?_
          refine pv_calliE X (Cut.all _) (rn_V X (c_M_throwing l G zm zmp zm1 zm2 zmx zmh zmt zmu zme zma zmb zmk zmc zmd zmi zmo zmf zmg zmn th ys yl yr yv yt yu ye ya yb yk yc yd yi yo yf yg yn yp yq yw yx 1 0 ) trivial mf_M_throwing m_665 m_667 ms_12 rfl 0 rfl rfl rfl (by decide) (by decide) rfl (Nat.le_of_ble_eq_true rfl) d_M_seal_53) (fun x8 => ?_)
          refine pv_eqw (ws2 := [ob zm 5 [.ref zmp, .ref zm1, .ref zm2, .ref zmx, .int (g_M_throwing_zm_4 1 0), .ref zmh, .ref zmt, .int ys, .long yl, .long yr, .ref zmu, .ref zme, .ref zma, .ref zmb, .ref zmk, .ref zmc, .ref zmd, .ref zmi, .ref zmo, .ref zmf, .ref zmg, .ref zmn, .long yp, .long yq, .int yw, .long yx], aI G zmp 32 tb_perm, aI G zm1 56 tb_c1, aI G zm2 48 tb_c2, aI G zmx 512 tb_box, aJ G zmh 6 yv, aZ G zmt 6 yt, aI G zmu 16 yu, aZ G zme 16 ye, aJ G zma 16 ya, aJ G zmb 16 yb, aZ G zmk 8 yk, aJ G zmc 8 yc, aJ G zmd 8 yd, aJ G zmi 8 yi, aI G zmo 8 yo, aJ G zmf 5 yf, aJ G zmg 8 yg, aJ G zmn 16 yn]) rfl ?_
          refine pv_if_eq X 61 d_M_seal_56 rfl (fun h => absurd h (by decide)) (fun _ => ?_)
          refine pv_iconst X 0 d_M_seal_59 (by decide) ?_
          exact pv_iret X hr hlk () (by show _ = f_M_seal ys yv yt; simp only [f_M_seal, if_neg h1n, if_neg h3n, if_neg h5n, if_pos h7]) (by simp only [g_M_seal_zm_4, g_M_seal_zm_7, g_M_seal_zm_8, g_M_seal_zm_9, g_M_seal_zmn, if_neg h1n, if_neg h3n, if_neg h5n, if_pos h7]) d_M_seal_60
        · skip
          refine pv_iconst X 1 d_M_seal_23 (by decide) ?_
          refine pv_goto X 28 d_M_seal_24 rfl ?_
          refine pv_istore_n (ll2 := [(1, .int 1), (2, .int 3), (0, .ref zm)]) X d_M_seal_28 (by decide) rfl ?_
          refine pv_iinc (ll2 := [(2, .int 4), (1, .int 1), (0, .ref zm)]) X 1 (4) d_M_seal_29 rfl (by decide) (by decide) rfl ?_
          refine pv_goto X 4 d_M_seal_32 rfl ?_
          refine pv_iload_n X 0 d_M_seal_4 rfl ?_
          refine pv_bipush X 6 d_M_seal_5 (by decide) ?_
          refine pv_icmp_ge X 35 d_M_seal_7 rfl (fun h => absurd h (by decide)) (fun _ => ?_)
          refine pv_iload_n X 1 d_M_seal_10 rfl ?_
          refine pv_if_eq X 27 d_M_seal_11 rfl (fun h => absurd h (by decide)) (fun _ => ?_)
          refine pv_aload_n X 2 d_M_seal_14 rfl ?_
          refine pv_get X 0 6 u_M_in m_580 rfl rfl (by decide) ⟨rfl, rfl, rfl⟩ rfl d_M_seal_15 ?_
          refine pv_iload_n X 0 d_M_seal_18 rfl ?_
          refine pv_zald X 6 rfl (by unfold vp_in; decide) d_M_seal_19 ?_
          refine pv_topi (yt 4) rfl ?_
          refine pv_if_eq X 27 d_M_seal_20 rfl (fun h9 => ?_) (fun h9n => ?_)
          · skip
            refine pv_iconst X 0 d_M_seal_27 (by decide) ?_
            refine pv_istore_n (ll2 := [(1, .int 0), (2, .int 4), (0, .ref zm)]) X d_M_seal_28 (by decide) rfl ?_
            refine pv_iinc (ll2 := [(2, .int 5), (1, .int 0), (0, .ref zm)]) X 1 (5) d_M_seal_29 rfl (by decide) (by decide) rfl ?_
            refine pv_goto X 4 d_M_seal_32 rfl ?_
            refine pv_iload_n X 0 d_M_seal_4 rfl ?_
            refine pv_bipush X 6 d_M_seal_5 (by decide) ?_
            refine pv_icmp_ge X 35 d_M_seal_7 rfl (fun h => absurd h (by decide)) (fun _ => ?_)
            refine pv_iload_n X 1 d_M_seal_10 rfl ?_
            refine pv_if_eq X 27 d_M_seal_11 rfl (fun _ => ?_) (fun h => absurd (by decide) h)
            refine pv_iconst X 0 d_M_seal_27 (by decide) ?_
            refine pv_istore_n (ll2 := [(1, .int 0), (2, .int 5), (0, .ref zm)]) X d_M_seal_28 (by decide) rfl ?_
            refine pv_iinc (ll2 := [(2, .int 6), (1, .int 0), (0, .ref zm)]) X 1 (6) d_M_seal_29 rfl (by decide) (by decide) rfl ?_
            refine pv_goto X 4 d_M_seal_32 rfl ?_
            refine pv_iload_n X 0 d_M_seal_4 rfl ?_
            refine pv_bipush X 6 d_M_seal_5 (by decide) ?_
            refine pv_icmp_ge X 35 d_M_seal_7 rfl (fun _ => ?_) (fun h => absurd (by decide) h)
            refine pv_aload_n X 2 d_M_seal_35 rfl ?_
            refine pv_iload_n X 1 d_M_seal_36 rfl ?_
            refine pv_if_eq X 47 d_M_seal_37 rfl (fun _ => ?_) (fun h => absurd (by decide) h)
            refine pv_iconst X 1 d_M_seal_47 (by decide) ?_
            refine pv_goto X 52 d_M_seal_48 rfl ?_
            refine pv_iconst X 0 d_M_seal_52 (by decide) ?_
            refine pv_calliE X (Cut.all _) (rn_V X (c_M_throwing l G zm zmp zm1 zm2 zmx zmh zmt zmu zme zma zmb zmk zmc zmd zmi zmo zmf zmg zmn th ys yl yr yv yt yu ye ya yb yk yc yd yi yo yf yg yn yp yq yw yx 1 0 ) trivial mf_M_throwing m_665 m_667 ms_12 rfl 0 rfl rfl rfl (by decide) (by decide) rfl (Nat.le_of_ble_eq_true rfl) d_M_seal_53) (fun x10 => ?_)
            refine pv_eqw (ws2 := [ob zm 5 [.ref zmp, .ref zm1, .ref zm2, .ref zmx, .int (g_M_throwing_zm_4 1 0), .ref zmh, .ref zmt, .int ys, .long yl, .long yr, .ref zmu, .ref zme, .ref zma, .ref zmb, .ref zmk, .ref zmc, .ref zmd, .ref zmi, .ref zmo, .ref zmf, .ref zmg, .ref zmn, .long yp, .long yq, .int yw, .long yx], aI G zmp 32 tb_perm, aI G zm1 56 tb_c1, aI G zm2 48 tb_c2, aI G zmx 512 tb_box, aJ G zmh 6 yv, aZ G zmt 6 yt, aI G zmu 16 yu, aZ G zme 16 ye, aJ G zma 16 ya, aJ G zmb 16 yb, aZ G zmk 8 yk, aJ G zmc 8 yc, aJ G zmd 8 yd, aJ G zmi 8 yi, aI G zmo 8 yo, aJ G zmf 5 yf, aJ G zmg 8 yg, aJ G zmn 16 yn]) rfl ?_
            refine pv_if_eq X 61 d_M_seal_56 rfl (fun h => absurd h (by decide)) (fun _ => ?_)
            refine pv_iconst X 0 d_M_seal_59 (by decide) ?_
            exact pv_iret X hr hlk () (by show _ = f_M_seal ys yv yt; simp only [f_M_seal, if_neg h1n, if_neg h3n, if_neg h5n, if_neg h7n, if_pos h9]) (by simp only [g_M_seal_zm_4, g_M_seal_zm_7, g_M_seal_zm_8, g_M_seal_zm_9, g_M_seal_zmn, if_neg h1n, if_neg h3n, if_neg h5n, if_neg h7n, if_pos h9]) d_M_seal_60
          · skip
            refine pv_iconst X 1 d_M_seal_23 (by decide) ?_
            refine pv_goto X 28 d_M_seal_24 rfl ?_
            refine pv_istore_n (ll2 := [(1, .int 1), (2, .int 4), (0, .ref zm)]) X d_M_seal_28 (by decide) rfl ?_
            refine pv_iinc (ll2 := [(2, .int 5), (1, .int 1), (0, .ref zm)]) X 1 (5) d_M_seal_29 rfl (by decide) (by decide) rfl ?_
            refine pv_goto X 4 d_M_seal_32 rfl ?_
            refine pv_iload_n X 0 d_M_seal_4 rfl ?_
            refine pv_bipush X 6 d_M_seal_5 (by decide) ?_
            refine pv_icmp_ge X 35 d_M_seal_7 rfl (fun h => absurd h (by decide)) (fun _ => ?_)
            refine pv_iload_n X 1 d_M_seal_10 rfl ?_
            refine pv_if_eq X 27 d_M_seal_11 rfl (fun h => absurd h (by decide)) (fun _ => ?_)
            refine pv_aload_n X 2 d_M_seal_14 rfl ?_
            refine pv_get X 0 6 u_M_in m_580 rfl rfl (by decide) ⟨rfl, rfl, rfl⟩ rfl d_M_seal_15 ?_
            refine pv_iload_n X 0 d_M_seal_18 rfl ?_
            refine pv_zald X 6 rfl (by unfold vp_in; decide) d_M_seal_19 ?_
            refine pv_topi (yt 5) rfl ?_
            refine pv_if_eq X 27 d_M_seal_20 rfl (fun h11 => ?_) (fun h11n => ?_)
            · skip
              refine pv_iconst X 0 d_M_seal_27 (by decide) ?_
              refine pv_istore_n (ll2 := [(1, .int 0), (2, .int 5), (0, .ref zm)]) X d_M_seal_28 (by decide) rfl ?_
              refine pv_iinc (ll2 := [(2, .int 6), (1, .int 0), (0, .ref zm)]) X 1 (6) d_M_seal_29 rfl (by decide) (by decide) rfl ?_
              refine pv_goto X 4 d_M_seal_32 rfl ?_
              refine pv_iload_n X 0 d_M_seal_4 rfl ?_
              refine pv_bipush X 6 d_M_seal_5 (by decide) ?_
              refine pv_icmp_ge X 35 d_M_seal_7 rfl (fun _ => ?_) (fun h => absurd (by decide) h)
              refine pv_aload_n X 2 d_M_seal_35 rfl ?_
              refine pv_iload_n X 1 d_M_seal_36 rfl ?_
              refine pv_if_eq X 47 d_M_seal_37 rfl (fun _ => ?_) (fun h => absurd (by decide) h)
              refine pv_iconst X 1 d_M_seal_47 (by decide) ?_
              refine pv_goto X 52 d_M_seal_48 rfl ?_
              refine pv_iconst X 0 d_M_seal_52 (by decide) ?_
              refine pv_calliE X (Cut.all _) (rn_V X (c_M_throwing l G zm zmp zm1 zm2 zmx zmh zmt zmu zme zma zmb zmk zmc zmd zmi zmo zmf zmg zmn th ys yl yr yv yt yu ye ya yb yk yc yd yi yo yf yg yn yp yq yw yx 1 0 ) trivial mf_M_throwing m_665 m_667 ms_12 rfl 0 rfl rfl rfl (by decide) (by decide) rfl (Nat.le_of_ble_eq_true rfl) d_M_seal_53) (fun x12 => ?_)
              refine pv_eqw (ws2 := [ob zm 5 [.ref zmp, .ref zm1, .ref zm2, .ref zmx, .int (g_M_throwing_zm_4 1 0), .ref zmh, .ref zmt, .int ys, .long yl, .long yr, .ref zmu, .ref zme, .ref zma, .ref zmb, .ref zmk, .ref zmc, .ref zmd, .ref zmi, .ref zmo, .ref zmf, .ref zmg, .ref zmn, .long yp, .long yq, .int yw, .long yx], aI G zmp 32 tb_perm, aI G zm1 56 tb_c1, aI G zm2 48 tb_c2, aI G zmx 512 tb_box, aJ G zmh 6 yv, aZ G zmt 6 yt, aI G zmu 16 yu, aZ G zme 16 ye, aJ G zma 16 ya, aJ G zmb 16 yb, aZ G zmk 8 yk, aJ G zmc 8 yc, aJ G zmd 8 yd, aJ G zmi 8 yi, aI G zmo 8 yo, aJ G zmf 5 yf, aJ G zmg 8 yg, aJ G zmn 16 yn]) rfl ?_
              refine pv_if_eq X 61 d_M_seal_56 rfl (fun h => absurd h (by decide)) (fun _ => ?_)
              refine pv_iconst X 0 d_M_seal_59 (by decide) ?_
              exact pv_iret X hr hlk () (by show _ = f_M_seal ys yv yt; simp only [f_M_seal, if_neg h1n, if_neg h3n, if_neg h5n, if_neg h7n, if_neg h9n, if_pos h11]) (by simp only [g_M_seal_zm_4, g_M_seal_zm_7, g_M_seal_zm_8, g_M_seal_zm_9, g_M_seal_zmn, if_neg h1n, if_neg h3n, if_neg h5n, if_neg h7n, if_neg h9n, if_pos h11]) d_M_seal_60
            · skip
              refine pv_iconst X 1 d_M_seal_23 (by decide) ?_
              refine pv_goto X 28 d_M_seal_24 rfl ?_
              refine pv_istore_n (ll2 := [(1, .int 1), (2, .int 5), (0, .ref zm)]) X d_M_seal_28 (by decide) rfl ?_
              refine pv_iinc (ll2 := [(2, .int 6), (1, .int 1), (0, .ref zm)]) X 1 (6) d_M_seal_29 rfl (by decide) (by decide) rfl ?_
              refine pv_goto X 4 d_M_seal_32 rfl ?_
              refine pv_iload_n X 0 d_M_seal_4 rfl ?_
              refine pv_bipush X 6 d_M_seal_5 (by decide) ?_
              refine pv_icmp_ge X 35 d_M_seal_7 rfl (fun _ => ?_) (fun h => absurd (by decide) h)
              refine pv_aload_n X 2 d_M_seal_35 rfl ?_
              refine pv_iload_n X 1 d_M_seal_36 rfl ?_
              refine pv_if_eq X 47 d_M_seal_37 rfl (fun h => absurd h (by decide)) (fun _ => ?_)
              refine pv_aload_n X 2 d_M_seal_40 rfl ?_
              refine pv_get X 0 7 u_M_in m_581 rfl rfl (by decide) ⟨rfl, rfl, rfl⟩ rfl d_M_seal_41 ?_
              refine pv_if_eq X 51 d_M_seal_44 rfl (fun h13 => ?_) (fun h13n => ?_)
              · skip
                refine pv_iconst X 0 d_M_seal_51 (by decide) ?_
                refine pv_iconst X 0 d_M_seal_52 (by decide) ?_
                refine pv_calliE X (Cut.all _) (rn_V X (c_M_throwing l G zm zmp zm1 zm2 zmx zmh zmt zmu zme zma zmb zmk zmc zmd zmi zmo zmf zmg zmn th ys yl yr yv yt yu ye ya yb yk yc yd yi yo yf yg yn yp yq yw yx 0 0 ) trivial mf_M_throwing m_665 m_667 ms_12 rfl 0 rfl rfl rfl (by decide) (by decide) rfl (Nat.le_of_ble_eq_true rfl) d_M_seal_53) (fun x14 => ?_)
                refine pv_eqw (ws2 := [ob zm 5 [.ref zmp, .ref zm1, .ref zm2, .ref zmx, .int (g_M_throwing_zm_4 0 0), .ref zmh, .ref zmt, .int ys, .long yl, .long yr, .ref zmu, .ref zme, .ref zma, .ref zmb, .ref zmk, .ref zmc, .ref zmd, .ref zmi, .ref zmo, .ref zmf, .ref zmg, .ref zmn, .long yp, .long yq, .int yw, .long yx], aI G zmp 32 tb_perm, aI G zm1 56 tb_c1, aI G zm2 48 tb_c2, aI G zmx 512 tb_box, aJ G zmh 6 yv, aZ G zmt 6 yt, aI G zmu 16 yu, aZ G zme 16 ye, aJ G zma 16 ya, aJ G zmb 16 yb, aZ G zmk 8 yk, aJ G zmc 8 yc, aJ G zmd 8 yd, aJ G zmi 8 yi, aI G zmo 8 yo, aJ G zmf 5 yf, aJ G zmg 8 yg, aJ G zmn 16 yn]) rfl ?_
                refine pv_if_eq X 61 d_M_seal_56 rfl (fun _ => ?_) (fun h => absurd (by decide) h)
                refine pv_aload_n X 2 d_M_seal_61 rfl ?_
                refine pv_iconst X 1 d_M_seal_62 (by decide) ?_
                refine pv_put X (ty := .boolean) (ws2 := [ob zm 5 [.ref zmp, .ref zm1, .ref zm2, .ref zmx, .int (g_M_throwing_zm_4 0 0), .ref zmh, .ref zmt, .int 1, .long yl, .long yr, .ref zmu, .ref zme, .ref zma, .ref zmb, .ref zmk, .ref zmc, .ref zmd, .ref zmi, .ref zmo, .ref zmf, .ref zmg, .ref zmn, .long yp, .long yq, .int yw, .long yx], aI G zmp 32 tb_perm, aI G zm1 56 tb_c1, aI G zm2 48 tb_c2, aI G zmx 512 tb_box, aJ G zmh 6 yv, aZ G zmt 6 yt, aI G zmu 16 yu, aZ G zme 16 ye, aJ G zma 16 ya, aJ G zmb 16 yb, aZ G zmk 8 yk, aJ G zmc 8 yc, aJ G zmd 8 yd, aJ G zmi 8 yi, aI G zmo 8 yo, aJ G zmf 5 yf, aJ G zmg 8 yg, aJ G zmn 16 yn]) 0 7 ty_M ty_M_ok n_M u_M_in m_581 rfl rfl (by decide) ⟨rfl, rfl, rfl⟩ rfl (by decide +kernel) rfl rfl (Nat.le_of_ble_eq_true rfl) rfl d_M_seal_63 ?_
                refine pv_aload_n X 2 d_M_seal_66 rfl ?_
                refine pv_aload_n X 2 d_M_seal_67 rfl ?_
                refine pv_get X 0 5 u_M_in m_579 rfl rfl (by decide) ⟨rfl, rfl, rfl⟩ rfl d_M_seal_68 ?_
                refine pv_iconst X 0 d_M_seal_71 (by decide) ?_
                refine pv_lald X 5 rfl (by unfold vp_in; decide) d_M_seal_72 ?_
                refine pv_topl (yv 0) rfl ?_
                refine pv_aload_n X 2 d_M_seal_73 rfl ?_
                refine pv_get X 0 5 u_M_in m_579 rfl rfl (by decide) ⟨rfl, rfl, rfl⟩ rfl d_M_seal_74 ?_
                refine pv_iconst X 2 d_M_seal_77 (by decide) ?_
                refine pv_lald X 5 rfl (by unfold vp_in; decide) d_M_seal_78 ?_
                refine pv_topl (yv 2) rfl ?_
                refine pv_lxor X d_M_seal_79 ?_
                refine pv_aload_n X 2 d_M_seal_80 rfl ?_
                refine pv_get X 0 5 u_M_in m_579 rfl rfl (by decide) ⟨rfl, rfl, rfl⟩ rfl d_M_seal_81 ?_
                refine pv_iconst X 4 d_M_seal_84 (by decide) ?_
                refine pv_lald X 5 rfl (by unfold vp_in; decide) d_M_seal_85 ?_
                refine pv_topl (yv 4) rfl ?_
                refine pv_lxor X d_M_seal_86 ?_
                refine pv_calll0 X (rn_S X (c_M_odd l G (((yv 0) ^^^ (yv 2)) ^^^ (yv 4))) trivial mf_M_odd m_673 m_674 rfl (by decide) (by decide) rfl (Nat.le_of_ble_eq_true rfl) d_M_seal_87) ?_
                refine pv_put X (ty := .long) (ws2 := [ob zm 5 [.ref zmp, .ref zm1, .ref zm2, .ref zmx, .int (g_M_throwing_zm_4 0 0), .ref zmh, .ref zmt, .int 1, .long (f_M_odd (((yv 0) ^^^ (yv 2)) ^^^ (yv 4))), .long yr, .ref zmu, .ref zme, .ref zma, .ref zmb, .ref zmk, .ref zmc, .ref zmd, .ref zmi, .ref zmo, .ref zmf, .ref zmg, .ref zmn, .long yp, .long yq, .int yw, .long yx], aI G zmp 32 tb_perm, aI G zm1 56 tb_c1, aI G zm2 48 tb_c2, aI G zmx 512 tb_box, aJ G zmh 6 yv, aZ G zmt 6 yt, aI G zmu 16 yu, aZ G zme 16 ye, aJ G zma 16 ya, aJ G zmb 16 yb, aZ G zmk 8 yk, aJ G zmc 8 yc, aJ G zmd 8 yd, aJ G zmi 8 yi, aI G zmo 8 yo, aJ G zmf 5 yf, aJ G zmg 8 yg, aJ G zmn 16 yn]) 0 8 ty_M ty_M_ok n_M u_M_in m_582 rfl rfl (by decide) ⟨rfl, rfl, rfl⟩ rfl (by decide +kernel) rfl rfl (Nat.le_of_ble_eq_true rfl) rfl d_M_seal_90 ?_
                refine pv_aload_n X 2 d_M_seal_93 rfl ?_
                refine pv_aload_n X 2 d_M_seal_94 rfl ?_
                refine pv_get X 0 5 u_M_in m_579 rfl rfl (by decide) ⟨rfl, rfl, rfl⟩ rfl d_M_seal_95 ?_
                refine pv_iconst X 1 d_M_seal_98 (by decide) ?_
                refine pv_lald X 5 rfl (by unfold vp_in; decide) d_M_seal_99 ?_
                refine pv_topl (yv 1) rfl ?_
                refine pv_aload_n X 2 d_M_seal_100 rfl ?_
                refine pv_get X 0 5 u_M_in m_579 rfl rfl (by decide) ⟨rfl, rfl, rfl⟩ rfl d_M_seal_101 ?_
                refine pv_iconst X 3 d_M_seal_104 (by decide) ?_
                refine pv_lald X 5 rfl (by unfold vp_in; decide) d_M_seal_105 ?_
                refine pv_topl (yv 3) rfl ?_
                refine pv_lxor X d_M_seal_106 ?_
                refine pv_aload_n X 2 d_M_seal_107 rfl ?_
                refine pv_get X 0 5 u_M_in m_579 rfl rfl (by decide) ⟨rfl, rfl, rfl⟩ rfl d_M_seal_108 ?_
                refine pv_iconst X 5 d_M_seal_111 (by decide) ?_
                refine pv_lald X 5 rfl (by unfold vp_in; decide) d_M_seal_112 ?_
                refine pv_topl (yv 5) rfl ?_
                refine pv_lxor X d_M_seal_113 ?_
                refine pv_calll0 X (rn_S X (c_M_odd l G (((yv 1) ^^^ (yv 3)) ^^^ (yv 5))) trivial mf_M_odd m_673 m_674 rfl (by decide) (by decide) rfl (Nat.le_of_ble_eq_true rfl) d_M_seal_114) ?_
                refine pv_put X (ty := .long) (ws2 := [ob zm 5 [.ref zmp, .ref zm1, .ref zm2, .ref zmx, .int (g_M_throwing_zm_4 0 0), .ref zmh, .ref zmt, .int 1, .long (f_M_odd (((yv 0) ^^^ (yv 2)) ^^^ (yv 4))), .long (f_M_odd (((yv 1) ^^^ (yv 3)) ^^^ (yv 5))), .ref zmu, .ref zme, .ref zma, .ref zmb, .ref zmk, .ref zmc, .ref zmd, .ref zmi, .ref zmo, .ref zmf, .ref zmg, .ref zmn, .long yp, .long yq, .int yw, .long yx], aI G zmp 32 tb_perm, aI G zm1 56 tb_c1, aI G zm2 48 tb_c2, aI G zmx 512 tb_box, aJ G zmh 6 yv, aZ G zmt 6 yt, aI G zmu 16 yu, aZ G zme 16 ye, aJ G zma 16 ya, aJ G zmb 16 yb, aZ G zmk 8 yk, aJ G zmc 8 yc, aJ G zmd 8 yd, aJ G zmi 8 yi, aI G zmo 8 yo, aJ G zmf 5 yf, aJ G zmg 8 yg, aJ G zmn 16 yn]) 0 9 ty_M ty_M_ok n_M u_M_in m_583 rfl rfl (by decide) ⟨rfl, rfl, rfl⟩ rfl (by decide +kernel) rfl rfl (Nat.le_of_ble_eq_true rfl) rfl d_M_seal_117 ?_
                refine pv_aload_n X 2 d_M_seal_120 rfl ?_
                refine pv_aload_n X 2 d_M_seal_121 rfl ?_
                refine pv_get X 0 8 u_M_in m_582 rfl rfl (by decide) ⟨rfl, rfl, rfl⟩ rfl d_M_seal_122 ?_
                refine pv_aload_n X 2 d_M_seal_125 rfl ?_
                refine pv_get X 0 9 u_M_in m_583 rfl rfl (by decide) ⟨rfl, rfl, rfl⟩ rfl d_M_seal_126 ?_
                refine pv_calliE X (Cut.all _) (rn_V X (c_M_checkOf l G zm zmp zm1 zm2 zmx zmh zmt zmu zme zma zmb zmk zmc zmd zmi zmo zmf zmg zmn (g_M_throwing_zm_4 0 0) 1 (f_M_odd (((yv 0) ^^^ (yv 2)) ^^^ (yv 4))) (f_M_odd (((yv 1) ^^^ (yv 3)) ^^^ (yv 5))) yv yt yu ye ya yb yk yc yd yi yo yf yg yn yp yq yw yx (f_M_odd (((yv 0) ^^^ (yv 2)) ^^^ (yv 4))) (f_M_odd (((yv 1) ^^^ (yv 3)) ^^^ (yv 5))) ) trivial mf_M_checkOf m_678 m_680 ms_13 rfl 0 rfl rfl rfl (by decide) (by decide) rfl (Nat.le_of_ble_eq_true rfl) d_M_seal_129) (fun x17 => ?_)
                refine pv_eqw (ws2 := [ob zm 5 [.ref zmp, .ref zm1, .ref zm2, .ref zmx, .int (g_M_throwing_zm_4 0 0), .ref zmh, .ref zmt, .int 1, .long (f_M_odd (((yv 0) ^^^ (yv 2)) ^^^ (yv 4))), .long (f_M_odd (((yv 1) ^^^ (yv 3)) ^^^ (yv 5))), .ref zmu, .ref zme, .ref zma, .ref zmb, .ref zmk, .ref zmc, .ref zmd, .ref zmi, .ref zmo, .ref zmf, .ref zmg, .ref zmn, .long yp, .long yq, .int yw, .long yx], aI G zmp 32 tb_perm, aI G zm1 56 tb_c1, aI G zm2 48 tb_c2, aI G zmx 512 tb_box, aJ G zmh 6 yv, aZ G zmt 6 yt, aI G zmu 16 yu, aZ G zme 16 ye, aJ G zma 16 ya, aJ G zmb 16 yb, aZ G zmk 8 yk, aJ G zmc 8 yc, aJ G zmd 8 yd, aJ G zmi 8 yi, aI G zmo 8 yo, aJ G zmf 5 yf, aJ G zmg 8 yg, aJ G zmn 16 (g_M_checkOf_zmn yn (f_M_odd (((yv 0) ^^^ (yv 2)) ^^^ (yv 4))) (f_M_odd (((yv 1) ^^^ (yv 3)) ^^^ (yv 5))))]) rfl ?_
                exact pv_iret X hr hlk () (by show _ = f_M_seal ys yv yt; simp only [f_M_seal, if_neg h1n, if_neg h3n, if_neg h5n, if_neg h7n, if_neg h9n, if_neg h11n, if_pos h13]) (by simp only [g_M_seal_zm_4, g_M_seal_zm_7, g_M_seal_zm_8, g_M_seal_zm_9, g_M_seal_zmn, if_neg h1n, if_neg h3n, if_neg h5n, if_neg h7n, if_neg h9n, if_neg h11n, if_pos h13]) d_M_seal_132
              · skip
                refine pv_iconst X 1 d_M_seal_47 (by decide) ?_
                refine pv_goto X 52 d_M_seal_48 rfl ?_
                refine pv_iconst X 0 d_M_seal_52 (by decide) ?_
                refine pv_calliE X (Cut.all _) (rn_V X (c_M_throwing l G zm zmp zm1 zm2 zmx zmh zmt zmu zme zma zmb zmk zmc zmd zmi zmo zmf zmg zmn th ys yl yr yv yt yu ye ya yb yk yc yd yi yo yf yg yn yp yq yw yx 1 0 ) trivial mf_M_throwing m_665 m_667 ms_12 rfl 0 rfl rfl rfl (by decide) (by decide) rfl (Nat.le_of_ble_eq_true rfl) d_M_seal_53) (fun x18 => ?_)
                refine pv_eqw (ws2 := [ob zm 5 [.ref zmp, .ref zm1, .ref zm2, .ref zmx, .int (g_M_throwing_zm_4 1 0), .ref zmh, .ref zmt, .int ys, .long yl, .long yr, .ref zmu, .ref zme, .ref zma, .ref zmb, .ref zmk, .ref zmc, .ref zmd, .ref zmi, .ref zmo, .ref zmf, .ref zmg, .ref zmn, .long yp, .long yq, .int yw, .long yx], aI G zmp 32 tb_perm, aI G zm1 56 tb_c1, aI G zm2 48 tb_c2, aI G zmx 512 tb_box, aJ G zmh 6 yv, aZ G zmt 6 yt, aI G zmu 16 yu, aZ G zme 16 ye, aJ G zma 16 ya, aJ G zmb 16 yb, aZ G zmk 8 yk, aJ G zmc 8 yc, aJ G zmd 8 yd, aJ G zmi 8 yi, aI G zmo 8 yo, aJ G zmf 5 yf, aJ G zmg 8 yg, aJ G zmn 16 yn]) rfl ?_
                refine pv_if_eq X 61 d_M_seal_56 rfl (fun h => absurd h (by decide)) (fun _ => ?_)
                refine pv_iconst X 0 d_M_seal_59 (by decide) ?_
                exact pv_iret X hr hlk () (by show _ = f_M_seal ys yv yt; simp only [f_M_seal, if_neg h1n, if_neg h3n, if_neg h5n, if_neg h7n, if_neg h9n, if_neg h11n, if_neg h13n]) (by simp only [g_M_seal_zm_4, g_M_seal_zm_7, g_M_seal_zm_8, g_M_seal_zm_9, g_M_seal_zmn, if_neg h1n, if_neg h3n, if_neg h5n, if_neg h7n, if_neg h9n, if_neg h11n, if_neg h13n]) d_M_seal_60
def g_M_poke_zm_4 (k : Int32) : Int32 := if (f_M_in k.toInt64 (0 : Int64) (4 : Int64)) = 0 then (g_M_throwing_zm_4 1 0) else (g_M_throwing_zm_4 0 0)
def g_M_poke_zmf (yf : Nat → Int64) (k : Int32) (v : Int64) : Nat → Int64 := if (f_M_in k.toInt64 (0 : Int64) (4 : Int64)) = 0 then yf else (vp_updL yf k.toNatClampNeg v)
abbrev rm_M_poke : Room := { frames := 1, cells := 0, slots := 0, locals := 25 }
theorem mf_M_poke : MF y_M_poke b_M_poke 4 none 2 := ⟨m_709, m_6, by decide, by decide, by decide +kernel⟩
theorem d_M_poke_0 : decode b_M_poke 0 = .ok (.aload_n 0, 1) := by decide +kernel
theorem d_M_poke_1 : decode b_M_poke 1 = .ok (.iload_n 1, 1) := by decide +kernel
theorem d_M_poke_2 : decode b_M_poke 2 = .ok (.i2l, 1) := by decide +kernel
theorem d_M_poke_3 : decode b_M_poke 3 = .ok (.lconst 0, 1) := by decide +kernel
theorem d_M_poke_4 : decode b_M_poke 4 = .ok (.ldc2_w 131, 3) := by decide +kernel
theorem d_M_poke_7 : decode b_M_poke 7 = .ok (.invokestatic 104, 3) := by decide +kernel
theorem d_M_poke_10 : decode b_M_poke 10 = .ok (.ifCond .ne 7, 3) := by decide +kernel
theorem d_M_poke_13 : decode b_M_poke 13 = .ok (.iconst 1, 1) := by decide +kernel
theorem d_M_poke_14 : decode b_M_poke 14 = .ok (.goto 4, 3) := by decide +kernel
theorem d_M_poke_17 : decode b_M_poke 17 = .ok (.iconst 0, 1) := by decide +kernel
theorem d_M_poke_18 : decode b_M_poke 18 = .ok (.iconst 0, 1) := by decide +kernel
theorem d_M_poke_19 : decode b_M_poke 19 = .ok (.invokevirtual 112, 3) := by decide +kernel
theorem d_M_poke_22 : decode b_M_poke 22 = .ok (.ifCond .eq 4, 3) := by decide +kernel
theorem d_M_poke_25 : decode b_M_poke 25 = .ok (.return_, 1) := by decide +kernel
theorem d_M_poke_26 : decode b_M_poke 26 = .ok (.aload_n 0, 1) := by decide +kernel
theorem d_M_poke_27 : decode b_M_poke 27 = .ok (.getfield 57, 3) := by decide +kernel
theorem d_M_poke_30 : decode b_M_poke 30 = .ok (.iload_n 1, 1) := by decide +kernel
theorem d_M_poke_31 : decode b_M_poke 31 = .ok (.lload_n 2, 1) := by decide +kernel
theorem d_M_poke_32 : decode b_M_poke 32 = .ok (.lastore, 1) := by decide +kernel
theorem d_M_poke_33 : decode b_M_poke 33 = .ok (.return_, 1) := by decide +kernel
set_option maxRecDepth 100000 in
set_option maxHeartbeats 4000000 in
theorem c_M_poke (l : Launch) (G : Gt) (zm zmp zm1 zm2 zmx zmh zmt zmu zme zma zmb zmk zmc zmd zmi zmo zmf zmg zmn : Nat) (th ys : Int32) (yl yr : Int64) (yv : Nat → Int64) (yt yu ye : Nat → Int32) (ya yb : Nat → Int64) (yk : Nat → Int32) (yc yd yi : Nat → Int64) (yo : Nat → Int32) (yf yg yn : Nat → Int64) (yp yq : Int64) (yw : Int32) (yx : Int64) (k : Int32) (v : Int64) : CtV l G y_M_poke b_M_poke 4 none rm_M_poke E0 [.ref zm, .int k, .long v] [ob zm 5 [.ref zmp, .ref zm1, .ref zm2, .ref zmx, .int th, .ref zmh, .ref zmt, .int ys, .long yl, .long yr, .ref zmu, .ref zme, .ref zma, .ref zmb, .ref zmk, .ref zmc, .ref zmd, .ref zmi, .ref zmo, .ref zmf, .ref zmg, .ref zmn, .long yp, .long yq, .int yw, .long yx], aI G zmp 32 tb_perm, aI G zm1 56 tb_c1, aI G zm2 48 tb_c2, aI G zmx 512 tb_box, aJ G zmh 6 yv, aZ G zmt 6 yt, aI G zmu 16 yu, aZ G zme 16 ye, aJ G zma 16 ya, aJ G zmb 16 yb, aZ G zmk 8 yk, aJ G zmc 8 yc, aJ G zmd 8 yd, aJ G zmi 8 yi, aI G zmo 8 yo, aJ G zmf 5 yf, aJ G zmg 8 yg, aJ G zmn 16 yn] (fun (_ : Unit) => True) (fun _ => [ob zm 5 [.ref zmp, .ref zm1, .ref zm2, .ref zmx, .int (g_M_poke_zm_4 k), .ref zmh, .ref zmt, .int ys, .long yl, .long yr, .ref zmu, .ref zme, .ref zma, .ref zmb, .ref zmk, .ref zmc, .ref zmd, .ref zmi, .ref zmo, .ref zmf, .ref zmg, .ref zmn, .long yp, .long yq, .int yw, .long yx], aI G zmp 32 tb_perm, aI G zm1 56 tb_c1, aI G zm2 48 tb_c2, aI G zmx 512 tb_box, aJ G zmh 6 yv, aZ G zmt 6 yt, aI G zmu 16 yu, aZ G zme 16 ye, aJ G zma 16 ya, aJ G zmb 16 yb, aZ G zmk 8 yk, aJ G zmc 8 yc, aJ G zmd 8 yd, aJ G zmi 8 yi, aI G zmo 8 yo, aJ G zmf 5 (g_M_poke_zmf yf k v), aJ G zmg 8 yg, aJ G zmn 16 yn]) 0 0 := by
  refine Ct.of (Qp := fun A => va_Qv _ (qB G A _) A) Stb_0 (by decide) (Nat.le_of_ble_eq_true rfl) ?_
  intro p e s m args below meth c A X hE hr hlk hini
  refine pv_eql (ll2 := [(0, .ref zm), (1, .int k), (2, .long v)]) rfl ?_
  refine pv_aload_n X 0 d_M_poke_0 rfl ?_
  refine pv_iload_n X 1 d_M_poke_1 rfl ?_
  refine pv_i2l X d_M_poke_2 ?_
  refine pv_lconst X 0 d_M_poke_3 (by decide) ?_
  refine pv_ldc2_w X m_710 d_M_poke_4 ?_
  refine pv_calli0 X (rn_S X (c_M_in l G k.toInt64 (0 : Int64) (4 : Int64)) trivial mf_M_in m_662 m_663 rfl (by decide) (by decide) rfl (Nat.le_of_ble_eq_true rfl) d_M_poke_7) ?_
  refine pv_if_ne X 17 d_M_poke_10 rfl (fun h2 => ?_) (fun h2n => ?_)
  · skip
    refine pv_iconst X 0 d_M_poke_17 (by decide) ?_
    refine pv_iconst X 0 d_M_poke_18 (by decide) ?_
    refine pv_calliE X (Cut.all _) (rn_V X (c_M_throwing l G zm zmp zm1 zm2 zmx zmh zmt zmu zme zma zmb zmk zmc zmd zmi zmo zmf zmg zmn th ys yl yr yv yt yu ye ya yb yk yc yd yi yo yf yg yn yp yq yw yx 0 0 ) trivial mf_M_throwing m_665 m_667 ms_12 rfl 0 rfl rfl rfl (by decide) (by decide) rfl (Nat.le_of_ble_eq_true rfl) d_M_poke_19) (fun x3 => ?_)
    refine pv_eqw (ws2 := [ob zm 5 [.ref zmp, .ref zm1, .ref zm2, .ref zmx, .int (g_M_throwing_zm_4 0 0), .ref zmh, .ref zmt, .int ys, .long yl, .long yr, .ref zmu, .ref zme, .ref zma, .ref zmb, .ref zmk, .ref zmc, .ref zmd, .ref zmi, .ref zmo, .ref zmf, .ref zmg, .ref zmn, .long yp, .long yq, .int yw, .long yx], aI G zmp 32 tb_perm, aI G zm1 56 tb_c1, aI G zm2 48 tb_c2, aI G zmx 512 tb_box, aJ G zmh 6 yv, aZ G zmt 6 yt, aI G zmu 16 yu, aZ G zme 16 ye, aJ G zma 16 ya, aJ G zmb 16 yb, aZ G zmk 8 yk, aJ G zmc 8 yc, aJ G zmd 8 yd, aJ G zmi 8 yi, aI G zmo 8 yo, aJ G zmf 5 yf, aJ G zmg 8 yg, aJ G zmn 16 yn]) rfl ?_
    refine pv_if_eq X 26 d_M_poke_22 rfl (fun _ => ?_) (fun h => absurd (by decide) h)
    refine pv_aload_n X 0 d_M_poke_26 rfl ?_
    refine pv_get X 0 19 u_M_in m_593 rfl rfl (by decide) ⟨rfl, rfl, rfl⟩ rfl d_M_poke_27 ?_
    refine pv_iload_n X 1 d_M_poke_30 rfl ?_
    refine pv_lload_n X 2 d_M_poke_31 rfl ?_
    refine pv_last (ws2 := [ob zm 5 [.ref zmp, .ref zm1, .ref zm2, .ref zmx, .int (g_M_throwing_zm_4 0 0), .ref zmh, .ref zmt, .int ys, .long yl, .long yr, .ref zmu, .ref zme, .ref zma, .ref zmb, .ref zmk, .ref zmc, .ref zmd, .ref zmi, .ref zmo, .ref zmf, .ref zmg, .ref zmn, .long yp, .long yq, .int yw, .long yx], aI G zmp 32 tb_perm, aI G zm1 56 tb_c1, aI G zm2 48 tb_c2, aI G zmx 512 tb_box, aJ G zmh 6 yv, aZ G zmt 6 yt, aI G zmu 16 yu, aZ G zme 16 ye, aJ G zma 16 ya, aJ G zmb 16 yb, aZ G zmk 8 yk, aJ G zmc 8 yc, aJ G zmd 8 yd, aJ G zmi 8 yi, aI G zmo 8 yo, aJ G zmf 5 (vp_updL yf k.toNatClampNeg v), aJ G zmg 8 yg, aJ G zmn 16 yn]) X 16 rfl (Min_vp (n := 5) rfl h2) rfl d_M_poke_32 ?_
    exact pv_vret X hr hlk () trivial (by simp only [g_M_poke_zm_4, g_M_poke_zmf, if_neg h2]) d_M_poke_33
  · skip
    refine pv_iconst X 1 d_M_poke_13 (by decide) ?_
    refine pv_goto X 18 d_M_poke_14 rfl ?_
    refine pv_iconst X 0 d_M_poke_18 (by decide) ?_
    refine pv_calliE X (Cut.all _) (rn_V X (c_M_throwing l G zm zmp zm1 zm2 zmx zmh zmt zmu zme zma zmb zmk zmc zmd zmi zmo zmf zmg zmn th ys yl yr yv yt yu ye ya yb yk yc yd yi yo yf yg yn yp yq yw yx 1 0 ) trivial mf_M_throwing m_665 m_667 ms_12 rfl 0 rfl rfl rfl (by decide) (by decide) rfl (Nat.le_of_ble_eq_true rfl) d_M_poke_19) (fun x4 => ?_)
    refine pv_eqw (ws2 := [ob zm 5 [.ref zmp, .ref zm1, .ref zm2, .ref zmx, .int (g_M_throwing_zm_4 1 0), .ref zmh, .ref zmt, .int ys, .long yl, .long yr, .ref zmu, .ref zme, .ref zma, .ref zmb, .ref zmk, .ref zmc, .ref zmd, .ref zmi, .ref zmo, .ref zmf, .ref zmg, .ref zmn, .long yp, .long yq, .int yw, .long yx], aI G zmp 32 tb_perm, aI G zm1 56 tb_c1, aI G zm2 48 tb_c2, aI G zmx 512 tb_box, aJ G zmh 6 yv, aZ G zmt 6 yt, aI G zmu 16 yu, aZ G zme 16 ye, aJ G zma 16 ya, aJ G zmb 16 yb, aZ G zmk 8 yk, aJ G zmc 8 yc, aJ G zmd 8 yd, aJ G zmi 8 yi, aI G zmo 8 yo, aJ G zmf 5 yf, aJ G zmg 8 yg, aJ G zmn 16 yn]) rfl ?_
    refine pv_if_eq X 26 d_M_poke_22 rfl (fun h => absurd h (by decide)) (fun _ => ?_)
    exact pv_vret X hr hlk () trivial (by simp only [g_M_poke_zm_4, g_M_poke_zmf, if_pos h2n]) d_M_poke_25
def f_M_peek (yf : Nat → Int64) (k : Int32) : Int64 := if (f_M_in k.toInt64 (0 : Int64) (4 : Int64)) = 0 then (0 : Int64) else (yf k.toNatClampNeg)
def g_M_peek_zm_4 (k : Int32) : Int32 := if (f_M_in k.toInt64 (0 : Int64) (4 : Int64)) = 0 then (g_M_throwing_zm_4 1 0) else (g_M_throwing_zm_4 0 0)
abbrev rm_M_peek : Room := { frames := 1, cells := 0, slots := 0, locals := 25 }
theorem mf_M_peek : MF y_M_peek b_M_peek 2 (some .long) 1 := ⟨m_714, m_6, by decide, by decide, by decide +kernel⟩
theorem d_M_peek_0 : decode b_M_peek 0 = .ok (.aload_n 0, 1) := by decide +kernel
theorem d_M_peek_1 : decode b_M_peek 1 = .ok (.iload_n 1, 1) := by decide +kernel
theorem d_M_peek_2 : decode b_M_peek 2 = .ok (.i2l, 1) := by decide +kernel
theorem d_M_peek_3 : decode b_M_peek 3 = .ok (.lconst 0, 1) := by decide +kernel
theorem d_M_peek_4 : decode b_M_peek 4 = .ok (.ldc2_w 131, 3) := by decide +kernel
theorem d_M_peek_7 : decode b_M_peek 7 = .ok (.invokestatic 104, 3) := by decide +kernel
theorem d_M_peek_10 : decode b_M_peek 10 = .ok (.ifCond .ne 7, 3) := by decide +kernel
theorem d_M_peek_13 : decode b_M_peek 13 = .ok (.iconst 1, 1) := by decide +kernel
theorem d_M_peek_14 : decode b_M_peek 14 = .ok (.goto 4, 3) := by decide +kernel
theorem d_M_peek_17 : decode b_M_peek 17 = .ok (.iconst 0, 1) := by decide +kernel
theorem d_M_peek_18 : decode b_M_peek 18 = .ok (.iconst 0, 1) := by decide +kernel
theorem d_M_peek_19 : decode b_M_peek 19 = .ok (.invokevirtual 112, 3) := by decide +kernel
theorem d_M_peek_22 : decode b_M_peek 22 = .ok (.ifCond .eq 5, 3) := by decide +kernel
theorem d_M_peek_25 : decode b_M_peek 25 = .ok (.lconst 0, 1) := by decide +kernel
theorem d_M_peek_26 : decode b_M_peek 26 = .ok (.lreturn, 1) := by decide +kernel
theorem d_M_peek_27 : decode b_M_peek 27 = .ok (.aload_n 0, 1) := by decide +kernel
theorem d_M_peek_28 : decode b_M_peek 28 = .ok (.getfield 57, 3) := by decide +kernel
theorem d_M_peek_31 : decode b_M_peek 31 = .ok (.iload_n 1, 1) := by decide +kernel
theorem d_M_peek_32 : decode b_M_peek 32 = .ok (.laload, 1) := by decide +kernel
theorem d_M_peek_33 : decode b_M_peek 33 = .ok (.lreturn, 1) := by decide +kernel
set_option maxRecDepth 100000 in
set_option maxHeartbeats 4000000 in
theorem c_M_peek (l : Launch) (G : Gt) (zm zmp zm1 zm2 zmx zmh zmt zmu zme zma zmb zmk zmc zmd zmi zmo zmf zmg zmn : Nat) (th ys : Int32) (yl yr : Int64) (yv : Nat → Int64) (yt yu ye : Nat → Int32) (ya yb : Nat → Int64) (yk : Nat → Int32) (yc yd yi : Nat → Int64) (yo : Nat → Int32) (yf yg yn : Nat → Int64) (yp yq : Int64) (yw : Int32) (yx : Int64) (k : Int32) : CtL l G y_M_peek b_M_peek 2 (some .long) rm_M_peek E0 [.ref zm, .int k] [ob zm 5 [.ref zmp, .ref zm1, .ref zm2, .ref zmx, .int th, .ref zmh, .ref zmt, .int ys, .long yl, .long yr, .ref zmu, .ref zme, .ref zma, .ref zmb, .ref zmk, .ref zmc, .ref zmd, .ref zmi, .ref zmo, .ref zmf, .ref zmg, .ref zmn, .long yp, .long yq, .int yw, .long yx], aI G zmp 32 tb_perm, aI G zm1 56 tb_c1, aI G zm2 48 tb_c2, aI G zmx 512 tb_box, aJ G zmh 6 yv, aZ G zmt 6 yt, aI G zmu 16 yu, aZ G zme 16 ye, aJ G zma 16 ya, aJ G zmb 16 yb, aZ G zmk 8 yk, aJ G zmc 8 yc, aJ G zmd 8 yd, aJ G zmi 8 yi, aI G zmo 8 yo, aJ G zmf 5 yf, aJ G zmg 8 yg, aJ G zmn 16 yn] (fun r (_ : Unit) => r = f_M_peek yf k) (fun _ => [ob zm 5 [.ref zmp, .ref zm1, .ref zm2, .ref zmx, .int (g_M_peek_zm_4 k), .ref zmh, .ref zmt, .int ys, .long yl, .long yr, .ref zmu, .ref zme, .ref zma, .ref zmb, .ref zmk, .ref zmc, .ref zmd, .ref zmi, .ref zmo, .ref zmf, .ref zmg, .ref zmn, .long yp, .long yq, .int yw, .long yx], aI G zmp 32 tb_perm, aI G zm1 56 tb_c1, aI G zm2 48 tb_c2, aI G zmx 512 tb_box, aJ G zmh 6 yv, aZ G zmt 6 yt, aI G zmu 16 yu, aZ G zme 16 ye, aJ G zma 16 ya, aJ G zmb 16 yb, aZ G zmk 8 yk, aJ G zmc 8 yc, aJ G zmd 8 yd, aJ G zmi 8 yi, aI G zmo 8 yo, aJ G zmf 5 yf, aJ G zmg 8 yg, aJ G zmn 16 yn]) 0 0 := by
  refine Ct.of (Qp := fun A => va_Ql _ (qB G A _) A) Stb_0 (by decide) (Nat.le_of_ble_eq_true rfl) ?_
  intro p e s m args below meth c A X hE hr hlk hini
  refine pv_eql (ll2 := [(0, .ref zm), (1, .int k)]) rfl ?_
  refine pv_aload_n X 0 d_M_peek_0 rfl ?_
  refine pv_iload_n X 1 d_M_peek_1 rfl ?_
  refine pv_i2l X d_M_peek_2 ?_
  refine pv_lconst X 0 d_M_peek_3 (by decide) ?_
  refine pv_ldc2_w X m_710 d_M_peek_4 ?_
  refine pv_calli0 X (rn_S X (c_M_in l G k.toInt64 (0 : Int64) (4 : Int64)) trivial mf_M_in m_662 m_663 rfl (by decide) (by decide) rfl (Nat.le_of_ble_eq_true rfl) d_M_peek_7) ?_
  refine pv_if_ne X 17 d_M_peek_10 rfl (fun h2 => ?_) (fun h2n => ?_)
  · skip
    refine pv_iconst X 0 d_M_peek_17 (by decide) ?_
    refine pv_iconst X 0 d_M_peek_18 (by decide) ?_
    refine pv_calliE X (Cut.all _) (rn_V X (c_M_throwing l G zm zmp zm1 zm2 zmx zmh zmt zmu zme zma zmb zmk zmc zmd zmi zmo zmf zmg zmn th ys yl yr yv yt yu ye ya yb yk yc yd yi yo yf yg yn yp yq yw yx 0 0 ) trivial mf_M_throwing m_665 m_667 ms_12 rfl 0 rfl rfl rfl (by decide) (by decide) rfl (Nat.le_of_ble_eq_true rfl) d_M_peek_19) (fun x3 => ?_)
    refine pv_eqw (ws2 := [ob zm 5 [.ref zmp, .ref zm1, .ref zm2, .ref zmx, .int (g_M_throwing_zm_4 0 0), .ref zmh, .ref zmt, .int ys, .long yl, .long yr, .ref zmu, .ref zme, .ref zma, .ref zmb, .ref zmk, .ref zmc, .ref zmd, .ref zmi, .ref zmo, .ref zmf, .ref zmg, .ref zmn, .long yp, .long yq, .int yw, .long yx], aI G zmp 32 tb_perm, aI G zm1 56 tb_c1, aI G zm2 48 tb_c2, aI G zmx 512 tb_box, aJ G zmh 6 yv, aZ G zmt 6 yt, aI G zmu 16 yu, aZ G zme 16 ye, aJ G zma 16 ya, aJ G zmb 16 yb, aZ G zmk 8 yk, aJ G zmc 8 yc, aJ G zmd 8 yd, aJ G zmi 8 yi, aI G zmo 8 yo, aJ G zmf 5 yf, aJ G zmg 8 yg, aJ G zmn 16 yn]) rfl ?_
    refine pv_if_eq X 27 d_M_peek_22 rfl (fun _ => ?_) (fun h => absurd (by decide) h)
    refine pv_aload_n X 0 d_M_peek_27 rfl ?_
    refine pv_get X 0 19 u_M_in m_593 rfl rfl (by decide) ⟨rfl, rfl, rfl⟩ rfl d_M_peek_28 ?_
    refine pv_iload_n X 1 d_M_peek_31 rfl ?_
    refine pv_lald X 16 rfl (Min_vp (n := 5) rfl h2) d_M_peek_32 ?_
    exact pv_lret X hr hlk () (by show _ = f_M_peek yf k; simp only [f_M_peek, if_neg h2]) (by simp only [g_M_peek_zm_4, if_neg h2]) d_M_peek_33
  · skip
    refine pv_iconst X 1 d_M_peek_13 (by decide) ?_
    refine pv_goto X 18 d_M_peek_14 rfl ?_
    refine pv_iconst X 0 d_M_peek_18 (by decide) ?_
    refine pv_calliE X (Cut.all _) (rn_V X (c_M_throwing l G zm zmp zm1 zm2 zmx zmh zmt zmu zme zma zmb zmk zmc zmd zmi zmo zmf zmg zmn th ys yl yr yv yt yu ye ya yb yk yc yd yi yo yf yg yn yp yq yw yx 1 0 ) trivial mf_M_throwing m_665 m_667 ms_12 rfl 0 rfl rfl rfl (by decide) (by decide) rfl (Nat.le_of_ble_eq_true rfl) d_M_peek_19) (fun x4 => ?_)
    refine pv_eqw (ws2 := [ob zm 5 [.ref zmp, .ref zm1, .ref zm2, .ref zmx, .int (g_M_throwing_zm_4 1 0), .ref zmh, .ref zmt, .int ys, .long yl, .long yr, .ref zmu, .ref zme, .ref zma, .ref zmb, .ref zmk, .ref zmc, .ref zmd, .ref zmi, .ref zmo, .ref zmf, .ref zmg, .ref zmn, .long yp, .long yq, .int yw, .long yx], aI G zmp 32 tb_perm, aI G zm1 56 tb_c1, aI G zm2 48 tb_c2, aI G zmx 512 tb_box, aJ G zmh 6 yv, aZ G zmt 6 yt, aI G zmu 16 yu, aZ G zme 16 ye, aJ G zma 16 ya, aJ G zmb 16 yb, aZ G zmk 8 yk, aJ G zmc 8 yc, aJ G zmd 8 yd, aJ G zmi 8 yi, aI G zmo 8 yo, aJ G zmf 5 yf, aJ G zmg 8 yg, aJ G zmn 16 yn]) rfl ?_
    refine pv_if_eq X 27 d_M_peek_22 rfl (fun h => absurd h (by decide)) (fun _ => ?_)
    refine pv_lconst X 0 d_M_peek_25 (by decide) ?_
    exact pv_lret X hr hlk () (by show _ = f_M_peek yf k; simp only [f_M_peek, if_pos h2n]) (by simp only [g_M_peek_zm_4, if_pos h2n]) d_M_peek_26
def g_M_message_zm_4 (k : Int32) : Int32 := if (f_M_in k.toInt64 (0 : Int64) (7 : Int64)) = 0 then (g_M_throwing_zm_4 1 0) else (g_M_throwing_zm_4 0 0)
def g_M_message_zmg (yg : Nat → Int64) (k : Int32) (v : Int64) : Nat → Int64 := if (f_M_in k.toInt64 (0 : Int64) (7 : Int64)) = 0 then yg else (vp_updL yg k.toNatClampNeg v)
abbrev rm_M_message : Room := { frames := 1, cells := 0, slots := 0, locals := 25 }
theorem mf_M_message : MF y_M_message b_M_message 4 none 2 := ⟨m_718, m_6, by decide, by decide, by decide +kernel⟩
theorem d_M_message_0 : decode b_M_message 0 = .ok (.aload_n 0, 1) := by decide +kernel
theorem d_M_message_1 : decode b_M_message 1 = .ok (.iload_n 1, 1) := by decide +kernel
theorem d_M_message_2 : decode b_M_message 2 = .ok (.i2l, 1) := by decide +kernel
theorem d_M_message_3 : decode b_M_message 3 = .ok (.lconst 0, 1) := by decide +kernel
theorem d_M_message_4 : decode b_M_message 4 = .ok (.ldc2_w 133, 3) := by decide +kernel
theorem d_M_message_7 : decode b_M_message 7 = .ok (.invokestatic 104, 3) := by decide +kernel
theorem d_M_message_10 : decode b_M_message 10 = .ok (.ifCond .ne 7, 3) := by decide +kernel
theorem d_M_message_13 : decode b_M_message 13 = .ok (.iconst 1, 1) := by decide +kernel
theorem d_M_message_14 : decode b_M_message 14 = .ok (.goto 4, 3) := by decide +kernel
theorem d_M_message_17 : decode b_M_message 17 = .ok (.iconst 0, 1) := by decide +kernel
theorem d_M_message_18 : decode b_M_message 18 = .ok (.iconst 0, 1) := by decide +kernel
theorem d_M_message_19 : decode b_M_message 19 = .ok (.invokevirtual 112, 3) := by decide +kernel
theorem d_M_message_22 : decode b_M_message 22 = .ok (.ifCond .eq 4, 3) := by decide +kernel
theorem d_M_message_25 : decode b_M_message 25 = .ok (.return_, 1) := by decide +kernel
theorem d_M_message_26 : decode b_M_message 26 = .ok (.aload_n 0, 1) := by decide +kernel
theorem d_M_message_27 : decode b_M_message 27 = .ok (.getfield 60, 3) := by decide +kernel
theorem d_M_message_30 : decode b_M_message 30 = .ok (.iload_n 1, 1) := by decide +kernel
theorem d_M_message_31 : decode b_M_message 31 = .ok (.lload_n 2, 1) := by decide +kernel
theorem d_M_message_32 : decode b_M_message 32 = .ok (.lastore, 1) := by decide +kernel
theorem d_M_message_33 : decode b_M_message 33 = .ok (.return_, 1) := by decide +kernel
set_option maxRecDepth 100000 in
set_option maxHeartbeats 4000000 in
theorem c_M_message (l : Launch) (G : Gt) (zm zmp zm1 zm2 zmx zmh zmt zmu zme zma zmb zmk zmc zmd zmi zmo zmf zmg zmn : Nat) (th ys : Int32) (yl yr : Int64) (yv : Nat → Int64) (yt yu ye : Nat → Int32) (ya yb : Nat → Int64) (yk : Nat → Int32) (yc yd yi : Nat → Int64) (yo : Nat → Int32) (yf yg yn : Nat → Int64) (yp yq : Int64) (yw : Int32) (yx : Int64) (k : Int32) (v : Int64) : CtV l G y_M_message b_M_message 4 none rm_M_message E0 [.ref zm, .int k, .long v] [ob zm 5 [.ref zmp, .ref zm1, .ref zm2, .ref zmx, .int th, .ref zmh, .ref zmt, .int ys, .long yl, .long yr, .ref zmu, .ref zme, .ref zma, .ref zmb, .ref zmk, .ref zmc, .ref zmd, .ref zmi, .ref zmo, .ref zmf, .ref zmg, .ref zmn, .long yp, .long yq, .int yw, .long yx], aI G zmp 32 tb_perm, aI G zm1 56 tb_c1, aI G zm2 48 tb_c2, aI G zmx 512 tb_box, aJ G zmh 6 yv, aZ G zmt 6 yt, aI G zmu 16 yu, aZ G zme 16 ye, aJ G zma 16 ya, aJ G zmb 16 yb, aZ G zmk 8 yk, aJ G zmc 8 yc, aJ G zmd 8 yd, aJ G zmi 8 yi, aI G zmo 8 yo, aJ G zmf 5 yf, aJ G zmg 8 yg, aJ G zmn 16 yn] (fun (_ : Unit) => True) (fun _ => [ob zm 5 [.ref zmp, .ref zm1, .ref zm2, .ref zmx, .int (g_M_message_zm_4 k), .ref zmh, .ref zmt, .int ys, .long yl, .long yr, .ref zmu, .ref zme, .ref zma, .ref zmb, .ref zmk, .ref zmc, .ref zmd, .ref zmi, .ref zmo, .ref zmf, .ref zmg, .ref zmn, .long yp, .long yq, .int yw, .long yx], aI G zmp 32 tb_perm, aI G zm1 56 tb_c1, aI G zm2 48 tb_c2, aI G zmx 512 tb_box, aJ G zmh 6 yv, aZ G zmt 6 yt, aI G zmu 16 yu, aZ G zme 16 ye, aJ G zma 16 ya, aJ G zmb 16 yb, aZ G zmk 8 yk, aJ G zmc 8 yc, aJ G zmd 8 yd, aJ G zmi 8 yi, aI G zmo 8 yo, aJ G zmf 5 yf, aJ G zmg 8 (g_M_message_zmg yg k v), aJ G zmn 16 yn]) 0 0 := by
  refine Ct.of (Qp := fun A => va_Qv _ (qB G A _) A) Stb_0 (by decide) (Nat.le_of_ble_eq_true rfl) ?_
  intro p e s m args below meth c A X hE hr hlk hini
  refine pv_eql (ll2 := [(0, .ref zm), (1, .int k), (2, .long v)]) rfl ?_
  refine pv_aload_n X 0 d_M_message_0 rfl ?_
  refine pv_iload_n X 1 d_M_message_1 rfl ?_
  refine pv_i2l X d_M_message_2 ?_
  refine pv_lconst X 0 d_M_message_3 (by decide) ?_
  refine pv_ldc2_w X m_719 d_M_message_4 ?_
  refine pv_calli0 X (rn_S X (c_M_in l G k.toInt64 (0 : Int64) (7 : Int64)) trivial mf_M_in m_662 m_663 rfl (by decide) (by decide) rfl (Nat.le_of_ble_eq_true rfl) d_M_message_7) ?_
  refine pv_if_ne X 17 d_M_message_10 rfl (fun h2 => ?_) (fun h2n => ?_)
  · skip
    refine pv_iconst X 0 d_M_message_17 (by decide) ?_
    refine pv_iconst X 0 d_M_message_18 (by decide) ?_
    refine pv_calliE X (Cut.all _) (rn_V X (c_M_throwing l G zm zmp zm1 zm2 zmx zmh zmt zmu zme zma zmb zmk zmc zmd zmi zmo zmf zmg zmn th ys yl yr yv yt yu ye ya yb yk yc yd yi yo yf yg yn yp yq yw yx 0 0 ) trivial mf_M_throwing m_665 m_667 ms_12 rfl 0 rfl rfl rfl (by decide) (by decide) rfl (Nat.le_of_ble_eq_true rfl) d_M_message_19) (fun x3 => ?_)
    refine pv_eqw (ws2 := [ob zm 5 [.ref zmp, .ref zm1, .ref zm2, .ref zmx, .int (g_M_throwing_zm_4 0 0), .ref zmh, .ref zmt, .int ys, .long yl, .long yr, .ref zmu, .ref zme, .ref zma, .ref zmb, .ref zmk, .ref zmc, .ref zmd, .ref zmi, .ref zmo, .ref zmf, .ref zmg, .ref zmn, .long yp, .long yq, .int yw, .long yx], aI G zmp 32 tb_perm, aI G zm1 56 tb_c1, aI G zm2 48 tb_c2, aI G zmx 512 tb_box, aJ G zmh 6 yv, aZ G zmt 6 yt, aI G zmu 16 yu, aZ G zme 16 ye, aJ G zma 16 ya, aJ G zmb 16 yb, aZ G zmk 8 yk, aJ G zmc 8 yc, aJ G zmd 8 yd, aJ G zmi 8 yi, aI G zmo 8 yo, aJ G zmf 5 yf, aJ G zmg 8 yg, aJ G zmn 16 yn]) rfl ?_
    refine pv_if_eq X 26 d_M_message_22 rfl (fun _ => ?_) (fun h => absurd (by decide) h)
    refine pv_aload_n X 0 d_M_message_26 rfl ?_
    refine pv_get X 0 20 u_M_in m_594 rfl rfl (by decide) ⟨rfl, rfl, rfl⟩ rfl d_M_message_27 ?_
    refine pv_iload_n X 1 d_M_message_30 rfl ?_
    refine pv_lload_n X 2 d_M_message_31 rfl ?_
    refine pv_last (ws2 := [ob zm 5 [.ref zmp, .ref zm1, .ref zm2, .ref zmx, .int (g_M_throwing_zm_4 0 0), .ref zmh, .ref zmt, .int ys, .long yl, .long yr, .ref zmu, .ref zme, .ref zma, .ref zmb, .ref zmk, .ref zmc, .ref zmd, .ref zmi, .ref zmo, .ref zmf, .ref zmg, .ref zmn, .long yp, .long yq, .int yw, .long yx], aI G zmp 32 tb_perm, aI G zm1 56 tb_c1, aI G zm2 48 tb_c2, aI G zmx 512 tb_box, aJ G zmh 6 yv, aZ G zmt 6 yt, aI G zmu 16 yu, aZ G zme 16 ye, aJ G zma 16 ya, aJ G zmb 16 yb, aZ G zmk 8 yk, aJ G zmc 8 yc, aJ G zmd 8 yd, aJ G zmi 8 yi, aI G zmo 8 yo, aJ G zmf 5 yf, aJ G zmg 8 (vp_updL yg k.toNatClampNeg v), aJ G zmn 16 yn]) X 17 rfl (Min_vp (n := 8) rfl h2) rfl d_M_message_32 ?_
    exact pv_vret X hr hlk () trivial (by simp only [g_M_message_zm_4, g_M_message_zmg, if_neg h2]) d_M_message_33
  · skip
    refine pv_iconst X 1 d_M_message_13 (by decide) ?_
    refine pv_goto X 18 d_M_message_14 rfl ?_
    refine pv_iconst X 0 d_M_message_18 (by decide) ?_
    refine pv_calliE X (Cut.all _) (rn_V X (c_M_throwing l G zm zmp zm1 zm2 zmx zmh zmt zmu zme zma zmb zmk zmc zmd zmi zmo zmf zmg zmn th ys yl yr yv yt yu ye ya yb yk yc yd yi yo yf yg yn yp yq yw yx 1 0 ) trivial mf_M_throwing m_665 m_667 ms_12 rfl 0 rfl rfl rfl (by decide) (by decide) rfl (Nat.le_of_ble_eq_true rfl) d_M_message_19) (fun x4 => ?_)
    refine pv_eqw (ws2 := [ob zm 5 [.ref zmp, .ref zm1, .ref zm2, .ref zmx, .int (g_M_throwing_zm_4 1 0), .ref zmh, .ref zmt, .int ys, .long yl, .long yr, .ref zmu, .ref zme, .ref zma, .ref zmb, .ref zmk, .ref zmc, .ref zmd, .ref zmi, .ref zmo, .ref zmf, .ref zmg, .ref zmn, .long yp, .long yq, .int yw, .long yx], aI G zmp 32 tb_perm, aI G zm1 56 tb_c1, aI G zm2 48 tb_c2, aI G zmx 512 tb_box, aJ G zmh 6 yv, aZ G zmt 6 yt, aI G zmu 16 yu, aZ G zme 16 ye, aJ G zma 16 ya, aJ G zmb 16 yb, aZ G zmk 8 yk, aJ G zmc 8 yc, aJ G zmd 8 yd, aJ G zmi 8 yi, aI G zmo 8 yo, aJ G zmf 5 yf, aJ G zmg 8 yg, aJ G zmn 16 yn]) rfl ?_
    refine pv_if_eq X 26 d_M_message_22 rfl (fun h => absurd h (by decide)) (fun _ => ?_)
    exact pv_vret X hr hlk () trivial (by simp only [g_M_message_zm_4, g_M_message_zmg, if_pos h2n]) d_M_message_25
def g_M_fill_zmu (yu : Nat → Int32) (k : Int32) (u : Int32) : Nat → Int32 := upd yu k.toNatClampNeg u
def g_M_fill_zme (ye : Nat → Int32) (k : Int32) (w : Int32) : Nat → Int32 := upd ye k.toNatClampNeg w
def g_M_fill_zma (ya : Nat → Int64) (k : Int32) (a : Int64) : Nat → Int64 := vp_updL ya k.toNatClampNeg a
def g_M_fill_zmb (yb : Nat → Int64) (k : Int32) (b : Int64) : Nat → Int64 := vp_updL yb k.toNatClampNeg b
abbrev rm_M_fill : Room := { frames := 0, cells := 0, slots := 0, locals := 0 }
theorem mf_M_fill : MF y_M_fill b_M_fill 8 none 5 := ⟨m_732, m_6, by decide, by decide, by decide +kernel⟩
theorem d_M_fill_0 : decode b_M_fill 0 = .ok (.aload_n 0, 1) := by decide +kernel
theorem d_M_fill_1 : decode b_M_fill 1 = .ok (.getfield 30, 3) := by decide +kernel
theorem d_M_fill_4 : decode b_M_fill 4 = .ok (.iload_n 1, 1) := by decide +kernel
theorem d_M_fill_5 : decode b_M_fill 5 = .ok (.iload_n 2, 1) := by decide +kernel
theorem d_M_fill_6 : decode b_M_fill 6 = .ok (.iastore, 1) := by decide +kernel
theorem d_M_fill_7 : decode b_M_fill 7 = .ok (.aload_n 0, 1) := by decide +kernel
theorem d_M_fill_8 : decode b_M_fill 8 = .ok (.getfield 33, 3) := by decide +kernel
theorem d_M_fill_11 : decode b_M_fill 11 = .ok (.iload_n 1, 1) := by decide +kernel
theorem d_M_fill_12 : decode b_M_fill 12 = .ok (.iload_n 3, 1) := by decide +kernel
theorem d_M_fill_13 : decode b_M_fill 13 = .ok (.bastore, 1) := by decide +kernel
theorem d_M_fill_14 : decode b_M_fill 14 = .ok (.aload_n 0, 1) := by decide +kernel
theorem d_M_fill_15 : decode b_M_fill 15 = .ok (.getfield 36, 3) := by decide +kernel
theorem d_M_fill_18 : decode b_M_fill 18 = .ok (.iload_n 1, 1) := by decide +kernel
theorem d_M_fill_19 : decode b_M_fill 19 = .ok (.lload 4, 2) := by decide +kernel
theorem d_M_fill_21 : decode b_M_fill 21 = .ok (.lastore, 1) := by decide +kernel
theorem d_M_fill_22 : decode b_M_fill 22 = .ok (.aload_n 0, 1) := by decide +kernel
theorem d_M_fill_23 : decode b_M_fill 23 = .ok (.getfield 39, 3) := by decide +kernel
theorem d_M_fill_26 : decode b_M_fill 26 = .ok (.iload_n 1, 1) := by decide +kernel
theorem d_M_fill_27 : decode b_M_fill 27 = .ok (.lload 6, 2) := by decide +kernel
theorem d_M_fill_29 : decode b_M_fill 29 = .ok (.lastore, 1) := by decide +kernel
theorem d_M_fill_30 : decode b_M_fill 30 = .ok (.return_, 1) := by decide +kernel
set_option maxRecDepth 100000 in
set_option maxHeartbeats 4000000 in
theorem c_M_fill (l : Launch) (G : Gt) (zm zmp zm1 zm2 zmx zmh zmt zmu zme zma zmb zmk zmc zmd zmi zmo zmf zmg zmn : Nat) (th ys : Int32) (yl yr : Int64) (yv : Nat → Int64) (yt yu ye : Nat → Int32) (ya yb : Nat → Int64) (yk : Nat → Int32) (yc yd yi : Nat → Int64) (yo : Nat → Int32) (yf yg yn : Nat → Int64) (yp yq : Int64) (yw : Int32) (yx : Int64) (k u w : Int32) (a b : Int64) (hk : vp_in k 16) (hx : Bo w) : CtV l G y_M_fill b_M_fill 8 none rm_M_fill E0 [.ref zm, .int k, .int u, .int w, .long a, .long b] [ob zm 5 [.ref zmp, .ref zm1, .ref zm2, .ref zmx, .int th, .ref zmh, .ref zmt, .int ys, .long yl, .long yr, .ref zmu, .ref zme, .ref zma, .ref zmb, .ref zmk, .ref zmc, .ref zmd, .ref zmi, .ref zmo, .ref zmf, .ref zmg, .ref zmn, .long yp, .long yq, .int yw, .long yx], aI G zmp 32 tb_perm, aI G zm1 56 tb_c1, aI G zm2 48 tb_c2, aI G zmx 512 tb_box, aJ G zmh 6 yv, aZ G zmt 6 yt, aI G zmu 16 yu, aZ G zme 16 ye, aJ G zma 16 ya, aJ G zmb 16 yb, aZ G zmk 8 yk, aJ G zmc 8 yc, aJ G zmd 8 yd, aJ G zmi 8 yi, aI G zmo 8 yo, aJ G zmf 5 yf, aJ G zmg 8 yg, aJ G zmn 16 yn] (fun (_ : Unit) => True) (fun _ => [ob zm 5 [.ref zmp, .ref zm1, .ref zm2, .ref zmx, .int th, .ref zmh, .ref zmt, .int ys, .long yl, .long yr, .ref zmu, .ref zme, .ref zma, .ref zmb, .ref zmk, .ref zmc, .ref zmd, .ref zmi, .ref zmo, .ref zmf, .ref zmg, .ref zmn, .long yp, .long yq, .int yw, .long yx], aI G zmp 32 tb_perm, aI G zm1 56 tb_c1, aI G zm2 48 tb_c2, aI G zmx 512 tb_box, aJ G zmh 6 yv, aZ G zmt 6 yt, aI G zmu 16 (g_M_fill_zmu yu k u), aZ G zme 16 (g_M_fill_zme ye k w), aJ G zma 16 (g_M_fill_zma ya k a), aJ G zmb 16 (g_M_fill_zmb yb k b), aZ G zmk 8 yk, aJ G zmc 8 yc, aJ G zmd 8 yd, aJ G zmi 8 yi, aI G zmo 8 yo, aJ G zmf 5 yf, aJ G zmg 8 yg, aJ G zmn 16 yn]) 0 0 := by
  refine Ct.of (Qp := fun A => va_Qv _ (qB G A _) A) Stb_0 (by decide) (Nat.le_of_ble_eq_true rfl) ?_
  intro p e s m args below meth c A X hE hr hlk hini
  refine pv_eql (ll2 := [(0, .ref zm), (1, .int k), (2, .int u), (3, .int w), (4, .long a), (6, .long b)]) rfl ?_
  refine pv_aload_n X 0 d_M_fill_0 rfl ?_
  refine pv_get X 0 10 u_M_in m_584 rfl rfl (by decide) ⟨rfl, rfl, rfl⟩ rfl d_M_fill_1 ?_
  refine pv_iload_n X 1 d_M_fill_4 rfl ?_
  refine pv_iload_n X 2 d_M_fill_5 rfl ?_
  refine pv_iast (ws2 := [ob zm 5 [.ref zmp, .ref zm1, .ref zm2, .ref zmx, .int th, .ref zmh, .ref zmt, .int ys, .long yl, .long yr, .ref zmu, .ref zme, .ref zma, .ref zmb, .ref zmk, .ref zmc, .ref zmd, .ref zmi, .ref zmo, .ref zmf, .ref zmg, .ref zmn, .long yp, .long yq, .int yw, .long yx], aI G zmp 32 tb_perm, aI G zm1 56 tb_c1, aI G zm2 48 tb_c2, aI G zmx 512 tb_box, aJ G zmh 6 yv, aZ G zmt 6 yt, aI G zmu 16 (upd yu k.toNatClampNeg u), aZ G zme 16 ye, aJ G zma 16 ya, aJ G zmb 16 yb, aZ G zmk 8 yk, aJ G zmc 8 yc, aJ G zmd 8 yd, aJ G zmi 8 yi, aI G zmo 8 yo, aJ G zmf 5 yf, aJ G zmg 8 yg, aJ G zmn 16 yn]) X 7 rfl hk rfl d_M_fill_6 ?_
  refine pv_aload_n X 0 d_M_fill_7 rfl ?_
  refine pv_get X 0 11 u_M_in m_585 rfl rfl (by decide) ⟨rfl, rfl, rfl⟩ rfl d_M_fill_8 ?_
  refine pv_iload_n X 1 d_M_fill_11 rfl ?_
  refine pv_iload_n X 3 d_M_fill_12 rfl ?_
  refine pv_zast (ws2 := [ob zm 5 [.ref zmp, .ref zm1, .ref zm2, .ref zmx, .int th, .ref zmh, .ref zmt, .int ys, .long yl, .long yr, .ref zmu, .ref zme, .ref zma, .ref zmb, .ref zmk, .ref zmc, .ref zmd, .ref zmi, .ref zmo, .ref zmf, .ref zmg, .ref zmn, .long yp, .long yq, .int yw, .long yx], aI G zmp 32 tb_perm, aI G zm1 56 tb_c1, aI G zm2 48 tb_c2, aI G zmx 512 tb_box, aJ G zmh 6 yv, aZ G zmt 6 yt, aI G zmu 16 (upd yu k.toNatClampNeg u), aZ G zme 16 (upd ye k.toNatClampNeg w), aJ G zma 16 ya, aJ G zmb 16 yb, aZ G zmk 8 yk, aJ G zmc 8 yc, aJ G zmd 8 yd, aJ G zmi 8 yi, aI G zmo 8 yo, aJ G zmf 5 yf, aJ G zmg 8 yg, aJ G zmn 16 yn]) X 8 rfl hk (by rw [hx.vp]; rfl) d_M_fill_13 ?_
  refine pv_aload_n X 0 d_M_fill_14 rfl ?_
  refine pv_get X 0 12 u_M_in m_586 rfl rfl (by decide) ⟨rfl, rfl, rfl⟩ rfl d_M_fill_15 ?_
  refine pv_iload_n X 1 d_M_fill_18 rfl ?_
  refine pv_lload X 4 d_M_fill_19 rfl ?_
  refine pv_last (ws2 := [ob zm 5 [.ref zmp, .ref zm1, .ref zm2, .ref zmx, .int th, .ref zmh, .ref zmt, .int ys, .long yl, .long yr, .ref zmu, .ref zme, .ref zma, .ref zmb, .ref zmk, .ref zmc, .ref zmd, .ref zmi, .ref zmo, .ref zmf, .ref zmg, .ref zmn, .long yp, .long yq, .int yw, .long yx], aI G zmp 32 tb_perm, aI G zm1 56 tb_c1, aI G zm2 48 tb_c2, aI G zmx 512 tb_box, aJ G zmh 6 yv, aZ G zmt 6 yt, aI G zmu 16 (upd yu k.toNatClampNeg u), aZ G zme 16 (upd ye k.toNatClampNeg w), aJ G zma 16 (vp_updL ya k.toNatClampNeg a), aJ G zmb 16 yb, aZ G zmk 8 yk, aJ G zmc 8 yc, aJ G zmd 8 yd, aJ G zmi 8 yi, aI G zmo 8 yo, aJ G zmf 5 yf, aJ G zmg 8 yg, aJ G zmn 16 yn]) X 9 rfl hk rfl d_M_fill_21 ?_
  refine pv_aload_n X 0 d_M_fill_22 rfl ?_
  refine pv_get X 0 13 u_M_in m_587 rfl rfl (by decide) ⟨rfl, rfl, rfl⟩ rfl d_M_fill_23 ?_
  refine pv_iload_n X 1 d_M_fill_26 rfl ?_
  refine pv_lload X 5 d_M_fill_27 rfl ?_
  refine pv_last (ws2 := [ob zm 5 [.ref zmp, .ref zm1, .ref zm2, .ref zmx, .int th, .ref zmh, .ref zmt, .int ys, .long yl, .long yr, .ref zmu, .ref zme, .ref zma, .ref zmb, .ref zmk, .ref zmc, .ref zmd, .ref zmi, .ref zmo, .ref zmf, .ref zmg, .ref zmn, .long yp, .long yq, .int yw, .long yx], aI G zmp 32 tb_perm, aI G zm1 56 tb_c1, aI G zm2 48 tb_c2, aI G zmx 512 tb_box, aJ G zmh 6 yv, aZ G zmt 6 yt, aI G zmu 16 (upd yu k.toNatClampNeg u), aZ G zme 16 (upd ye k.toNatClampNeg w), aJ G zma 16 (vp_updL ya k.toNatClampNeg a), aJ G zmb 16 (vp_updL yb k.toNatClampNeg b), aZ G zmk 8 yk, aJ G zmc 8 yc, aJ G zmd 8 yd, aJ G zmi 8 yi, aI G zmo 8 yo, aJ G zmf 5 yf, aJ G zmg 8 yg, aJ G zmn 16 yn]) X 10 rfl hk rfl d_M_fill_29 ?_
  exact pv_vret X hr hlk () trivial (by simp only [g_M_fill_zmu, g_M_fill_zme, g_M_fill_zma, g_M_fill_zmb]) d_M_fill_30
def f_M_load (ys : Int32) (yu : Nat → Int32) (yf : Nat → Int64) (k : Int32) (u : Int32) : Int32 := if ys = 0 then (-1) else (if (f_M_isSlot k) = 0 then (-2) else (if (f_M_in u.toInt64 (0 : Int64) (3 : Int64)) = 0 then (-2) else (if (yu k.toNatClampNeg) < 0 then (f_M_checkOf (f_M_odd (yf 0)) (f_M_odd (yf 1))) else (-3))))
def g_M_load_zm_4  : Int32 := 0
def g_M_load_zmu (ys : Int32) (yu : Nat → Int32) (k : Int32) (u : Int32) : Nat → Int32 := if ys = 0 then yu else (if (f_M_isSlot k) = 0 then yu else (if (f_M_in u.toInt64 (0 : Int64) (3 : Int64)) = 0 then yu else (if (yu k.toNatClampNeg) < 0 then (g_M_fill_zmu yu k u) else yu)))
def g_M_load_zme (ys : Int32) (yu : Nat → Int32) (ye : Nat → Int32) (k : Int32) (u : Int32) (w : Int32) : Nat → Int32 := if ys = 0 then ye else (if (f_M_isSlot k) = 0 then ye else (if (f_M_in u.toInt64 (0 : Int64) (3 : Int64)) = 0 then ye else (if (yu k.toNatClampNeg) < 0 then (g_M_fill_zme ye k w) else ye)))
def g_M_load_zma (ys : Int32) (yu : Nat → Int32) (ya : Nat → Int64) (yf : Nat → Int64) (k : Int32) (u : Int32) : Nat → Int64 := if ys = 0 then ya else (if (f_M_isSlot k) = 0 then ya else (if (f_M_in u.toInt64 (0 : Int64) (3 : Int64)) = 0 then ya else (if (yu k.toNatClampNeg) < 0 then (g_M_fill_zma ya k (f_M_odd (yf 0))) else ya)))
def g_M_load_zmb (ys : Int32) (yu : Nat → Int32) (yb : Nat → Int64) (yf : Nat → Int64) (k : Int32) (u : Int32) : Nat → Int64 := if ys = 0 then yb else (if (f_M_isSlot k) = 0 then yb else (if (f_M_in u.toInt64 (0 : Int64) (3 : Int64)) = 0 then yb else (if (yu k.toNatClampNeg) < 0 then (g_M_fill_zmb yb k (f_M_odd (yf 1))) else yb)))
abbrev rm_M_load : Room := { frames := 5, cells := 0, slots := 0, locals := 140 }
theorem mf_M_load : MF y_M_load b_M_load 4 (some .int) 3 := ⟨m_723, m_6, by decide, by decide, by decide +kernel⟩
theorem d_M_load_0 : decode b_M_load 0 = .ok (.aload_n 0, 1) := by decide +kernel
theorem d_M_load_1 : decode b_M_load 1 = .ok (.iconst 0, 1) := by decide +kernel
theorem d_M_load_2 : decode b_M_load 2 = .ok (.putfield 66, 3) := by decide +kernel
theorem d_M_load_5 : decode b_M_load 5 = .ok (.aload_n 0, 1) := by decide +kernel
theorem d_M_load_6 : decode b_M_load 6 = .ok (.getfield 108, 3) := by decide +kernel
theorem d_M_load_9 : decode b_M_load 9 = .ok (.ifCond .ne 5, 3) := by decide +kernel
theorem d_M_load_12 : decode b_M_load 12 = .ok (.iconst (-1), 1) := by decide +kernel
theorem d_M_load_13 : decode b_M_load 13 = .ok (.ireturn, 1) := by decide +kernel
theorem d_M_load_14 : decode b_M_load 14 = .ok (.iload_n 1, 1) := by decide +kernel
theorem d_M_load_15 : decode b_M_load 15 = .ok (.invokestatic 137, 3) := by decide +kernel
theorem d_M_load_18 : decode b_M_load 18 = .ok (.ifCond .eq 15, 3) := by decide +kernel
theorem d_M_load_21 : decode b_M_load 21 = .ok (.iload_n 2, 1) := by decide +kernel
theorem d_M_load_22 : decode b_M_load 22 = .ok (.i2l, 1) := by decide +kernel
theorem d_M_load_23 : decode b_M_load 23 = .ok (.lconst 0, 1) := by decide +kernel
theorem d_M_load_24 : decode b_M_load 24 = .ok (.ldc2_w 141, 3) := by decide +kernel
theorem d_M_load_27 : decode b_M_load 27 = .ok (.invokestatic 104, 3) := by decide +kernel
theorem d_M_load_30 : decode b_M_load 30 = .ok (.ifCond .ne 6, 3) := by decide +kernel
theorem d_M_load_33 : decode b_M_load 33 = .ok (.bipush (-2), 2) := by decide +kernel
theorem d_M_load_35 : decode b_M_load 35 = .ok (.ireturn, 1) := by decide +kernel
theorem d_M_load_36 : decode b_M_load 36 = .ok (.aload_n 0, 1) := by decide +kernel
theorem d_M_load_37 : decode b_M_load 37 = .ok (.getfield 30, 3) := by decide +kernel
theorem d_M_load_40 : decode b_M_load 40 = .ok (.iload_n 1, 1) := by decide +kernel
theorem d_M_load_41 : decode b_M_load 41 = .ok (.iaload, 1) := by decide +kernel
theorem d_M_load_42 : decode b_M_load 42 = .ok (.ifCond .lt 6, 3) := by decide +kernel
theorem d_M_load_45 : decode b_M_load 45 = .ok (.bipush (-3), 2) := by decide +kernel
theorem d_M_load_47 : decode b_M_load 47 = .ok (.ireturn, 1) := by decide +kernel
theorem d_M_load_48 : decode b_M_load 48 = .ok (.aload_n 0, 1) := by decide +kernel
theorem d_M_load_49 : decode b_M_load 49 = .ok (.iload_n 1, 1) := by decide +kernel
theorem d_M_load_50 : decode b_M_load 50 = .ok (.iload_n 2, 1) := by decide +kernel
theorem d_M_load_51 : decode b_M_load 51 = .ok (.iload_n 3, 1) := by decide +kernel
theorem d_M_load_52 : decode b_M_load 52 = .ok (.aload_n 0, 1) := by decide +kernel
theorem d_M_load_53 : decode b_M_load 53 = .ok (.getfield 57, 3) := by decide +kernel
theorem d_M_load_56 : decode b_M_load 56 = .ok (.iconst 0, 1) := by decide +kernel
theorem d_M_load_57 : decode b_M_load 57 = .ok (.laload, 1) := by decide +kernel
theorem d_M_load_58 : decode b_M_load 58 = .ok (.invokestatic 116, 3) := by decide +kernel
theorem d_M_load_61 : decode b_M_load 61 = .ok (.aload_n 0, 1) := by decide +kernel
theorem d_M_load_62 : decode b_M_load 62 = .ok (.getfield 57, 3) := by decide +kernel
theorem d_M_load_65 : decode b_M_load 65 = .ok (.iconst 1, 1) := by decide +kernel
theorem d_M_load_66 : decode b_M_load 66 = .ok (.laload, 1) := by decide +kernel
theorem d_M_load_67 : decode b_M_load 67 = .ok (.invokestatic 116, 3) := by decide +kernel
theorem d_M_load_70 : decode b_M_load 70 = .ok (.invokevirtual 143, 3) := by decide +kernel
theorem d_M_load_73 : decode b_M_load 73 = .ok (.aload_n 0, 1) := by decide +kernel
theorem d_M_load_74 : decode b_M_load 74 = .ok (.aload_n 0, 1) := by decide +kernel
theorem d_M_load_75 : decode b_M_load 75 = .ok (.getfield 36, 3) := by decide +kernel
theorem d_M_load_78 : decode b_M_load 78 = .ok (.iload_n 1, 1) := by decide +kernel
theorem d_M_load_79 : decode b_M_load 79 = .ok (.laload, 1) := by decide +kernel
theorem d_M_load_80 : decode b_M_load 80 = .ok (.aload_n 0, 1) := by decide +kernel
theorem d_M_load_81 : decode b_M_load 81 = .ok (.getfield 39, 3) := by decide +kernel
theorem d_M_load_84 : decode b_M_load 84 = .ok (.iload_n 1, 1) := by decide +kernel
theorem d_M_load_85 : decode b_M_load 85 = .ok (.laload, 1) := by decide +kernel
theorem d_M_load_86 : decode b_M_load 86 = .ok (.invokevirtual 127, 3) := by decide +kernel
theorem d_M_load_89 : decode b_M_load 89 = .ok (.ireturn, 1) := by decide +kernel
set_option maxRecDepth 100000 in
set_option maxHeartbeats 4000000 in
theorem c_M_load (l : Launch) (G : Gt) (zm zmp zm1 zm2 zmx zmh zmt zmu zme zma zmb zmk zmc zmd zmi zmo zmf zmg zmn : Nat) (th ys : Int32) (yl yr : Int64) (yv : Nat → Int64) (yt yu ye : Nat → Int32) (ya yb : Nat → Int64) (yk : Nat → Int32) (yc yd yi : Nat → Int64) (yo : Nat → Int32) (yf yg yn : Nat → Int64) (yp yq : Int64) (yw : Int32) (yx : Int64) (k u w : Int32) (hx : Bo w) : CtI l G y_M_load b_M_load 4 (some .int) rm_M_load E0 [.ref zm, .int k, .int u, .int w] [ob zm 5 [.ref zmp, .ref zm1, .ref zm2, .ref zmx, .int th, .ref zmh, .ref zmt, .int ys, .long yl, .long yr, .ref zmu, .ref zme, .ref zma, .ref zmb, .ref zmk, .ref zmc, .ref zmd, .ref zmi, .ref zmo, .ref zmf, .ref zmg, .ref zmn, .long yp, .long yq, .int yw, .long yx], aI G zmp 32 tb_perm, aI G zm1 56 tb_c1, aI G zm2 48 tb_c2, aI G zmx 512 tb_box, aJ G zmh 6 yv, aZ G zmt 6 yt, aI G zmu 16 yu, aZ G zme 16 ye, aJ G zma 16 ya, aJ G zmb 16 yb, aZ G zmk 8 yk, aJ G zmc 8 yc, aJ G zmd 8 yd, aJ G zmi 8 yi, aI G zmo 8 yo, aJ G zmf 5 yf, aJ G zmg 8 yg, aJ G zmn 16 yn] (fun r (_ : (Nat → Int64)) => r = f_M_load ys yu yf k u) (fun x => [ob zm 5 [.ref zmp, .ref zm1, .ref zm2, .ref zmx, .int g_M_load_zm_4, .ref zmh, .ref zmt, .int ys, .long yl, .long yr, .ref zmu, .ref zme, .ref zma, .ref zmb, .ref zmk, .ref zmc, .ref zmd, .ref zmi, .ref zmo, .ref zmf, .ref zmg, .ref zmn, .long yp, .long yq, .int yw, .long yx], aI G zmp 32 tb_perm, aI G zm1 56 tb_c1, aI G zm2 48 tb_c2, aI G zmx 512 tb_box, aJ G zmh 6 yv, aZ G zmt 6 yt, aI G zmu 16 (g_M_load_zmu ys yu k u), aZ G zme 16 (g_M_load_zme ys yu ye k u w), aJ G zma 16 (g_M_load_zma ys yu ya yf k u), aJ G zmb 16 (g_M_load_zmb ys yu yb yf k u), aZ G zmk 8 yk, aJ G zmc 8 yc, aJ G zmd 8 yd, aJ G zmi 8 yi, aI G zmo 8 yo, aJ G zmf 5 yf, aJ G zmg 8 yg, aJ G zmn 16 x]) 0 0 := by
  refine Ct.of (Qp := fun A => va_Qi _ (qB G A _) A) Stb_0 (by decide) (Nat.le_of_ble_eq_true rfl) ?_
  intro p e s m args below meth c A X hE hr hlk hini
  refine pv_eql (ll2 := [(0, .ref zm), (1, .int k), (2, .int u), (3, .int w)]) rfl ?_
  refine pv_aload_n X 0 d_M_load_0 rfl ?_
  refine pv_iconst X 0 d_M_load_1 (by decide) ?_
  refine pv_put X (ty := .int) (ws2 := [ob zm 5 [.ref zmp, .ref zm1, .ref zm2, .ref zmx, .int 0, .ref zmh, .ref zmt, .int ys, .long yl, .long yr, .ref zmu, .ref zme, .ref zma, .ref zmb, .ref zmk, .ref zmc, .ref zmd, .ref zmi, .ref zmo, .ref zmf, .ref zmg, .ref zmn, .long yp, .long yq, .int yw, .long yx], aI G zmp 32 tb_perm, aI G zm1 56 tb_c1, aI G zm2 48 tb_c2, aI G zmx 512 tb_box, aJ G zmh 6 yv, aZ G zmt 6 yt, aI G zmu 16 yu, aZ G zme 16 ye, aJ G zma 16 ya, aJ G zmb 16 yb, aZ G zmk 8 yk, aJ G zmc 8 yc, aJ G zmd 8 yd, aJ G zmi 8 yi, aI G zmo 8 yo, aJ G zmf 5 yf, aJ G zmg 8 yg, aJ G zmn 16 yn]) 0 4 ty_M ty_M_ok n_M u_M_in m_578 rfl rfl (by decide) ⟨rfl, rfl, rfl⟩ rfl (by decide +kernel) rfl rfl (Nat.le_of_ble_eq_true rfl) rfl d_M_load_2 ?_
  refine pv_aload_n X 0 d_M_load_5 rfl ?_
  refine pv_get X 0 7 u_M_in m_581 rfl rfl (by decide) ⟨rfl, rfl, rfl⟩ rfl d_M_load_6 ?_
  refine pv_if_ne X 14 d_M_load_9 rfl (fun h1 => ?_) (fun h1n => ?_)
  · skip
    refine pv_iload_n X 1 d_M_load_14 rfl ?_
    refine pv_calli0 X (rn_S X (c_M_isSlot l G k) trivial mf_M_isSlot m_724 m_725 rfl (by decide) (by decide) rfl (Nat.le_of_ble_eq_true rfl) d_M_load_15) ?_
    refine pv_if_eq X 33 d_M_load_18 rfl (fun h3 => ?_) (fun h3n => ?_)
    · skip
      refine pv_bipush X (-2) d_M_load_33 (by decide) ?_
      exact pv_iret X hr hlk yn (by show _ = f_M_load ys yu yf k u; simp only [f_M_load, if_neg h1, if_pos h3]) (by simp only [g_M_load_zm_4, g_M_load_zmu, g_M_load_zme, g_M_load_zma, g_M_load_zmb, if_neg h1, if_pos h3]) d_M_load_35
    · skip
      refine pv_iload_n X 2 d_M_load_21 rfl ?_
      refine pv_i2l X d_M_load_22 ?_
      refine pv_lconst X 0 d_M_load_23 (by decide) ?_
      refine pv_ldc2_w X m_728 d_M_load_24 ?_
      refine pv_calli0 X (rn_S X (c_M_in l G u.toInt64 (0 : Int64) (3 : Int64)) trivial mf_M_in m_662 m_663 rfl (by decide) (by decide) rfl (Nat.le_of_ble_eq_true rfl) d_M_load_27) ?_
      refine pv_if_ne X 36 d_M_load_30 rfl (fun h5 => ?_) (fun h5n => ?_)
      · skip
        refine pv_aload_n X 0 d_M_load_36 rfl ?_
        refine pv_get X 0 10 u_M_in m_584 rfl rfl (by decide) ⟨rfl, rfl, rfl⟩ rfl d_M_load_37 ?_
        refine pv_iload_n X 1 d_M_load_40 rfl ?_
        refine pv_iald X 7 rfl (Mslot_in h3n) d_M_load_41 ?_
        refine pv_if_lt X 48 d_M_load_42 rfl (fun h6 => ?_) (fun h6n => ?_)
        · skip
          refine pv_aload_n X 0 d_M_load_48 rfl ?_
          refine pv_iload_n X 1 d_M_load_49 rfl ?_
          refine pv_iload_n X 2 d_M_load_50 rfl ?_
          refine pv_iload_n X 3 d_M_load_51 rfl ?_
          refine pv_aload_n X 0 d_M_load_52 rfl ?_
          refine pv_get X 0 19 u_M_in m_593 rfl rfl (by decide) ⟨rfl, rfl, rfl⟩ rfl d_M_load_53 ?_
          refine pv_iconst X 0 d_M_load_56 (by decide) ?_
          refine pv_lald X 16 rfl (by unfold vp_in; decide) d_M_load_57 ?_
          refine pv_topl (yf 0) rfl ?_
          refine pv_calll0 X (rn_S X (c_M_odd l G (yf 0)) trivial mf_M_odd m_673 m_674 rfl (by decide) (by decide) rfl (Nat.le_of_ble_eq_true rfl) d_M_load_58) ?_
          refine pv_aload_n X 0 d_M_load_61 rfl ?_
          refine pv_get X 0 19 u_M_in m_593 rfl rfl (by decide) ⟨rfl, rfl, rfl⟩ rfl d_M_load_62 ?_
          refine pv_iconst X 1 d_M_load_65 (by decide) ?_
          refine pv_lald X 16 rfl (by unfold vp_in; decide) d_M_load_66 ?_
          refine pv_topl (yf 1) rfl ?_
          refine pv_calll0 X (rn_S X (c_M_odd l G (yf 1)) trivial mf_M_odd m_673 m_674 rfl (by decide) (by decide) rfl (Nat.le_of_ble_eq_true rfl) d_M_load_67) ?_
          refine pv_callv X (Cut.all _) (rn_V X (c_M_fill l G zm zmp zm1 zm2 zmx zmh zmt zmu zme zma zmb zmk zmc zmd zmi zmo zmf zmg zmn 0 ys yl yr yv yt yu ye ya yb yk yc yd yi yo yf yg yn yp yq yw yx k u w (f_M_odd (yf 0)) (f_M_odd (yf 1)) (Mslot_in h3n) hx) trivial mf_M_fill m_729 m_731 ms_18 rfl 0 rfl rfl rfl (by decide) (by decide) rfl (Nat.le_of_ble_eq_true rfl) d_M_load_70) (fun x9 e9 => ?_)
          refine pv_eqw (ws2 := [ob zm 5 [.ref zmp, .ref zm1, .ref zm2, .ref zmx, .int 0, .ref zmh, .ref zmt, .int ys, .long yl, .long yr, .ref zmu, .ref zme, .ref zma, .ref zmb, .ref zmk, .ref zmc, .ref zmd, .ref zmi, .ref zmo, .ref zmf, .ref zmg, .ref zmn, .long yp, .long yq, .int yw, .long yx], aI G zmp 32 tb_perm, aI G zm1 56 tb_c1, aI G zm2 48 tb_c2, aI G zmx 512 tb_box, aJ G zmh 6 yv, aZ G zmt 6 yt, aI G zmu 16 (g_M_fill_zmu yu k u), aZ G zme 16 (g_M_fill_zme ye k w), aJ G zma 16 (g_M_fill_zma ya k (f_M_odd (yf 0))), aJ G zmb 16 (g_M_fill_zmb yb k (f_M_odd (yf 1))), aZ G zmk 8 yk, aJ G zmc 8 yc, aJ G zmd 8 yd, aJ G zmi 8 yi, aI G zmo 8 yo, aJ G zmf 5 yf, aJ G zmg 8 yg, aJ G zmn 16 yn]) rfl ?_
          refine pv_aload_n X 0 d_M_load_73 rfl ?_
          refine pv_aload_n X 0 d_M_load_74 rfl ?_
          refine pv_get X 0 12 u_M_in m_586 rfl rfl (by decide) ⟨rfl, rfl, rfl⟩ rfl d_M_load_75 ?_
          refine pv_iload_n X 1 d_M_load_78 rfl ?_
          refine pv_lald X 9 rfl (Mslot_in h3n) d_M_load_79 ?_
          refine pv_topl (f_M_odd (yf 0)) (by unfold g_M_fill_zma; exact pk_uLs) ?_
          refine pv_aload_n X 0 d_M_load_80 rfl ?_
          refine pv_get X 0 13 u_M_in m_587 rfl rfl (by decide) ⟨rfl, rfl, rfl⟩ rfl d_M_load_81 ?_
          refine pv_iload_n X 1 d_M_load_84 rfl ?_
          refine pv_lald X 10 rfl (Mslot_in h3n) d_M_load_85 ?_
          refine pv_topl (f_M_odd (yf 1)) (by unfold g_M_fill_zmb; exact pk_uLs) ?_
          refine pv_calliE X (Cut.all _) (rn_V X (c_M_checkOf l G zm zmp zm1 zm2 zmx zmh zmt zmu zme zma zmb zmk zmc zmd zmi zmo zmf zmg zmn 0 ys yl yr yv yt (g_M_fill_zmu yu k u) (g_M_fill_zme ye k w) (g_M_fill_zma ya k (f_M_odd (yf 0))) (g_M_fill_zmb yb k (f_M_odd (yf 1))) yk yc yd yi yo yf yg yn yp yq yw yx (f_M_odd (yf 0)) (f_M_odd (yf 1)) ) trivial mf_M_checkOf m_678 m_680 ms_13 rfl 0 rfl rfl rfl (by decide) (by decide) rfl (Nat.le_of_ble_eq_true rfl) d_M_load_86) (fun x10 => ?_)
          refine pv_eqw (ws2 := [ob zm 5 [.ref zmp, .ref zm1, .ref zm2, .ref zmx, .int 0, .ref zmh, .ref zmt, .int ys, .long yl, .long yr, .ref zmu, .ref zme, .ref zma, .ref zmb, .ref zmk, .ref zmc, .ref zmd, .ref zmi, .ref zmo, .ref zmf, .ref zmg, .ref zmn, .long yp, .long yq, .int yw, .long yx], aI G zmp 32 tb_perm, aI G zm1 56 tb_c1, aI G zm2 48 tb_c2, aI G zmx 512 tb_box, aJ G zmh 6 yv, aZ G zmt 6 yt, aI G zmu 16 (g_M_fill_zmu yu k u), aZ G zme 16 (g_M_fill_zme ye k w), aJ G zma 16 (g_M_fill_zma ya k (f_M_odd (yf 0))), aJ G zmb 16 (g_M_fill_zmb yb k (f_M_odd (yf 1))), aZ G zmk 8 yk, aJ G zmc 8 yc, aJ G zmd 8 yd, aJ G zmi 8 yi, aI G zmo 8 yo, aJ G zmf 5 yf, aJ G zmg 8 yg, aJ G zmn 16 (g_M_checkOf_zmn yn (f_M_odd (yf 0)) (f_M_odd (yf 1)))]) rfl ?_
          exact pv_iret X hr hlk (g_M_checkOf_zmn yn (f_M_odd (yf 0)) (f_M_odd (yf 1))) (by show _ = f_M_load ys yu yf k u; simp only [f_M_load, if_neg h1, if_neg h3n, if_neg h5, if_pos h6]) (by simp only [g_M_load_zm_4, g_M_load_zmu, g_M_load_zme, g_M_load_zma, g_M_load_zmb, if_neg h1, if_neg h3n, if_neg h5, if_pos h6]) d_M_load_89
        · skip
          refine pv_bipush X (-3) d_M_load_45 (by decide) ?_
          exact pv_iret X hr hlk yn (by show _ = f_M_load ys yu yf k u; simp only [f_M_load, if_neg h1, if_neg h3n, if_neg h5, if_neg h6n]) (by simp only [g_M_load_zm_4, g_M_load_zmu, g_M_load_zme, g_M_load_zma, g_M_load_zmb, if_neg h1, if_neg h3n, if_neg h5, if_neg h6n]) d_M_load_47
      · skip
        refine pv_bipush X (-2) d_M_load_33 (by decide) ?_
        exact pv_iret X hr hlk yn (by show _ = f_M_load ys yu yf k u; simp only [f_M_load, if_neg h1, if_neg h3n, if_pos h5n]) (by simp only [g_M_load_zm_4, g_M_load_zmu, g_M_load_zme, g_M_load_zma, g_M_load_zmb, if_neg h1, if_neg h3n, if_pos h5n]) d_M_load_35
  · skip
    refine pv_iconst X (-1) d_M_load_12 (by decide) ?_
    exact pv_iret X hr hlk yn (by show _ = f_M_load ys yu yf k u; simp only [f_M_load, if_pos h1n]) (by simp only [g_M_load_zm_4, g_M_load_zmu, g_M_load_zme, g_M_load_zma, g_M_load_zmb, if_pos h1n]) d_M_load_13
def f_M_clear (ys : Int32) (yu : Nat → Int32) (k : Int32) : Int32 := if ys = 0 then (-1) else (if (f_M_isSlot k) = 0 then (-2) else (if (0 : Int32) ≤ (yu k.toNatClampNeg) then 0 else (-3)))
def g_M_clear_zm_4  : Int32 := 0
def g_M_clear_zmu (ys : Int32) (yu : Nat → Int32) (k : Int32) : Nat → Int32 := if ys = 0 then yu else (if (f_M_isSlot k) = 0 then yu else (if (0 : Int32) ≤ (yu k.toNatClampNeg) then (upd yu k.toNatClampNeg (-1)) else yu))
abbrev rm_M_clear : Room := { frames := 2, cells := 0, slots := 0, locals := 45 }
theorem mf_M_clear : MF y_M_clear b_M_clear 2 (some .int) 1 := ⟨m_736, m_6, by decide, by decide, by decide +kernel⟩
theorem d_M_clear_0 : decode b_M_clear 0 = .ok (.aload_n 0, 1) := by decide +kernel
theorem d_M_clear_1 : decode b_M_clear 1 = .ok (.iconst 0, 1) := by decide +kernel
theorem d_M_clear_2 : decode b_M_clear 2 = .ok (.putfield 66, 3) := by decide +kernel
theorem d_M_clear_5 : decode b_M_clear 5 = .ok (.aload_n 0, 1) := by decide +kernel
theorem d_M_clear_6 : decode b_M_clear 6 = .ok (.getfield 108, 3) := by decide +kernel
theorem d_M_clear_9 : decode b_M_clear 9 = .ok (.ifCond .ne 5, 3) := by decide +kernel
theorem d_M_clear_12 : decode b_M_clear 12 = .ok (.iconst (-1), 1) := by decide +kernel
theorem d_M_clear_13 : decode b_M_clear 13 = .ok (.ireturn, 1) := by decide +kernel
theorem d_M_clear_14 : decode b_M_clear 14 = .ok (.iload_n 1, 1) := by decide +kernel
theorem d_M_clear_15 : decode b_M_clear 15 = .ok (.invokestatic 137, 3) := by decide +kernel
theorem d_M_clear_18 : decode b_M_clear 18 = .ok (.ifCond .ne 6, 3) := by decide +kernel
theorem d_M_clear_21 : decode b_M_clear 21 = .ok (.bipush (-2), 2) := by decide +kernel
theorem d_M_clear_23 : decode b_M_clear 23 = .ok (.ireturn, 1) := by decide +kernel
theorem d_M_clear_24 : decode b_M_clear 24 = .ok (.aload_n 0, 1) := by decide +kernel
theorem d_M_clear_25 : decode b_M_clear 25 = .ok (.getfield 30, 3) := by decide +kernel
theorem d_M_clear_28 : decode b_M_clear 28 = .ok (.iload_n 1, 1) := by decide +kernel
theorem d_M_clear_29 : decode b_M_clear 29 = .ok (.iaload, 1) := by decide +kernel
theorem d_M_clear_30 : decode b_M_clear 30 = .ok (.ifCond .ge 6, 3) := by decide +kernel
theorem d_M_clear_33 : decode b_M_clear 33 = .ok (.bipush (-3), 2) := by decide +kernel
theorem d_M_clear_35 : decode b_M_clear 35 = .ok (.ireturn, 1) := by decide +kernel
theorem d_M_clear_36 : decode b_M_clear 36 = .ok (.aload_n 0, 1) := by decide +kernel
theorem d_M_clear_37 : decode b_M_clear 37 = .ok (.getfield 30, 3) := by decide +kernel
theorem d_M_clear_40 : decode b_M_clear 40 = .ok (.iload_n 1, 1) := by decide +kernel
theorem d_M_clear_41 : decode b_M_clear 41 = .ok (.iconst (-1), 1) := by decide +kernel
theorem d_M_clear_42 : decode b_M_clear 42 = .ok (.iastore, 1) := by decide +kernel
theorem d_M_clear_43 : decode b_M_clear 43 = .ok (.iconst 0, 1) := by decide +kernel
theorem d_M_clear_44 : decode b_M_clear 44 = .ok (.ireturn, 1) := by decide +kernel
set_option maxRecDepth 100000 in
set_option maxHeartbeats 4000000 in
theorem c_M_clear (l : Launch) (G : Gt) (zm zmp zm1 zm2 zmx zmh zmt zmu zme zma zmb zmk zmc zmd zmi zmo zmf zmg zmn : Nat) (th ys : Int32) (yl yr : Int64) (yv : Nat → Int64) (yt yu ye : Nat → Int32) (ya yb : Nat → Int64) (yk : Nat → Int32) (yc yd yi : Nat → Int64) (yo : Nat → Int32) (yf yg yn : Nat → Int64) (yp yq : Int64) (yw : Int32) (yx : Int64) (k : Int32) : CtI l G y_M_clear b_M_clear 2 (some .int) rm_M_clear E0 [.ref zm, .int k] [ob zm 5 [.ref zmp, .ref zm1, .ref zm2, .ref zmx, .int th, .ref zmh, .ref zmt, .int ys, .long yl, .long yr, .ref zmu, .ref zme, .ref zma, .ref zmb, .ref zmk, .ref zmc, .ref zmd, .ref zmi, .ref zmo, .ref zmf, .ref zmg, .ref zmn, .long yp, .long yq, .int yw, .long yx], aI G zmp 32 tb_perm, aI G zm1 56 tb_c1, aI G zm2 48 tb_c2, aI G zmx 512 tb_box, aJ G zmh 6 yv, aZ G zmt 6 yt, aI G zmu 16 yu, aZ G zme 16 ye, aJ G zma 16 ya, aJ G zmb 16 yb, aZ G zmk 8 yk, aJ G zmc 8 yc, aJ G zmd 8 yd, aJ G zmi 8 yi, aI G zmo 8 yo, aJ G zmf 5 yf, aJ G zmg 8 yg, aJ G zmn 16 yn] (fun r (_ : Unit) => r = f_M_clear ys yu k) (fun _ => [ob zm 5 [.ref zmp, .ref zm1, .ref zm2, .ref zmx, .int g_M_clear_zm_4, .ref zmh, .ref zmt, .int ys, .long yl, .long yr, .ref zmu, .ref zme, .ref zma, .ref zmb, .ref zmk, .ref zmc, .ref zmd, .ref zmi, .ref zmo, .ref zmf, .ref zmg, .ref zmn, .long yp, .long yq, .int yw, .long yx], aI G zmp 32 tb_perm, aI G zm1 56 tb_c1, aI G zm2 48 tb_c2, aI G zmx 512 tb_box, aJ G zmh 6 yv, aZ G zmt 6 yt, aI G zmu 16 (g_M_clear_zmu ys yu k), aZ G zme 16 ye, aJ G zma 16 ya, aJ G zmb 16 yb, aZ G zmk 8 yk, aJ G zmc 8 yc, aJ G zmd 8 yd, aJ G zmi 8 yi, aI G zmo 8 yo, aJ G zmf 5 yf, aJ G zmg 8 yg, aJ G zmn 16 yn]) 0 0 := by
  refine Ct.of (Qp := fun A => va_Qi _ (qB G A _) A) Stb_0 (by decide) (Nat.le_of_ble_eq_true rfl) ?_
  intro p e s m args below meth c A X hE hr hlk hini
  refine pv_eql (ll2 := [(0, .ref zm), (1, .int k)]) rfl ?_
  refine pv_aload_n X 0 d_M_clear_0 rfl ?_
  refine pv_iconst X 0 d_M_clear_1 (by decide) ?_
  refine pv_put X (ty := .int) (ws2 := [ob zm 5 [.ref zmp, .ref zm1, .ref zm2, .ref zmx, .int 0, .ref zmh, .ref zmt, .int ys, .long yl, .long yr, .ref zmu, .ref zme, .ref zma, .ref zmb, .ref zmk, .ref zmc, .ref zmd, .ref zmi, .ref zmo, .ref zmf, .ref zmg, .ref zmn, .long yp, .long yq, .int yw, .long yx], aI G zmp 32 tb_perm, aI G zm1 56 tb_c1, aI G zm2 48 tb_c2, aI G zmx 512 tb_box, aJ G zmh 6 yv, aZ G zmt 6 yt, aI G zmu 16 yu, aZ G zme 16 ye, aJ G zma 16 ya, aJ G zmb 16 yb, aZ G zmk 8 yk, aJ G zmc 8 yc, aJ G zmd 8 yd, aJ G zmi 8 yi, aI G zmo 8 yo, aJ G zmf 5 yf, aJ G zmg 8 yg, aJ G zmn 16 yn]) 0 4 ty_M ty_M_ok n_M u_M_in m_578 rfl rfl (by decide) ⟨rfl, rfl, rfl⟩ rfl (by decide +kernel) rfl rfl (Nat.le_of_ble_eq_true rfl) rfl d_M_clear_2 ?_
  refine pv_aload_n X 0 d_M_clear_5 rfl ?_
  refine pv_get X 0 7 u_M_in m_581 rfl rfl (by decide) ⟨rfl, rfl, rfl⟩ rfl d_M_clear_6 ?_
  refine pv_if_ne X 14 d_M_clear_9 rfl (fun h1 => ?_) (fun h1n => ?_)
  · skip
    refine pv_iload_n X 1 d_M_clear_14 rfl ?_
    refine pv_calli0 X (rn_S X (c_M_isSlot l G k) trivial mf_M_isSlot m_724 m_725 rfl (by decide) (by decide) rfl (Nat.le_of_ble_eq_true rfl) d_M_clear_15) ?_
    refine pv_if_ne X 24 d_M_clear_18 rfl (fun h3 => ?_) (fun h3n => ?_)
    · skip
      refine pv_aload_n X 0 d_M_clear_24 rfl ?_
      refine pv_get X 0 10 u_M_in m_584 rfl rfl (by decide) ⟨rfl, rfl, rfl⟩ rfl d_M_clear_25 ?_
      refine pv_iload_n X 1 d_M_clear_28 rfl ?_
      refine pv_iald X 7 rfl (Mslot_in h3) d_M_clear_29 ?_
      refine pv_if_ge X 36 d_M_clear_30 rfl (fun h4 => ?_) (fun h4n => ?_)
      · skip
        refine pv_aload_n X 0 d_M_clear_36 rfl ?_
        refine pv_get X 0 10 u_M_in m_584 rfl rfl (by decide) ⟨rfl, rfl, rfl⟩ rfl d_M_clear_37 ?_
        refine pv_iload_n X 1 d_M_clear_40 rfl ?_
        refine pv_iconst X (-1) d_M_clear_41 (by decide) ?_
        refine pv_iast (ws2 := [ob zm 5 [.ref zmp, .ref zm1, .ref zm2, .ref zmx, .int 0, .ref zmh, .ref zmt, .int ys, .long yl, .long yr, .ref zmu, .ref zme, .ref zma, .ref zmb, .ref zmk, .ref zmc, .ref zmd, .ref zmi, .ref zmo, .ref zmf, .ref zmg, .ref zmn, .long yp, .long yq, .int yw, .long yx], aI G zmp 32 tb_perm, aI G zm1 56 tb_c1, aI G zm2 48 tb_c2, aI G zmx 512 tb_box, aJ G zmh 6 yv, aZ G zmt 6 yt, aI G zmu 16 (upd yu k.toNatClampNeg (-1)), aZ G zme 16 ye, aJ G zma 16 ya, aJ G zmb 16 yb, aZ G zmk 8 yk, aJ G zmc 8 yc, aJ G zmd 8 yd, aJ G zmi 8 yi, aI G zmo 8 yo, aJ G zmf 5 yf, aJ G zmg 8 yg, aJ G zmn 16 yn]) X 7 rfl (Mslot_in h3) rfl d_M_clear_42 ?_
        refine pv_iconst X 0 d_M_clear_43 (by decide) ?_
        exact pv_iret X hr hlk () (by show _ = f_M_clear ys yu k; simp only [f_M_clear, if_neg h1, if_neg h3, if_pos h4]) (by simp only [g_M_clear_zm_4, g_M_clear_zmu, if_neg h1, if_neg h3, if_pos h4]) d_M_clear_44
      · skip
        refine pv_bipush X (-3) d_M_clear_33 (by decide) ?_
        exact pv_iret X hr hlk () (by show _ = f_M_clear ys yu k; simp only [f_M_clear, if_neg h1, if_neg h3, if_neg h4n]) (by simp only [g_M_clear_zm_4, g_M_clear_zmu, if_neg h1, if_neg h3, if_neg h4n]) d_M_clear_35
    · skip
      refine pv_bipush X (-2) d_M_clear_21 (by decide) ?_
      exact pv_iret X hr hlk () (by show _ = f_M_clear ys yu k; simp only [f_M_clear, if_neg h1, if_pos h3n]) (by simp only [g_M_clear_zm_4, g_M_clear_zmu, if_neg h1, if_pos h3n]) d_M_clear_23
  · skip
    refine pv_iconst X (-1) d_M_clear_12 (by decide) ?_
    exact pv_iret X hr hlk () (by show _ = f_M_clear ys yu k; simp only [f_M_clear, if_pos h1n]) (by simp only [g_M_clear_zm_4, g_M_clear_zmu, if_pos h1n]) d_M_clear_13
def f_M_usage (ys : Int32) (yu : Nat → Int32) (k : Int32) : Int32 := if ys = 0 then (-1) else (if (f_M_isSlot k) = 0 then (-2) else (if (0 : Int32) ≤ (yu k.toNatClampNeg) then (yu k.toNatClampNeg) else (-3)))
def g_M_usage_zm_4  : Int32 := 0
abbrev rm_M_usage : Room := { frames := 2, cells := 0, slots := 0, locals := 45 }
theorem mf_M_usage : MF y_M_usage b_M_usage 2 (some .int) 1 := ⟨m_740, m_6, by decide, by decide, by decide +kernel⟩
theorem d_M_usage_0 : decode b_M_usage 0 = .ok (.aload_n 0, 1) := by decide +kernel
theorem d_M_usage_1 : decode b_M_usage 1 = .ok (.iconst 0, 1) := by decide +kernel
theorem d_M_usage_2 : decode b_M_usage 2 = .ok (.putfield 66, 3) := by decide +kernel
theorem d_M_usage_5 : decode b_M_usage 5 = .ok (.aload_n 0, 1) := by decide +kernel
theorem d_M_usage_6 : decode b_M_usage 6 = .ok (.getfield 108, 3) := by decide +kernel
theorem d_M_usage_9 : decode b_M_usage 9 = .ok (.ifCond .ne 5, 3) := by decide +kernel
theorem d_M_usage_12 : decode b_M_usage 12 = .ok (.iconst (-1), 1) := by decide +kernel
theorem d_M_usage_13 : decode b_M_usage 13 = .ok (.ireturn, 1) := by decide +kernel
theorem d_M_usage_14 : decode b_M_usage 14 = .ok (.iload_n 1, 1) := by decide +kernel
theorem d_M_usage_15 : decode b_M_usage 15 = .ok (.invokestatic 137, 3) := by decide +kernel
theorem d_M_usage_18 : decode b_M_usage 18 = .ok (.ifCond .ne 6, 3) := by decide +kernel
theorem d_M_usage_21 : decode b_M_usage 21 = .ok (.bipush (-2), 2) := by decide +kernel
theorem d_M_usage_23 : decode b_M_usage 23 = .ok (.ireturn, 1) := by decide +kernel
theorem d_M_usage_24 : decode b_M_usage 24 = .ok (.aload_n 0, 1) := by decide +kernel
theorem d_M_usage_25 : decode b_M_usage 25 = .ok (.getfield 30, 3) := by decide +kernel
theorem d_M_usage_28 : decode b_M_usage 28 = .ok (.iload_n 1, 1) := by decide +kernel
theorem d_M_usage_29 : decode b_M_usage 29 = .ok (.iaload, 1) := by decide +kernel
theorem d_M_usage_30 : decode b_M_usage 30 = .ok (.ifCond .ge 8, 3) := by decide +kernel
theorem d_M_usage_33 : decode b_M_usage 33 = .ok (.bipush (-3), 2) := by decide +kernel
theorem d_M_usage_35 : decode b_M_usage 35 = .ok (.goto 9, 3) := by decide +kernel
theorem d_M_usage_38 : decode b_M_usage 38 = .ok (.aload_n 0, 1) := by decide +kernel
theorem d_M_usage_39 : decode b_M_usage 39 = .ok (.getfield 30, 3) := by decide +kernel
theorem d_M_usage_42 : decode b_M_usage 42 = .ok (.iload_n 1, 1) := by decide +kernel
theorem d_M_usage_43 : decode b_M_usage 43 = .ok (.iaload, 1) := by decide +kernel
theorem d_M_usage_44 : decode b_M_usage 44 = .ok (.ireturn, 1) := by decide +kernel
set_option maxRecDepth 100000 in
set_option maxHeartbeats 4000000 in
theorem c_M_usage (l : Launch) (G : Gt) (zm zmp zm1 zm2 zmx zmh zmt zmu zme zma zmb zmk zmc zmd zmi zmo zmf zmg zmn : Nat) (th ys : Int32) (yl yr : Int64) (yv : Nat → Int64) (yt yu ye : Nat → Int32) (ya yb : Nat → Int64) (yk : Nat → Int32) (yc yd yi : Nat → Int64) (yo : Nat → Int32) (yf yg yn : Nat → Int64) (yp yq : Int64) (yw : Int32) (yx : Int64) (k : Int32) : CtI l G y_M_usage b_M_usage 2 (some .int) rm_M_usage E0 [.ref zm, .int k] [ob zm 5 [.ref zmp, .ref zm1, .ref zm2, .ref zmx, .int th, .ref zmh, .ref zmt, .int ys, .long yl, .long yr, .ref zmu, .ref zme, .ref zma, .ref zmb, .ref zmk, .ref zmc, .ref zmd, .ref zmi, .ref zmo, .ref zmf, .ref zmg, .ref zmn, .long yp, .long yq, .int yw, .long yx], aI G zmp 32 tb_perm, aI G zm1 56 tb_c1, aI G zm2 48 tb_c2, aI G zmx 512 tb_box, aJ G zmh 6 yv, aZ G zmt 6 yt, aI G zmu 16 yu, aZ G zme 16 ye, aJ G zma 16 ya, aJ G zmb 16 yb, aZ G zmk 8 yk, aJ G zmc 8 yc, aJ G zmd 8 yd, aJ G zmi 8 yi, aI G zmo 8 yo, aJ G zmf 5 yf, aJ G zmg 8 yg, aJ G zmn 16 yn] (fun r (_ : Unit) => r = f_M_usage ys yu k) (fun _ => [ob zm 5 [.ref zmp, .ref zm1, .ref zm2, .ref zmx, .int g_M_usage_zm_4, .ref zmh, .ref zmt, .int ys, .long yl, .long yr, .ref zmu, .ref zme, .ref zma, .ref zmb, .ref zmk, .ref zmc, .ref zmd, .ref zmi, .ref zmo, .ref zmf, .ref zmg, .ref zmn, .long yp, .long yq, .int yw, .long yx], aI G zmp 32 tb_perm, aI G zm1 56 tb_c1, aI G zm2 48 tb_c2, aI G zmx 512 tb_box, aJ G zmh 6 yv, aZ G zmt 6 yt, aI G zmu 16 yu, aZ G zme 16 ye, aJ G zma 16 ya, aJ G zmb 16 yb, aZ G zmk 8 yk, aJ G zmc 8 yc, aJ G zmd 8 yd, aJ G zmi 8 yi, aI G zmo 8 yo, aJ G zmf 5 yf, aJ G zmg 8 yg, aJ G zmn 16 yn]) 0 0 := by
  refine Ct.of (Qp := fun A => va_Qi _ (qB G A _) A) Stb_0 (by decide) (Nat.le_of_ble_eq_true rfl) ?_
  intro p e s m args below meth c A X hE hr hlk hini
  refine pv_eql (ll2 := [(0, .ref zm), (1, .int k)]) rfl ?_
  refine pv_aload_n X 0 d_M_usage_0 rfl ?_
  refine pv_iconst X 0 d_M_usage_1 (by decide) ?_
  refine pv_put X (ty := .int) (ws2 := [ob zm 5 [.ref zmp, .ref zm1, .ref zm2, .ref zmx, .int 0, .ref zmh, .ref zmt, .int ys, .long yl, .long yr, .ref zmu, .ref zme, .ref zma, .ref zmb, .ref zmk, .ref zmc, .ref zmd, .ref zmi, .ref zmo, .ref zmf, .ref zmg, .ref zmn, .long yp, .long yq, .int yw, .long yx], aI G zmp 32 tb_perm, aI G zm1 56 tb_c1, aI G zm2 48 tb_c2, aI G zmx 512 tb_box, aJ G zmh 6 yv, aZ G zmt 6 yt, aI G zmu 16 yu, aZ G zme 16 ye, aJ G zma 16 ya, aJ G zmb 16 yb, aZ G zmk 8 yk, aJ G zmc 8 yc, aJ G zmd 8 yd, aJ G zmi 8 yi, aI G zmo 8 yo, aJ G zmf 5 yf, aJ G zmg 8 yg, aJ G zmn 16 yn]) 0 4 ty_M ty_M_ok n_M u_M_in m_578 rfl rfl (by decide) ⟨rfl, rfl, rfl⟩ rfl (by decide +kernel) rfl rfl (Nat.le_of_ble_eq_true rfl) rfl d_M_usage_2 ?_
  refine pv_aload_n X 0 d_M_usage_5 rfl ?_
  refine pv_get X 0 7 u_M_in m_581 rfl rfl (by decide) ⟨rfl, rfl, rfl⟩ rfl d_M_usage_6 ?_
  refine pv_if_ne X 14 d_M_usage_9 rfl (fun h1 => ?_) (fun h1n => ?_)
  · skip
    refine pv_iload_n X 1 d_M_usage_14 rfl ?_
    refine pv_calli0 X (rn_S X (c_M_isSlot l G k) trivial mf_M_isSlot m_724 m_725 rfl (by decide) (by decide) rfl (Nat.le_of_ble_eq_true rfl) d_M_usage_15) ?_
    refine pv_if_ne X 24 d_M_usage_18 rfl (fun h3 => ?_) (fun h3n => ?_)
    · skip
      refine pv_aload_n X 0 d_M_usage_24 rfl ?_
      refine pv_get X 0 10 u_M_in m_584 rfl rfl (by decide) ⟨rfl, rfl, rfl⟩ rfl d_M_usage_25 ?_
      refine pv_iload_n X 1 d_M_usage_28 rfl ?_
      refine pv_iald X 7 rfl (Mslot_in h3) d_M_usage_29 ?_
      refine pv_if_ge X 38 d_M_usage_30 rfl (fun h4 => ?_) (fun h4n => ?_)
      · skip
        refine pv_aload_n X 0 d_M_usage_38 rfl ?_
        refine pv_get X 0 10 u_M_in m_584 rfl rfl (by decide) ⟨rfl, rfl, rfl⟩ rfl d_M_usage_39 ?_
        refine pv_iload_n X 1 d_M_usage_42 rfl ?_
        refine pv_iald X 7 rfl (Mslot_in h3) d_M_usage_43 ?_
        exact pv_iret X hr hlk () (by show _ = f_M_usage ys yu k; simp only [f_M_usage, if_neg h1, if_neg h3, if_pos h4]) (by simp only [g_M_usage_zm_4, if_neg h1, if_neg h3, if_pos h4]) d_M_usage_44
      · skip
        refine pv_bipush X (-3) d_M_usage_33 (by decide) ?_
        refine pv_goto X 44 d_M_usage_35 rfl ?_
        exact pv_iret X hr hlk () (by show _ = f_M_usage ys yu k; simp only [f_M_usage, if_neg h1, if_neg h3, if_neg h4n]) (by simp only [g_M_usage_zm_4, if_neg h1, if_neg h3, if_neg h4n]) d_M_usage_44
    · skip
      refine pv_bipush X (-2) d_M_usage_21 (by decide) ?_
      exact pv_iret X hr hlk () (by show _ = f_M_usage ys yu k; simp only [f_M_usage, if_neg h1, if_pos h3n]) (by simp only [g_M_usage_zm_4, if_neg h1, if_pos h3n]) d_M_usage_23
  · skip
    refine pv_iconst X (-1) d_M_usage_12 (by decide) ?_
    exact pv_iret X hr hlk () (by show _ = f_M_usage ys yu k; simp only [f_M_usage, if_pos h1n]) (by simp only [g_M_usage_zm_4, if_pos h1n]) d_M_usage_13
def f_M_codeOfBlock (yl : Int64) (yr : Int64) (yf : Nat → Int64) : Int64 := f_M_sealBlock (yl ^^^ (5570193308531903821 : Int64)) (yr ^^^ (5570193308531903821 : Int64)) ((yf 3) ^^^ (f_M_sealBlock (yl ^^^ (5570193308531903821 : Int64)) (yr ^^^ (5570193308531903821 : Int64)) ((yf 2) ^^^ (f_M_sealBlock (yl ^^^ (5570193308531903821 : Int64)) (yr ^^^ (5570193308531903821 : Int64)) ((yf 1) ^^^ (f_M_sealBlock (yl ^^^ (5570193308531903821 : Int64)) (yr ^^^ (5570193308531903821 : Int64)) ((yf 0) ^^^ (0 : Int64))))))))
def g_M_codeOfBlock_zmn (yl : Int64) (yr : Int64) (yn : Nat → Int64) : Nat → Int64 := g_M_sealBlock_zmn (g_M_sealBlock_zmn (g_M_sealBlock_zmn (g_M_sealBlock_zmn yn (yl ^^^ (5570193308531903821 : Int64)) (yr ^^^ (5570193308531903821 : Int64))) (yl ^^^ (5570193308531903821 : Int64)) (yr ^^^ (5570193308531903821 : Int64))) (yl ^^^ (5570193308531903821 : Int64)) (yr ^^^ (5570193308531903821 : Int64))) (yl ^^^ (5570193308531903821 : Int64)) (yr ^^^ (5570193308531903821 : Int64))
abbrev rm_M_codeOfBlock : Room := { frames := 4, cells := 0, slots := 0, locals := 116 }
theorem mf_M_codeOfBlock : MF y_M_codeOfBlock b_M_codeOfBlock 4 (some .long) 0 := ⟨m_764, m_6, by decide, by decide, by decide +kernel⟩
theorem d_M_codeOfBlock_0 : decode b_M_codeOfBlock 0 = .ok (.lconst 0, 1) := by decide +kernel
theorem d_M_codeOfBlock_1 : decode b_M_codeOfBlock 1 = .ok (.lstore_n 1, 1) := by decide +kernel
theorem d_M_codeOfBlock_2 : decode b_M_codeOfBlock 2 = .ok (.iconst 0, 1) := by decide +kernel
theorem d_M_codeOfBlock_3 : decode b_M_codeOfBlock 3 = .ok (.istore_n 3, 1) := by decide +kernel
theorem d_M_codeOfBlock_4 : decode b_M_codeOfBlock 4 = .ok (.iload_n 3, 1) := by decide +kernel
theorem d_M_codeOfBlock_5 : decode b_M_codeOfBlock 5 = .ok (.iconst 4, 1) := by decide +kernel
theorem d_M_codeOfBlock_6 : decode b_M_codeOfBlock 6 = .ok (.if_icmp .ge 38, 3) := by decide +kernel
theorem d_M_codeOfBlock_9 : decode b_M_codeOfBlock 9 = .ok (.aload_n 0, 1) := by decide +kernel
theorem d_M_codeOfBlock_10 : decode b_M_codeOfBlock 10 = .ok (.aload_n 0, 1) := by decide +kernel
theorem d_M_codeOfBlock_11 : decode b_M_codeOfBlock 11 = .ok (.getfield 120, 3) := by decide +kernel
theorem d_M_codeOfBlock_14 : decode b_M_codeOfBlock 14 = .ok (.ldc2_w 169, 3) := by decide +kernel
theorem d_M_codeOfBlock_17 : decode b_M_codeOfBlock 17 = .ok (.lxor, 1) := by decide +kernel
theorem d_M_codeOfBlock_18 : decode b_M_codeOfBlock 18 = .ok (.aload_n 0, 1) := by decide +kernel
theorem d_M_codeOfBlock_19 : decode b_M_codeOfBlock 19 = .ok (.getfield 124, 3) := by decide +kernel
theorem d_M_codeOfBlock_22 : decode b_M_codeOfBlock 22 = .ok (.ldc2_w 169, 3) := by decide +kernel
theorem d_M_codeOfBlock_25 : decode b_M_codeOfBlock 25 = .ok (.lxor, 1) := by decide +kernel
theorem d_M_codeOfBlock_26 : decode b_M_codeOfBlock 26 = .ok (.aload_n 0, 1) := by decide +kernel
theorem d_M_codeOfBlock_27 : decode b_M_codeOfBlock 27 = .ok (.getfield 57, 3) := by decide +kernel
theorem d_M_codeOfBlock_30 : decode b_M_codeOfBlock 30 = .ok (.iload_n 3, 1) := by decide +kernel
theorem d_M_codeOfBlock_31 : decode b_M_codeOfBlock 31 = .ok (.laload, 1) := by decide +kernel
theorem d_M_codeOfBlock_32 : decode b_M_codeOfBlock 32 = .ok (.lload_n 1, 1) := by decide +kernel
theorem d_M_codeOfBlock_33 : decode b_M_codeOfBlock 33 = .ok (.lxor, 1) := by decide +kernel
theorem d_M_codeOfBlock_34 : decode b_M_codeOfBlock 34 = .ok (.invokevirtual 98, 3) := by decide +kernel
theorem d_M_codeOfBlock_37 : decode b_M_codeOfBlock 37 = .ok (.lstore_n 1, 1) := by decide +kernel
theorem d_M_codeOfBlock_38 : decode b_M_codeOfBlock 38 = .ok (.iinc 3 1, 3) := by decide +kernel
theorem d_M_codeOfBlock_41 : decode b_M_codeOfBlock 41 = .ok (.goto (-37), 3) := by decide +kernel
theorem d_M_codeOfBlock_44 : decode b_M_codeOfBlock 44 = .ok (.lload_n 1, 1) := by decide +kernel
theorem d_M_codeOfBlock_45 : decode b_M_codeOfBlock 45 = .ok (.lreturn, 1) := by decide +kernel
set_option maxRecDepth 100000 in
set_option maxHeartbeats 4000000 in
theorem c_M_codeOfBlock (l : Launch) (G : Gt) (zm zmp zm1 zm2 zmx zmh zmt zmu zme zma zmb zmk zmc zmd zmi zmo zmf zmg zmn : Nat) (th ys : Int32) (yl yr : Int64) (yv : Nat → Int64) (yt yu ye : Nat → Int32) (ya yb : Nat → Int64) (yk : Nat → Int32) (yc yd yi : Nat → Int64) (yo : Nat → Int32) (yf yg yn : Nat → Int64) (yp yq : Int64) (yw : Int32) (yx : Int64)  : CtL l G y_M_codeOfBlock b_M_codeOfBlock 4 (some .long) rm_M_codeOfBlock E0 [.ref zm] [ob zm 5 [.ref zmp, .ref zm1, .ref zm2, .ref zmx, .int th, .ref zmh, .ref zmt, .int ys, .long yl, .long yr, .ref zmu, .ref zme, .ref zma, .ref zmb, .ref zmk, .ref zmc, .ref zmd, .ref zmi, .ref zmo, .ref zmf, .ref zmg, .ref zmn, .long yp, .long yq, .int yw, .long yx], aI G zmp 32 tb_perm, aI G zm1 56 tb_c1, aI G zm2 48 tb_c2, aI G zmx 512 tb_box, aJ G zmh 6 yv, aZ G zmt 6 yt, aI G zmu 16 yu, aZ G zme 16 ye, aJ G zma 16 ya, aJ G zmb 16 yb, aZ G zmk 8 yk, aJ G zmc 8 yc, aJ G zmd 8 yd, aJ G zmi 8 yi, aI G zmo 8 yo, aJ G zmf 5 yf, aJ G zmg 8 yg, aJ G zmn 16 yn] (fun r (_ : Unit) => r = f_M_codeOfBlock yl yr yf) (fun _ => [ob zm 5 [.ref zmp, .ref zm1, .ref zm2, .ref zmx, .int th, .ref zmh, .ref zmt, .int ys, .long yl, .long yr, .ref zmu, .ref zme, .ref zma, .ref zmb, .ref zmk, .ref zmc, .ref zmd, .ref zmi, .ref zmo, .ref zmf, .ref zmg, .ref zmn, .long yp, .long yq, .int yw, .long yx], aI G zmp 32 tb_perm, aI G zm1 56 tb_c1, aI G zm2 48 tb_c2, aI G zmx 512 tb_box, aJ G zmh 6 yv, aZ G zmt 6 yt, aI G zmu 16 yu, aZ G zme 16 ye, aJ G zma 16 ya, aJ G zmb 16 yb, aZ G zmk 8 yk, aJ G zmc 8 yc, aJ G zmd 8 yd, aJ G zmi 8 yi, aI G zmo 8 yo, aJ G zmf 5 yf, aJ G zmg 8 yg, aJ G zmn 16 (g_M_codeOfBlock_zmn yl yr yn)]) 0 0 := by
  refine Ct.of (Qp := fun A => va_Ql _ (qB G A _) A) Stb_0 (by decide) (Nat.le_of_ble_eq_true rfl) ?_
  intro p e s m args below meth c A X hE hr hlk hini
  refine pv_eql (ll2 := [(0, .ref zm)]) rfl ?_
  refine pv_lconst X 0 d_M_codeOfBlock_0 (by decide) ?_
  refine pv_lstore_n (ll2 := [(1, .long (0 : Int64)), (0, .ref zm)]) X d_M_codeOfBlock_1 (by decide) rfl ?_
  refine pv_iconst X 0 d_M_codeOfBlock_2 (by decide) ?_
  refine pv_istore_n (ll2 := [(3, .int 0), (1, .long (0 : Int64)), (0, .ref zm)]) X d_M_codeOfBlock_3 (by decide) rfl ?_
  refine pv_iload_n X 0 d_M_codeOfBlock_4 rfl ?_
  refine pv_iconst X 4 d_M_codeOfBlock_5 (by decide) ?_
  refine pv_icmp_ge X 44 d_M_codeOfBlock_6 rfl (fun h => absurd h (by decide)) (fun _ => ?_)
  refine pv_aload_n X 2 d_M_codeOfBlock_9 rfl ?_
  refine pv_aload_n X 2 d_M_codeOfBlock_10 rfl ?_
  refine pv_get X 0 8 u_M_in m_582 rfl rfl (by decide) ⟨rfl, rfl, rfl⟩ rfl d_M_codeOfBlock_11 ?_
  refine pv_ldc2_w X m_765 d_M_codeOfBlock_14 ?_
  refine pv_lxor X d_M_codeOfBlock_17 ?_
  refine pv_aload_n X 2 d_M_codeOfBlock_18 rfl ?_
  refine pv_get X 0 9 u_M_in m_583 rfl rfl (by decide) ⟨rfl, rfl, rfl⟩ rfl d_M_codeOfBlock_19 ?_
  refine pv_ldc2_w X m_765 d_M_codeOfBlock_22 ?_
  refine pv_lxor X d_M_codeOfBlock_25 ?_
  refine pv_aload_n X 2 d_M_codeOfBlock_26 rfl ?_
  refine pv_get X 0 19 u_M_in m_593 rfl rfl (by decide) ⟨rfl, rfl, rfl⟩ rfl d_M_codeOfBlock_27 ?_
  refine pv_iload_n X 0 d_M_codeOfBlock_30 rfl ?_
  refine pv_lald X 16 rfl (by unfold vp_in; decide) d_M_codeOfBlock_31 ?_
  refine pv_topl (yf 0) rfl ?_
  refine pv_lload_n X 1 d_M_codeOfBlock_32 rfl ?_
  refine pv_lxor X d_M_codeOfBlock_33 ?_
  refine pv_calllE X (Cut.all _) (rn_V X (c_M_sealBlock l G zm zmp zm1 zm2 zmx zmh zmt zmu zme zma zmb zmk zmc zmd zmi zmo zmf zmg zmn th ys yl yr yv yt yu ye ya yb yk yc yd yi yo yf yg yn yp yq yw yx (yl ^^^ (5570193308531903821 : Int64)) (yr ^^^ (5570193308531903821 : Int64)) ((yf 0) ^^^ (0 : Int64)) ) trivial mf_M_sealBlock m_682 m_684 ms_14 rfl 0 rfl rfl rfl (by decide) (by decide) rfl (Nat.le_of_ble_eq_true rfl) d_M_codeOfBlock_34) (fun x1 => ?_)
  refine pv_eqw (ws2 := [ob zm 5 [.ref zmp, .ref zm1, .ref zm2, .ref zmx, .int th, .ref zmh, .ref zmt, .int ys, .long yl, .long yr, .ref zmu, .ref zme, .ref zma, .ref zmb, .ref zmk, .ref zmc, .ref zmd, .ref zmi, .ref zmo, .ref zmf, .ref zmg, .ref zmn, .long yp, .long yq, .int yw, .long yx], aI G zmp 32 tb_perm, aI G zm1 56 tb_c1, aI G zm2 48 tb_c2, aI G zmx 512 tb_box, aJ G zmh 6 yv, aZ G zmt 6 yt, aI G zmu 16 yu, aZ G zme 16 ye, aJ G zma 16 ya, aJ G zmb 16 yb, aZ G zmk 8 yk, aJ G zmc 8 yc, aJ G zmd 8 yd, aJ G zmi 8 yi, aI G zmo 8 yo, aJ G zmf 5 yf, aJ G zmg 8 yg, aJ G zmn 16 (g_M_sealBlock_zmn yn (yl ^^^ (5570193308531903821 : Int64)) (yr ^^^ (5570193308531903821 : Int64)))]) rfl ?_
  refine pv_lstore_n (ll2 := [(1, .long (f_M_sealBlock (yl ^^^ (5570193308531903821 : Int64)) (yr ^^^ (5570193308531903821 : Int64)) ((yf 0) ^^^ (0 : Int64)))), (3, .int 0), (0, .ref zm)]) X d_M_codeOfBlock_37 (by decide) rfl ?_
  refine pv_iinc (ll2 := [(3, .int 1), (1, .long (f_M_sealBlock (yl ^^^ (5570193308531903821 : Int64)) (yr ^^^ (5570193308531903821 : Int64)) ((yf 0) ^^^ (0 : Int64)))), (0, .ref zm)]) X 1 (1) d_M_codeOfBlock_38 rfl (by decide) (by decide) rfl ?_
  refine pv_goto X 4 d_M_codeOfBlock_41 rfl ?_
  refine pv_iload_n X 0 d_M_codeOfBlock_4 rfl ?_
  refine pv_iconst X 4 d_M_codeOfBlock_5 (by decide) ?_
  refine pv_icmp_ge X 44 d_M_codeOfBlock_6 rfl (fun h => absurd h (by decide)) (fun _ => ?_)
  refine pv_aload_n X 2 d_M_codeOfBlock_9 rfl ?_
  refine pv_aload_n X 2 d_M_codeOfBlock_10 rfl ?_
  refine pv_get X 0 8 u_M_in m_582 rfl rfl (by decide) ⟨rfl, rfl, rfl⟩ rfl d_M_codeOfBlock_11 ?_
  refine pv_ldc2_w X m_765 d_M_codeOfBlock_14 ?_
  refine pv_lxor X d_M_codeOfBlock_17 ?_
  refine pv_aload_n X 2 d_M_codeOfBlock_18 rfl ?_
  refine pv_get X 0 9 u_M_in m_583 rfl rfl (by decide) ⟨rfl, rfl, rfl⟩ rfl d_M_codeOfBlock_19 ?_
  refine pv_ldc2_w X m_765 d_M_codeOfBlock_22 ?_
  refine pv_lxor X d_M_codeOfBlock_25 ?_
  refine pv_aload_n X 2 d_M_codeOfBlock_26 rfl ?_
  refine pv_get X 0 19 u_M_in m_593 rfl rfl (by decide) ⟨rfl, rfl, rfl⟩ rfl d_M_codeOfBlock_27 ?_
  refine pv_iload_n X 0 d_M_codeOfBlock_30 rfl ?_
  refine pv_lald X 16 rfl (by unfold vp_in; decide) d_M_codeOfBlock_31 ?_
  refine pv_topl (yf 1) rfl ?_
  refine pv_lload_n X 1 d_M_codeOfBlock_32 rfl ?_
  refine pv_lxor X d_M_codeOfBlock_33 ?_
  refine pv_calllE X (Cut.all _) (rn_V X (c_M_sealBlock l G zm zmp zm1 zm2 zmx zmh zmt zmu zme zma zmb zmk zmc zmd zmi zmo zmf zmg zmn th ys yl yr yv yt yu ye ya yb yk yc yd yi yo yf yg (g_M_sealBlock_zmn yn (yl ^^^ (5570193308531903821 : Int64)) (yr ^^^ (5570193308531903821 : Int64))) yp yq yw yx (yl ^^^ (5570193308531903821 : Int64)) (yr ^^^ (5570193308531903821 : Int64)) ((yf 1) ^^^ (f_M_sealBlock (yl ^^^ (5570193308531903821 : Int64)) (yr ^^^ (5570193308531903821 : Int64)) ((yf 0) ^^^ (0 : Int64)))) ) trivial mf_M_sealBlock m_682 m_684 ms_14 rfl 0 rfl rfl rfl (by decide) (by decide) rfl (Nat.le_of_ble_eq_true rfl) d_M_codeOfBlock_34) (fun x2 => ?_)
  refine pv_eqw (ws2 := [ob zm 5 [.ref zmp, .ref zm1, .ref zm2, .ref zmx, .int th, .ref zmh, .ref zmt, .int ys, .long yl, .long yr, .ref zmu, .ref zme, .ref zma, .ref zmb, .ref zmk, .ref zmc, .ref zmd, .ref zmi, .ref zmo, .ref zmf, .ref zmg, .ref zmn, .long yp, .long yq, .int yw, .long yx], aI G zmp 32 tb_perm, aI G zm1 56 tb_c1, aI G zm2 48 tb_c2, aI G zmx 512 tb_box, aJ G zmh 6 yv, aZ G zmt 6 yt, aI G zmu 16 yu, aZ G zme 16 ye, aJ G zma 16 ya, aJ G zmb 16 yb, aZ G zmk 8 yk, aJ G zmc 8 yc, aJ G zmd 8 yd, aJ G zmi 8 yi, aI G zmo 8 yo, aJ G zmf 5 yf, aJ G zmg 8 yg, aJ G zmn 16 (g_M_sealBlock_zmn (g_M_sealBlock_zmn yn (yl ^^^ (5570193308531903821 : Int64)) (yr ^^^ (5570193308531903821 : Int64))) (yl ^^^ (5570193308531903821 : Int64)) (yr ^^^ (5570193308531903821 : Int64)))]) rfl ?_
  refine pv_lstore_n (ll2 := [(1, .long (f_M_sealBlock (yl ^^^ (5570193308531903821 : Int64)) (yr ^^^ (5570193308531903821 : Int64)) ((yf 1) ^^^ (f_M_sealBlock (yl ^^^ (5570193308531903821 : Int64)) (yr ^^^ (5570193308531903821 : Int64)) ((yf 0) ^^^ (0 : Int64)))))), (3, .int 1), (0, .ref zm)]) X d_M_codeOfBlock_37 (by decide) rfl ?_
  refine pv_iinc (ll2 := [(3, .int 2), (1, .long (f_M_sealBlock (yl ^^^ (5570193308531903821 : Int64)) (yr ^^^ (5570193308531903821 : Int64)) ((yf 1) ^^^ (f_M_sealBlock (yl ^^^ (5570193308531903821 : Int64)) (yr ^^^ (5570193308531903821 : Int64)) ((yf 0) ^^^ (0 : Int64)))))), (0, .ref zm)]) X 1 (2) d_M_codeOfBlock_38 rfl (by decide) (by decide) rfl ?_
  refine pv_goto X 4 d_M_codeOfBlock_41 rfl ?_
  refine pv_iload_n X 0 d_M_codeOfBlock_4 rfl ?_
  refine pv_iconst X 4 d_M_codeOfBlock_5 (by decide) ?_
  refine pv_icmp_ge X 44 d_M_codeOfBlock_6 rfl (fun h => absurd h (by decide)) (fun _ => ?_)
  refine pv_aload_n X 2 d_M_codeOfBlock_9 rfl ?_
  refine pv_aload_n X 2 d_M_codeOfBlock_10 rfl ?_
  refine pv_get X 0 8 u_M_in m_582 rfl rfl (by decide) ⟨rfl, rfl, rfl⟩ rfl d_M_codeOfBlock_11 ?_
  refine pv_ldc2_w X m_765 d_M_codeOfBlock_14 ?_
  refine pv_lxor X d_M_codeOfBlock_17 ?_
  refine pv_aload_n X 2 d_M_codeOfBlock_18 rfl ?_
  refine pv_get X 0 9 u_M_in m_583 rfl rfl (by decide) ⟨rfl, rfl, rfl⟩ rfl d_M_codeOfBlock_19 ?_
  refine pv_ldc2_w X m_765 d_M_codeOfBlock_22 ?_
  refine pv_lxor X d_M_codeOfBlock_25 ?_
  refine pv_aload_n X 2 d_M_codeOfBlock_26 rfl ?_
  refine pv_get X 0 19 u_M_in m_593 rfl rfl (by decide) ⟨rfl, rfl, rfl⟩ rfl d_M_codeOfBlock_27 ?_
  refine pv_iload_n X 0 d_M_codeOfBlock_30 rfl ?_
  refine pv_lald X 16 rfl (by unfold vp_in; decide) d_M_codeOfBlock_31 ?_
  refine pv_topl (yf 2) rfl ?_
  refine pv_lload_n X 1 d_M_codeOfBlock_32 rfl ?_
  refine pv_lxor X d_M_codeOfBlock_33 ?_
  refine pv_calllE X (Cut.all _) (rn_V X (c_M_sealBlock l G zm zmp zm1 zm2 zmx zmh zmt zmu zme zma zmb zmk zmc zmd zmi zmo zmf zmg zmn th ys yl yr yv yt yu ye ya yb yk yc yd yi yo yf yg (g_M_sealBlock_zmn (g_M_sealBlock_zmn yn (yl ^^^ (5570193308531903821 : Int64)) (yr ^^^ (5570193308531903821 : Int64))) (yl ^^^ (5570193308531903821 : Int64)) (yr ^^^ (5570193308531903821 : Int64))) yp yq yw yx (yl ^^^ (5570193308531903821 : Int64)) (yr ^^^ (5570193308531903821 : Int64)) ((yf 2) ^^^ (f_M_sealBlock (yl ^^^ (5570193308531903821 : Int64)) (yr ^^^ (5570193308531903821 : Int64)) ((yf 1) ^^^ (f_M_sealBlock (yl ^^^ (5570193308531903821 : Int64)) (yr ^^^ (5570193308531903821 : Int64)) ((yf 0) ^^^ (0 : Int64)))))) ) trivial mf_M_sealBlock m_682 m_684 ms_14 rfl 0 rfl rfl rfl (by decide) (by decide) rfl (Nat.le_of_ble_eq_true rfl) d_M_codeOfBlock_34) (fun x3 => ?_)
  refine pv_eqw (ws2 := [ob zm 5 [.ref zmp, .ref zm1, .ref zm2, .ref zmx, .int th, .ref zmh, .ref zmt, .int ys, .long yl, .long yr, .ref zmu, .ref zme, .ref zma, .ref zmb, .ref zmk, .ref zmc, .ref zmd, .ref zmi, .ref zmo, .ref zmf, .ref zmg, .ref zmn, .long yp, .long yq, .int yw, .long yx], aI G zmp 32 tb_perm, aI G zm1 56 tb_c1, aI G zm2 48 tb_c2, aI G zmx 512 tb_box, aJ G zmh 6 yv, aZ G zmt 6 yt, aI G zmu 16 yu, aZ G zme 16 ye, aJ G zma 16 ya, aJ G zmb 16 yb, aZ G zmk 8 yk, aJ G zmc 8 yc, aJ G zmd 8 yd, aJ G zmi 8 yi, aI G zmo 8 yo, aJ G zmf 5 yf, aJ G zmg 8 yg, aJ G zmn 16 (g_M_sealBlock_zmn (g_M_sealBlock_zmn (g_M_sealBlock_zmn yn (yl ^^^ (5570193308531903821 : Int64)) (yr ^^^ (5570193308531903821 : Int64))) (yl ^^^ (5570193308531903821 : Int64)) (yr ^^^ (5570193308531903821 : Int64))) (yl ^^^ (5570193308531903821 : Int64)) (yr ^^^ (5570193308531903821 : Int64)))]) rfl ?_
  refine pv_lstore_n (ll2 := [(1, .long (f_M_sealBlock (yl ^^^ (5570193308531903821 : Int64)) (yr ^^^ (5570193308531903821 : Int64)) ((yf 2) ^^^ (f_M_sealBlock (yl ^^^ (5570193308531903821 : Int64)) (yr ^^^ (5570193308531903821 : Int64)) ((yf 1) ^^^ (f_M_sealBlock (yl ^^^ (5570193308531903821 : Int64)) (yr ^^^ (5570193308531903821 : Int64)) ((yf 0) ^^^ (0 : Int64)))))))), (3, .int 2), (0, .ref zm)]) X d_M_codeOfBlock_37 (by decide) rfl ?_
  refine pv_iinc (ll2 := [(3, .int 3), (1, .long (f_M_sealBlock (yl ^^^ (5570193308531903821 : Int64)) (yr ^^^ (5570193308531903821 : Int64)) ((yf 2) ^^^ (f_M_sealBlock (yl ^^^ (5570193308531903821 : Int64)) (yr ^^^ (5570193308531903821 : Int64)) ((yf 1) ^^^ (f_M_sealBlock (yl ^^^ (5570193308531903821 : Int64)) (yr ^^^ (5570193308531903821 : Int64)) ((yf 0) ^^^ (0 : Int64)))))))), (0, .ref zm)]) X 1 (3) d_M_codeOfBlock_38 rfl (by decide) (by decide) rfl ?_
  refine pv_goto X 4 d_M_codeOfBlock_41 rfl ?_
  refine pv_iload_n X 0 d_M_codeOfBlock_4 rfl ?_
  refine pv_iconst X 4 d_M_codeOfBlock_5 (by decide) ?_
  refine pv_icmp_ge X 44 d_M_codeOfBlock_6 rfl (fun h => absurd h (by decide)) (fun _ => ?_)
  refine pv_aload_n X 2 d_M_codeOfBlock_9 rfl ?_
  refine pv_aload_n X 2 d_M_codeOfBlock_10 rfl ?_
  refine pv_get X 0 8 u_M_in m_582 rfl rfl (by decide) ⟨rfl, rfl, rfl⟩ rfl d_M_codeOfBlock_11 ?_
  refine pv_ldc2_w X m_765 d_M_codeOfBlock_14 ?_
  refine pv_lxor X d_M_codeOfBlock_17 ?_
  refine pv_aload_n X 2 d_M_codeOfBlock_18 rfl ?_
  refine pv_get X 0 9 u_M_in m_583 rfl rfl (by decide) ⟨rfl, rfl, rfl⟩ rfl d_M_codeOfBlock_19 ?_
  refine pv_ldc2_w X m_765 d_M_codeOfBlock_22 ?_
  refine pv_lxor X d_M_codeOfBlock_25 ?_
  refine pv_aload_n X 2 d_M_codeOfBlock_26 rfl ?_
  refine pv_get X 0 19 u_M_in m_593 rfl rfl (by decide) ⟨rfl, rfl, rfl⟩ rfl d_M_codeOfBlock_27 ?_
  refine pv_iload_n X 0 d_M_codeOfBlock_30 rfl ?_
  refine pv_lald X 16 rfl (by unfold vp_in; decide) d_M_codeOfBlock_31 ?_
  refine pv_topl (yf 3) rfl ?_
  refine pv_lload_n X 1 d_M_codeOfBlock_32 rfl ?_
  refine pv_lxor X d_M_codeOfBlock_33 ?_
  refine pv_calllE X (Cut.all _) (rn_V X (c_M_sealBlock l G zm zmp zm1 zm2 zmx zmh zmt zmu zme zma zmb zmk zmc zmd zmi zmo zmf zmg zmn th ys yl yr yv yt yu ye ya yb yk yc yd yi yo yf yg (g_M_sealBlock_zmn (g_M_sealBlock_zmn (g_M_sealBlock_zmn yn (yl ^^^ (5570193308531903821 : Int64)) (yr ^^^ (5570193308531903821 : Int64))) (yl ^^^ (5570193308531903821 : Int64)) (yr ^^^ (5570193308531903821 : Int64))) (yl ^^^ (5570193308531903821 : Int64)) (yr ^^^ (5570193308531903821 : Int64))) yp yq yw yx (yl ^^^ (5570193308531903821 : Int64)) (yr ^^^ (5570193308531903821 : Int64)) ((yf 3) ^^^ (f_M_sealBlock (yl ^^^ (5570193308531903821 : Int64)) (yr ^^^ (5570193308531903821 : Int64)) ((yf 2) ^^^ (f_M_sealBlock (yl ^^^ (5570193308531903821 : Int64)) (yr ^^^ (5570193308531903821 : Int64)) ((yf 1) ^^^ (f_M_sealBlock (yl ^^^ (5570193308531903821 : Int64)) (yr ^^^ (5570193308531903821 : Int64)) ((yf 0) ^^^ (0 : Int64)))))))) ) trivial mf_M_sealBlock m_682 m_684 ms_14 rfl 0 rfl rfl rfl (by decide) (by decide) rfl (Nat.le_of_ble_eq_true rfl) d_M_codeOfBlock_34) (fun x4 => ?_)
  refine pv_eqw (ws2 := [ob zm 5 [.ref zmp, .ref zm1, .ref zm2, .ref zmx, .int th, .ref zmh, .ref zmt, .int ys, .long yl, .long yr, .ref zmu, .ref zme, .ref zma, .ref zmb, .ref zmk, .ref zmc, .ref zmd, .ref zmi, .ref zmo, .ref zmf, .ref zmg, .ref zmn, .long yp, .long yq, .int yw, .long yx], aI G zmp 32 tb_perm, aI G zm1 56 tb_c1, aI G zm2 48 tb_c2, aI G zmx 512 tb_box, aJ G zmh 6 yv, aZ G zmt 6 yt, aI G zmu 16 yu, aZ G zme 16 ye, aJ G zma 16 ya, aJ G zmb 16 yb, aZ G zmk 8 yk, aJ G zmc 8 yc, aJ G zmd 8 yd, aJ G zmi 8 yi, aI G zmo 8 yo, aJ G zmf 5 yf, aJ G zmg 8 yg, aJ G zmn 16 (g_M_sealBlock_zmn (g_M_sealBlock_zmn (g_M_sealBlock_zmn (g_M_sealBlock_zmn yn (yl ^^^ (5570193308531903821 : Int64)) (yr ^^^ (5570193308531903821 : Int64))) (yl ^^^ (5570193308531903821 : Int64)) (yr ^^^ (5570193308531903821 : Int64))) (yl ^^^ (5570193308531903821 : Int64)) (yr ^^^ (5570193308531903821 : Int64))) (yl ^^^ (5570193308531903821 : Int64)) (yr ^^^ (5570193308531903821 : Int64)))]) rfl ?_
  refine pv_lstore_n (ll2 := [(1, .long (f_M_sealBlock (yl ^^^ (5570193308531903821 : Int64)) (yr ^^^ (5570193308531903821 : Int64)) ((yf 3) ^^^ (f_M_sealBlock (yl ^^^ (5570193308531903821 : Int64)) (yr ^^^ (5570193308531903821 : Int64)) ((yf 2) ^^^ (f_M_sealBlock (yl ^^^ (5570193308531903821 : Int64)) (yr ^^^ (5570193308531903821 : Int64)) ((yf 1) ^^^ (f_M_sealBlock (yl ^^^ (5570193308531903821 : Int64)) (yr ^^^ (5570193308531903821 : Int64)) ((yf 0) ^^^ (0 : Int64)))))))))), (3, .int 3), (0, .ref zm)]) X d_M_codeOfBlock_37 (by decide) rfl ?_
  refine pv_iinc (ll2 := [(3, .int 4), (1, .long (f_M_sealBlock (yl ^^^ (5570193308531903821 : Int64)) (yr ^^^ (5570193308531903821 : Int64)) ((yf 3) ^^^ (f_M_sealBlock (yl ^^^ (5570193308531903821 : Int64)) (yr ^^^ (5570193308531903821 : Int64)) ((yf 2) ^^^ (f_M_sealBlock (yl ^^^ (5570193308531903821 : Int64)) (yr ^^^ (5570193308531903821 : Int64)) ((yf 1) ^^^ (f_M_sealBlock (yl ^^^ (5570193308531903821 : Int64)) (yr ^^^ (5570193308531903821 : Int64)) ((yf 0) ^^^ (0 : Int64)))))))))), (0, .ref zm)]) X 1 (4) d_M_codeOfBlock_38 rfl (by decide) (by decide) rfl ?_
  refine pv_goto X 4 d_M_codeOfBlock_41 rfl ?_
  refine pv_iload_n X 0 d_M_codeOfBlock_4 rfl ?_
  refine pv_iconst X 4 d_M_codeOfBlock_5 (by decide) ?_
  refine pv_icmp_ge X 44 d_M_codeOfBlock_6 rfl (fun _ => ?_) (fun h => absurd (by decide) h)
  refine pv_lload_n X 1 d_M_codeOfBlock_44 rfl ?_
  exact pv_lret X hr hlk () rfl (by simp only [g_M_codeOfBlock_zmn]) d_M_codeOfBlock_45
def f_M_wrap (ys : Int32) (yu : Nat → Int32) (ye : Nat → Int32) (k : Int32) : Int32 := if ys = 0 then (-1) else (if (f_M_isSlot k) = 0 then (-2) else (if (0 : Int32) ≤ (yu k.toNatClampNeg) then (if (ye k.toNatClampNeg) = 0 then (-5) else 40) else (-3)))
def g_M_wrap_zm_4  : Int32 := 0
def g_M_wrap_zmf (ys : Int32) (yl : Int64) (yr : Int64) (yu : Nat → Int32) (ye : Nat → Int32) (ya : Nat → Int64) (yb : Nat → Int64) (yf : Nat → Int64) (k : Int32) : Nat → Int64 := if ys = 0 then yf else (if (f_M_isSlot k) = 0 then yf else (if (0 : Int32) ≤ (yu k.toNatClampNeg) then (if (ye k.toNatClampNeg) = 0 then yf else (vp_updL (vp_updL (vp_updL (vp_updL (vp_updL yf 0 (f_M_header (yu k.toNatClampNeg))) 1 (f_M_sealBlock yl yr (((36028797018963968 : Int64) ||| (((ya k.toNatClampNeg).toUInt64 >>> ((16 : Int32).toInt64.toUInt64 &&& Int64.toUInt64 63)).toInt64)) ^^^ (f_M_header (yu k.toNatClampNeg))))) 2 (f_M_sealBlock yl yr ((((ya k.toNatClampNeg) <<< ((48 : Int32).toInt64 &&& 63)) ||| (((yb k.toNatClampNeg).toUInt64 >>> ((16 : Int32).toInt64.toUInt64 &&& Int64.toUInt64 63)).toInt64)) ^^^ (f_M_sealBlock yl yr (((36028797018963968 : Int64) ||| (((ya k.toNatClampNeg).toUInt64 >>> ((16 : Int32).toInt64.toUInt64 &&& Int64.toUInt64 63)).toInt64)) ^^^ (f_M_header (yu k.toNatClampNeg))))))) 3 (f_M_sealBlock yl yr (((yb k.toNatClampNeg) <<< ((48 : Int32).toInt64 &&& 63)) ^^^ (f_M_sealBlock yl yr ((((ya k.toNatClampNeg) <<< ((48 : Int32).toInt64 &&& 63)) ||| (((yb k.toNatClampNeg).toUInt64 >>> ((16 : Int32).toInt64.toUInt64 &&& Int64.toUInt64 63)).toInt64)) ^^^ (f_M_sealBlock yl yr (((36028797018963968 : Int64) ||| (((ya k.toNatClampNeg).toUInt64 >>> ((16 : Int32).toInt64.toUInt64 &&& Int64.toUInt64 63)).toInt64)) ^^^ (f_M_header (yu k.toNatClampNeg))))))))) 4 (f_M_codeOfBlock yl yr (vp_updL (vp_updL (vp_updL (vp_updL yf 0 (f_M_header (yu k.toNatClampNeg))) 1 (f_M_sealBlock yl yr (((36028797018963968 : Int64) ||| (((ya k.toNatClampNeg).toUInt64 >>> ((16 : Int32).toInt64.toUInt64 &&& Int64.toUInt64 63)).toInt64)) ^^^ (f_M_header (yu k.toNatClampNeg))))) 2 (f_M_sealBlock yl yr ((((ya k.toNatClampNeg) <<< ((48 : Int32).toInt64 &&& 63)) ||| (((yb k.toNatClampNeg).toUInt64 >>> ((16 : Int32).toInt64.toUInt64 &&& Int64.toUInt64 63)).toInt64)) ^^^ (f_M_sealBlock yl yr (((36028797018963968 : Int64) ||| (((ya k.toNatClampNeg).toUInt64 >>> ((16 : Int32).toInt64.toUInt64 &&& Int64.toUInt64 63)).toInt64)) ^^^ (f_M_header (yu k.toNatClampNeg))))))) 3 (f_M_sealBlock yl yr (((yb k.toNatClampNeg) <<< ((48 : Int32).toInt64 &&& 63)) ^^^ (f_M_sealBlock yl yr ((((ya k.toNatClampNeg) <<< ((48 : Int32).toInt64 &&& 63)) ||| (((yb k.toNatClampNeg).toUInt64 >>> ((16 : Int32).toInt64.toUInt64 &&& Int64.toUInt64 63)).toInt64)) ^^^ (f_M_sealBlock yl yr (((36028797018963968 : Int64) ||| (((ya k.toNatClampNeg).toUInt64 >>> ((16 : Int32).toInt64.toUInt64 &&& Int64.toUInt64 63)).toInt64)) ^^^ (f_M_header (yu k.toNatClampNeg)))))))))))) else yf))
abbrev rm_M_wrap : Room := { frames := 5, cells := 0, slots := 0, locals := 139 }
theorem mf_M_wrap : MF y_M_wrap b_M_wrap 6 (some .int) 1 := ⟨m_744, m_6, by decide, by decide, by decide +kernel⟩
theorem d_M_wrap_0 : decode b_M_wrap 0 = .ok (.aload_n 0, 1) := by decide +kernel
theorem d_M_wrap_1 : decode b_M_wrap 1 = .ok (.iconst 0, 1) := by decide +kernel
theorem d_M_wrap_2 : decode b_M_wrap 2 = .ok (.putfield 66, 3) := by decide +kernel
theorem d_M_wrap_5 : decode b_M_wrap 5 = .ok (.aload_n 0, 1) := by decide +kernel
theorem d_M_wrap_6 : decode b_M_wrap 6 = .ok (.getfield 108, 3) := by decide +kernel
theorem d_M_wrap_9 : decode b_M_wrap 9 = .ok (.ifCond .ne 5, 3) := by decide +kernel
theorem d_M_wrap_12 : decode b_M_wrap 12 = .ok (.iconst (-1), 1) := by decide +kernel
theorem d_M_wrap_13 : decode b_M_wrap 13 = .ok (.ireturn, 1) := by decide +kernel
theorem d_M_wrap_14 : decode b_M_wrap 14 = .ok (.iload_n 1, 1) := by decide +kernel
theorem d_M_wrap_15 : decode b_M_wrap 15 = .ok (.invokestatic 137, 3) := by decide +kernel
theorem d_M_wrap_18 : decode b_M_wrap 18 = .ok (.ifCond .ne 6, 3) := by decide +kernel
theorem d_M_wrap_21 : decode b_M_wrap 21 = .ok (.bipush (-2), 2) := by decide +kernel
theorem d_M_wrap_23 : decode b_M_wrap 23 = .ok (.ireturn, 1) := by decide +kernel
theorem d_M_wrap_24 : decode b_M_wrap 24 = .ok (.aload_n 0, 1) := by decide +kernel
theorem d_M_wrap_25 : decode b_M_wrap 25 = .ok (.getfield 30, 3) := by decide +kernel
theorem d_M_wrap_28 : decode b_M_wrap 28 = .ok (.iload_n 1, 1) := by decide +kernel
theorem d_M_wrap_29 : decode b_M_wrap 29 = .ok (.iaload, 1) := by decide +kernel
theorem d_M_wrap_30 : decode b_M_wrap 30 = .ok (.ifCond .ge 6, 3) := by decide +kernel
theorem d_M_wrap_33 : decode b_M_wrap 33 = .ok (.bipush (-3), 2) := by decide +kernel
theorem d_M_wrap_35 : decode b_M_wrap 35 = .ok (.ireturn, 1) := by decide +kernel
theorem d_M_wrap_36 : decode b_M_wrap 36 = .ok (.aload_n 0, 1) := by decide +kernel
theorem d_M_wrap_37 : decode b_M_wrap 37 = .ok (.getfield 33, 3) := by decide +kernel
theorem d_M_wrap_40 : decode b_M_wrap 40 = .ok (.iload_n 1, 1) := by decide +kernel
theorem d_M_wrap_41 : decode b_M_wrap 41 = .ok (.baload, 1) := by decide +kernel
theorem d_M_wrap_42 : decode b_M_wrap 42 = .ok (.ifCond .ne 6, 3) := by decide +kernel
theorem d_M_wrap_45 : decode b_M_wrap 45 = .ok (.bipush (-5), 2) := by decide +kernel
theorem d_M_wrap_47 : decode b_M_wrap 47 = .ok (.ireturn, 1) := by decide +kernel
theorem d_M_wrap_48 : decode b_M_wrap 48 = .ok (.aload_n 0, 1) := by decide +kernel
theorem d_M_wrap_49 : decode b_M_wrap 49 = .ok (.getfield 36, 3) := by decide +kernel
theorem d_M_wrap_52 : decode b_M_wrap 52 = .ok (.iload_n 1, 1) := by decide +kernel
theorem d_M_wrap_53 : decode b_M_wrap 53 = .ok (.laload, 1) := by decide +kernel
theorem d_M_wrap_54 : decode b_M_wrap 54 = .ok (.lstore_n 2, 1) := by decide +kernel
theorem d_M_wrap_55 : decode b_M_wrap 55 = .ok (.aload_n 0, 1) := by decide +kernel
theorem d_M_wrap_56 : decode b_M_wrap 56 = .ok (.getfield 39, 3) := by decide +kernel
theorem d_M_wrap_59 : decode b_M_wrap 59 = .ok (.iload_n 1, 1) := by decide +kernel
theorem d_M_wrap_60 : decode b_M_wrap 60 = .ok (.laload, 1) := by decide +kernel
theorem d_M_wrap_61 : decode b_M_wrap 61 = .ok (.lstore 4, 2) := by decide +kernel
theorem d_M_wrap_63 : decode b_M_wrap 63 = .ok (.aload_n 0, 1) := by decide +kernel
theorem d_M_wrap_64 : decode b_M_wrap 64 = .ok (.getfield 57, 3) := by decide +kernel
theorem d_M_wrap_67 : decode b_M_wrap 67 = .ok (.iconst 0, 1) := by decide +kernel
theorem d_M_wrap_68 : decode b_M_wrap 68 = .ok (.aload_n 0, 1) := by decide +kernel
theorem d_M_wrap_69 : decode b_M_wrap 69 = .ok (.getfield 30, 3) := by decide +kernel
theorem d_M_wrap_72 : decode b_M_wrap 72 = .ok (.iload_n 1, 1) := by decide +kernel
theorem d_M_wrap_73 : decode b_M_wrap 73 = .ok (.iaload, 1) := by decide +kernel
theorem d_M_wrap_74 : decode b_M_wrap 74 = .ok (.invokestatic 171, 3) := by decide +kernel
theorem d_M_wrap_77 : decode b_M_wrap 77 = .ok (.lastore, 1) := by decide +kernel
theorem d_M_wrap_78 : decode b_M_wrap 78 = .ok (.aload_n 0, 1) := by decide +kernel
theorem d_M_wrap_79 : decode b_M_wrap 79 = .ok (.getfield 57, 3) := by decide +kernel
theorem d_M_wrap_82 : decode b_M_wrap 82 = .ok (.iconst 1, 1) := by decide +kernel
theorem d_M_wrap_83 : decode b_M_wrap 83 = .ok (.aload_n 0, 1) := by decide +kernel
theorem d_M_wrap_84 : decode b_M_wrap 84 = .ok (.aload_n 0, 1) := by decide +kernel
theorem d_M_wrap_85 : decode b_M_wrap 85 = .ok (.getfield 120, 3) := by decide +kernel
theorem d_M_wrap_88 : decode b_M_wrap 88 = .ok (.aload_n 0, 1) := by decide +kernel
theorem d_M_wrap_89 : decode b_M_wrap 89 = .ok (.getfield 124, 3) := by decide +kernel
theorem d_M_wrap_92 : decode b_M_wrap 92 = .ok (.ldc2_w 174, 3) := by decide +kernel
theorem d_M_wrap_95 : decode b_M_wrap 95 = .ok (.lload_n 2, 1) := by decide +kernel
theorem d_M_wrap_96 : decode b_M_wrap 96 = .ok (.bipush 16, 2) := by decide +kernel
theorem d_M_wrap_98 : decode b_M_wrap 98 = .ok (.lushr, 1) := by decide +kernel
theorem d_M_wrap_99 : decode b_M_wrap 99 = .ok (.lor, 1) := by decide +kernel
theorem d_M_wrap_100 : decode b_M_wrap 100 = .ok (.aload_n 0, 1) := by decide +kernel
theorem d_M_wrap_101 : decode b_M_wrap 101 = .ok (.getfield 57, 3) := by decide +kernel
theorem d_M_wrap_104 : decode b_M_wrap 104 = .ok (.iconst 0, 1) := by decide +kernel
theorem d_M_wrap_105 : decode b_M_wrap 105 = .ok (.laload, 1) := by decide +kernel
theorem d_M_wrap_106 : decode b_M_wrap 106 = .ok (.lxor, 1) := by decide +kernel
theorem d_M_wrap_107 : decode b_M_wrap 107 = .ok (.invokevirtual 98, 3) := by decide +kernel
theorem d_M_wrap_110 : decode b_M_wrap 110 = .ok (.lastore, 1) := by decide +kernel
theorem d_M_wrap_111 : decode b_M_wrap 111 = .ok (.aload_n 0, 1) := by decide +kernel
theorem d_M_wrap_112 : decode b_M_wrap 112 = .ok (.getfield 57, 3) := by decide +kernel
theorem d_M_wrap_115 : decode b_M_wrap 115 = .ok (.iconst 2, 1) := by decide +kernel
theorem d_M_wrap_116 : decode b_M_wrap 116 = .ok (.aload_n 0, 1) := by decide +kernel
theorem d_M_wrap_117 : decode b_M_wrap 117 = .ok (.aload_n 0, 1) := by decide +kernel
theorem d_M_wrap_118 : decode b_M_wrap 118 = .ok (.getfield 120, 3) := by decide +kernel
theorem d_M_wrap_121 : decode b_M_wrap 121 = .ok (.aload_n 0, 1) := by decide +kernel
theorem d_M_wrap_122 : decode b_M_wrap 122 = .ok (.getfield 124, 3) := by decide +kernel
theorem d_M_wrap_125 : decode b_M_wrap 125 = .ok (.lload_n 2, 1) := by decide +kernel
theorem d_M_wrap_126 : decode b_M_wrap 126 = .ok (.bipush 48, 2) := by decide +kernel
theorem d_M_wrap_128 : decode b_M_wrap 128 = .ok (.lshl, 1) := by decide +kernel
theorem d_M_wrap_129 : decode b_M_wrap 129 = .ok (.lload 4, 2) := by decide +kernel
theorem d_M_wrap_131 : decode b_M_wrap 131 = .ok (.bipush 16, 2) := by decide +kernel
theorem d_M_wrap_133 : decode b_M_wrap 133 = .ok (.lushr, 1) := by decide +kernel
theorem d_M_wrap_134 : decode b_M_wrap 134 = .ok (.lor, 1) := by decide +kernel
theorem d_M_wrap_135 : decode b_M_wrap 135 = .ok (.aload_n 0, 1) := by decide +kernel
theorem d_M_wrap_136 : decode b_M_wrap 136 = .ok (.getfield 57, 3) := by decide +kernel
theorem d_M_wrap_139 : decode b_M_wrap 139 = .ok (.iconst 1, 1) := by decide +kernel
theorem d_M_wrap_140 : decode b_M_wrap 140 = .ok (.laload, 1) := by decide +kernel
theorem d_M_wrap_141 : decode b_M_wrap 141 = .ok (.lxor, 1) := by decide +kernel
theorem d_M_wrap_142 : decode b_M_wrap 142 = .ok (.invokevirtual 98, 3) := by decide +kernel
theorem d_M_wrap_145 : decode b_M_wrap 145 = .ok (.lastore, 1) := by decide +kernel
theorem d_M_wrap_146 : decode b_M_wrap 146 = .ok (.aload_n 0, 1) := by decide +kernel
theorem d_M_wrap_147 : decode b_M_wrap 147 = .ok (.getfield 57, 3) := by decide +kernel
theorem d_M_wrap_150 : decode b_M_wrap 150 = .ok (.iconst 3, 1) := by decide +kernel
theorem d_M_wrap_151 : decode b_M_wrap 151 = .ok (.aload_n 0, 1) := by decide +kernel
theorem d_M_wrap_152 : decode b_M_wrap 152 = .ok (.aload_n 0, 1) := by decide +kernel
theorem d_M_wrap_153 : decode b_M_wrap 153 = .ok (.getfield 120, 3) := by decide +kernel
theorem d_M_wrap_156 : decode b_M_wrap 156 = .ok (.aload_n 0, 1) := by decide +kernel
theorem d_M_wrap_157 : decode b_M_wrap 157 = .ok (.getfield 124, 3) := by decide +kernel
theorem d_M_wrap_160 : decode b_M_wrap 160 = .ok (.lload 4, 2) := by decide +kernel
theorem d_M_wrap_162 : decode b_M_wrap 162 = .ok (.bipush 48, 2) := by decide +kernel
theorem d_M_wrap_164 : decode b_M_wrap 164 = .ok (.lshl, 1) := by decide +kernel
theorem d_M_wrap_165 : decode b_M_wrap 165 = .ok (.aload_n 0, 1) := by decide +kernel
theorem d_M_wrap_166 : decode b_M_wrap 166 = .ok (.getfield 57, 3) := by decide +kernel
theorem d_M_wrap_169 : decode b_M_wrap 169 = .ok (.iconst 2, 1) := by decide +kernel
theorem d_M_wrap_170 : decode b_M_wrap 170 = .ok (.laload, 1) := by decide +kernel
theorem d_M_wrap_171 : decode b_M_wrap 171 = .ok (.lxor, 1) := by decide +kernel
theorem d_M_wrap_172 : decode b_M_wrap 172 = .ok (.invokevirtual 98, 3) := by decide +kernel
theorem d_M_wrap_175 : decode b_M_wrap 175 = .ok (.lastore, 1) := by decide +kernel
theorem d_M_wrap_176 : decode b_M_wrap 176 = .ok (.aload_n 0, 1) := by decide +kernel
theorem d_M_wrap_177 : decode b_M_wrap 177 = .ok (.getfield 57, 3) := by decide +kernel
theorem d_M_wrap_180 : decode b_M_wrap 180 = .ok (.iconst 4, 1) := by decide +kernel
theorem d_M_wrap_181 : decode b_M_wrap 181 = .ok (.aload_n 0, 1) := by decide +kernel
theorem d_M_wrap_182 : decode b_M_wrap 182 = .ok (.invokevirtual 176, 3) := by decide +kernel
theorem d_M_wrap_185 : decode b_M_wrap 185 = .ok (.lastore, 1) := by decide +kernel
theorem d_M_wrap_186 : decode b_M_wrap 186 = .ok (.bipush 40, 2) := by decide +kernel
theorem d_M_wrap_188 : decode b_M_wrap 188 = .ok (.ireturn, 1) := by decide +kernel
set_option maxRecDepth 100000 in
set_option maxHeartbeats 4000000 in
theorem c_M_wrap (l : Launch) (G : Gt) (zm zmp zm1 zm2 zmx zmh zmt zmu zme zma zmb zmk zmc zmd zmi zmo zmf zmg zmn : Nat) (th ys : Int32) (yl yr : Int64) (yv : Nat → Int64) (yt yu ye : Nat → Int32) (ya yb : Nat → Int64) (yk : Nat → Int32) (yc yd yi : Nat → Int64) (yo : Nat → Int32) (yf yg yn : Nat → Int64) (yp yq : Int64) (yw : Int32) (yx : Int64) (k : Int32) : CtI l G y_M_wrap b_M_wrap 6 (some .int) rm_M_wrap E0 [.ref zm, .int k] [ob zm 5 [.ref zmp, .ref zm1, .ref zm2, .ref zmx, .int th, .ref zmh, .ref zmt, .int ys, .long yl, .long yr, .ref zmu, .ref zme, .ref zma, .ref zmb, .ref zmk, .ref zmc, .ref zmd, .ref zmi, .ref zmo, .ref zmf, .ref zmg, .ref zmn, .long yp, .long yq, .int yw, .long yx], aI G zmp 32 tb_perm, aI G zm1 56 tb_c1, aI G zm2 48 tb_c2, aI G zmx 512 tb_box, aJ G zmh 6 yv, aZ G zmt 6 yt, aI G zmu 16 yu, aZ G zme 16 ye, aJ G zma 16 ya, aJ G zmb 16 yb, aZ G zmk 8 yk, aJ G zmc 8 yc, aJ G zmd 8 yd, aJ G zmi 8 yi, aI G zmo 8 yo, aJ G zmf 5 yf, aJ G zmg 8 yg, aJ G zmn 16 yn] (fun r (_ : (Nat → Int64)) => r = f_M_wrap ys yu ye k) (fun x => [ob zm 5 [.ref zmp, .ref zm1, .ref zm2, .ref zmx, .int g_M_wrap_zm_4, .ref zmh, .ref zmt, .int ys, .long yl, .long yr, .ref zmu, .ref zme, .ref zma, .ref zmb, .ref zmk, .ref zmc, .ref zmd, .ref zmi, .ref zmo, .ref zmf, .ref zmg, .ref zmn, .long yp, .long yq, .int yw, .long yx], aI G zmp 32 tb_perm, aI G zm1 56 tb_c1, aI G zm2 48 tb_c2, aI G zmx 512 tb_box, aJ G zmh 6 yv, aZ G zmt 6 yt, aI G zmu 16 yu, aZ G zme 16 ye, aJ G zma 16 ya, aJ G zmb 16 yb, aZ G zmk 8 yk, aJ G zmc 8 yc, aJ G zmd 8 yd, aJ G zmi 8 yi, aI G zmo 8 yo, aJ G zmf 5 (g_M_wrap_zmf ys yl yr yu ye ya yb yf k), aJ G zmg 8 yg, aJ G zmn 16 x]) 0 0 := by
  refine Ct.of (Qp := fun A => va_Qi _ (qB G A _) A) Stb_0 (by decide) (Nat.le_of_ble_eq_true rfl) ?_
  intro p e s m args below meth c A X hE hr hlk hini
  refine pv_eql (ll2 := [(0, .ref zm), (1, .int k)]) rfl ?_
  refine pv_aload_n X 0 d_M_wrap_0 rfl ?_
  refine pv_iconst X 0 d_M_wrap_1 (by decide) ?_
  refine pv_put X (ty := .int) (ws2 := [ob zm 5 [.ref zmp, .ref zm1, .ref zm2, .ref zmx, .int 0, .ref zmh, .ref zmt, .int ys, .long yl, .long yr, .ref zmu, .ref zme, .ref zma, .ref zmb, .ref zmk, .ref zmc, .ref zmd, .ref zmi, .ref zmo, .ref zmf, .ref zmg, .ref zmn, .long yp, .long yq, .int yw, .long yx], aI G zmp 32 tb_perm, aI G zm1 56 tb_c1, aI G zm2 48 tb_c2, aI G zmx 512 tb_box, aJ G zmh 6 yv, aZ G zmt 6 yt, aI G zmu 16 yu, aZ G zme 16 ye, aJ G zma 16 ya, aJ G zmb 16 yb, aZ G zmk 8 yk, aJ G zmc 8 yc, aJ G zmd 8 yd, aJ G zmi 8 yi, aI G zmo 8 yo, aJ G zmf 5 yf, aJ G zmg 8 yg, aJ G zmn 16 yn]) 0 4 ty_M ty_M_ok n_M u_M_in m_578 rfl rfl (by decide) ⟨rfl, rfl, rfl⟩ rfl (by decide +kernel) rfl rfl (Nat.le_of_ble_eq_true rfl) rfl d_M_wrap_2 ?_
  refine pv_aload_n X 0 d_M_wrap_5 rfl ?_
  refine pv_get X 0 7 u_M_in m_581 rfl rfl (by decide) ⟨rfl, rfl, rfl⟩ rfl d_M_wrap_6 ?_
  refine pv_if_ne X 14 d_M_wrap_9 rfl (fun h1 => ?_) (fun h1n => ?_)
  · skip
    refine pv_iload_n X 1 d_M_wrap_14 rfl ?_
    refine pv_calli0 X (rn_S X (c_M_isSlot l G k) trivial mf_M_isSlot m_724 m_725 rfl (by decide) (by decide) rfl (Nat.le_of_ble_eq_true rfl) d_M_wrap_15) ?_
    refine pv_if_ne X 24 d_M_wrap_18 rfl (fun h3 => ?_) (fun h3n => ?_)
    · skip
      refine pv_aload_n X 0 d_M_wrap_24 rfl ?_
      refine pv_get X 0 10 u_M_in m_584 rfl rfl (by decide) ⟨rfl, rfl, rfl⟩ rfl d_M_wrap_25 ?_
      refine pv_iload_n X 1 d_M_wrap_28 rfl ?_
      refine pv_iald X 7 rfl (Mslot_in h3) d_M_wrap_29 ?_
      refine pv_if_ge X 36 d_M_wrap_30 rfl (fun h4 => ?_) (fun h4n => ?_)
      · skip
        refine pv_aload_n X 0 d_M_wrap_36 rfl ?_
        refine pv_get X 0 11 u_M_in m_585 rfl rfl (by decide) ⟨rfl, rfl, rfl⟩ rfl d_M_wrap_37 ?_
        refine pv_iload_n X 1 d_M_wrap_40 rfl ?_
        refine pv_zald X 8 rfl (Mslot_in h3) d_M_wrap_41 ?_
        refine pv_if_ne X 48 d_M_wrap_42 rfl (fun h5 => ?_) (fun h5n => ?_)
        · skip
          refine pv_aload_n X 0 d_M_wrap_48 rfl ?_
          refine pv_get X 0 12 u_M_in m_586 rfl rfl (by decide) ⟨rfl, rfl, rfl⟩ rfl d_M_wrap_49 ?_
          refine pv_iload_n X 1 d_M_wrap_52 rfl ?_
          refine pv_lald X 9 rfl (Mslot_in h3) d_M_wrap_53 ?_
          refine pv_lstore_n (ll2 := [(2, .long (ya k.toNatClampNeg)), (0, .ref zm), (1, .int k)]) X d_M_wrap_54 (by decide) rfl ?_
          refine pv_aload_n X 1 d_M_wrap_55 rfl ?_
          refine pv_get X 0 13 u_M_in m_587 rfl rfl (by decide) ⟨rfl, rfl, rfl⟩ rfl d_M_wrap_56 ?_
          refine pv_iload_n X 2 d_M_wrap_59 rfl ?_
          refine pv_lald X 10 rfl (Mslot_in h3) d_M_wrap_60 ?_
          refine pv_lstore (ll2 := [(4, .long (yb k.toNatClampNeg)), (2, .long (ya k.toNatClampNeg)), (0, .ref zm), (1, .int k)]) X d_M_wrap_61 (by decide) rfl ?_
          refine pv_aload_n X 2 d_M_wrap_63 rfl ?_
          refine pv_get X 0 19 u_M_in m_593 rfl rfl (by decide) ⟨rfl, rfl, rfl⟩ rfl d_M_wrap_64 ?_
          refine pv_iconst X 0 d_M_wrap_67 (by decide) ?_
          refine pv_aload_n X 2 d_M_wrap_68 rfl ?_
          refine pv_get X 0 10 u_M_in m_584 rfl rfl (by decide) ⟨rfl, rfl, rfl⟩ rfl d_M_wrap_69 ?_
          refine pv_iload_n X 3 d_M_wrap_72 rfl ?_
          refine pv_iald X 7 rfl (Mslot_in h3) d_M_wrap_73 ?_
          refine pv_calll0 X (rn_S X (c_M_header l G (yu k.toNatClampNeg)) trivial mf_M_header m_745 m_746 rfl (by decide) (by decide) rfl (Nat.le_of_ble_eq_true rfl) d_M_wrap_74) ?_
          refine pv_last (ws2 := [ob zm 5 [.ref zmp, .ref zm1, .ref zm2, .ref zmx, .int 0, .ref zmh, .ref zmt, .int ys, .long yl, .long yr, .ref zmu, .ref zme, .ref zma, .ref zmb, .ref zmk, .ref zmc, .ref zmd, .ref zmi, .ref zmo, .ref zmf, .ref zmg, .ref zmn, .long yp, .long yq, .int yw, .long yx], aI G zmp 32 tb_perm, aI G zm1 56 tb_c1, aI G zm2 48 tb_c2, aI G zmx 512 tb_box, aJ G zmh 6 yv, aZ G zmt 6 yt, aI G zmu 16 yu, aZ G zme 16 ye, aJ G zma 16 ya, aJ G zmb 16 yb, aZ G zmk 8 yk, aJ G zmc 8 yc, aJ G zmd 8 yd, aJ G zmi 8 yi, aI G zmo 8 yo, aJ G zmf 5 (vp_updL yf 0 (f_M_header (yu k.toNatClampNeg))), aJ G zmg 8 yg, aJ G zmn 16 yn]) X 16 rfl (by unfold vp_in; decide) rfl d_M_wrap_77 ?_
          refine pv_aload_n X 2 d_M_wrap_78 rfl ?_
          refine pv_get X 0 19 u_M_in m_593 rfl rfl (by decide) ⟨rfl, rfl, rfl⟩ rfl d_M_wrap_79 ?_
          refine pv_iconst X 1 d_M_wrap_82 (by decide) ?_
          refine pv_aload_n X 2 d_M_wrap_83 rfl ?_
          refine pv_aload_n X 2 d_M_wrap_84 rfl ?_
          refine pv_get X 0 8 u_M_in m_582 rfl rfl (by decide) ⟨rfl, rfl, rfl⟩ rfl d_M_wrap_85 ?_
          refine pv_aload_n X 2 d_M_wrap_88 rfl ?_
          refine pv_get X 0 9 u_M_in m_583 rfl rfl (by decide) ⟨rfl, rfl, rfl⟩ rfl d_M_wrap_89 ?_
          refine pv_ldc2_w X m_760 d_M_wrap_92 ?_
          refine pv_lload_n X 1 d_M_wrap_95 rfl ?_
          refine pv_bipush X 16 d_M_wrap_96 (by decide) ?_
          refine pv_lushr X d_M_wrap_98 ?_
          refine pv_lor X d_M_wrap_99 ?_
          refine pv_aload_n X 2 d_M_wrap_100 rfl ?_
          refine pv_get X 0 19 u_M_in m_593 rfl rfl (by decide) ⟨rfl, rfl, rfl⟩ rfl d_M_wrap_101 ?_
          refine pv_iconst X 0 d_M_wrap_104 (by decide) ?_
          refine pv_lald X 16 rfl (by unfold vp_in; decide) d_M_wrap_105 ?_
          refine pv_topl (f_M_header (yu k.toNatClampNeg)) rfl ?_
          refine pv_lxor X d_M_wrap_106 ?_
          refine pv_calllE X (Cut.all _) (rn_V X (c_M_sealBlock l G zm zmp zm1 zm2 zmx zmh zmt zmu zme zma zmb zmk zmc zmd zmi zmo zmf zmg zmn 0 ys yl yr yv yt yu ye ya yb yk yc yd yi yo (vp_updL yf 0 (f_M_header (yu k.toNatClampNeg))) yg yn yp yq yw yx yl yr (((36028797018963968 : Int64) ||| (((ya k.toNatClampNeg).toUInt64 >>> ((16 : Int32).toInt64.toUInt64 &&& Int64.toUInt64 63)).toInt64)) ^^^ (f_M_header (yu k.toNatClampNeg))) ) trivial mf_M_sealBlock m_682 m_684 ms_14 rfl 0 rfl rfl rfl (by decide) (by decide) rfl (Nat.le_of_ble_eq_true rfl) d_M_wrap_107) (fun x7 => ?_)
          refine pv_eqw (ws2 := [ob zm 5 [.ref zmp, .ref zm1, .ref zm2, .ref zmx, .int 0, .ref zmh, .ref zmt, .int ys, .long yl, .long yr, .ref zmu, .ref zme, .ref zma, .ref zmb, .ref zmk, .ref zmc, .ref zmd, .ref zmi, .ref zmo, .ref zmf, .ref zmg, .ref zmn, .long yp, .long yq, .int yw, .long yx], aI G zmp 32 tb_perm, aI G zm1 56 tb_c1, aI G zm2 48 tb_c2, aI G zmx 512 tb_box, aJ G zmh 6 yv, aZ G zmt 6 yt, aI G zmu 16 yu, aZ G zme 16 ye, aJ G zma 16 ya, aJ G zmb 16 yb, aZ G zmk 8 yk, aJ G zmc 8 yc, aJ G zmd 8 yd, aJ G zmi 8 yi, aI G zmo 8 yo, aJ G zmf 5 (vp_updL yf 0 (f_M_header (yu k.toNatClampNeg))), aJ G zmg 8 yg, aJ G zmn 16 (g_M_sealBlock_zmn yn yl yr)]) rfl ?_
          refine pv_last (ws2 := [ob zm 5 [.ref zmp, .ref zm1, .ref zm2, .ref zmx, .int 0, .ref zmh, .ref zmt, .int ys, .long yl, .long yr, .ref zmu, .ref zme, .ref zma, .ref zmb, .ref zmk, .ref zmc, .ref zmd, .ref zmi, .ref zmo, .ref zmf, .ref zmg, .ref zmn, .long yp, .long yq, .int yw, .long yx], aI G zmp 32 tb_perm, aI G zm1 56 tb_c1, aI G zm2 48 tb_c2, aI G zmx 512 tb_box, aJ G zmh 6 yv, aZ G zmt 6 yt, aI G zmu 16 yu, aZ G zme 16 ye, aJ G zma 16 ya, aJ G zmb 16 yb, aZ G zmk 8 yk, aJ G zmc 8 yc, aJ G zmd 8 yd, aJ G zmi 8 yi, aI G zmo 8 yo, aJ G zmf 5 (vp_updL (vp_updL yf 0 (f_M_header (yu k.toNatClampNeg))) 1 (f_M_sealBlock yl yr (((36028797018963968 : Int64) ||| (((ya k.toNatClampNeg).toUInt64 >>> ((16 : Int32).toInt64.toUInt64 &&& Int64.toUInt64 63)).toInt64)) ^^^ (f_M_header (yu k.toNatClampNeg))))), aJ G zmg 8 yg, aJ G zmn 16 (g_M_sealBlock_zmn yn yl yr)]) X 16 rfl (by unfold vp_in; decide) rfl d_M_wrap_110 ?_
          refine pv_aload_n X 2 d_M_wrap_111 rfl ?_
          refine pv_get X 0 19 u_M_in m_593 rfl rfl (by decide) ⟨rfl, rfl, rfl⟩ rfl d_M_wrap_112 ?_
          refine pv_iconst X 2 d_M_wrap_115 (by decide) ?_
          refine pv_aload_n X 2 d_M_wrap_116 rfl ?_
          refine pv_aload_n X 2 d_M_wrap_117 rfl ?_
          refine pv_get X 0 8 u_M_in m_582 rfl rfl (by decide) ⟨rfl, rfl, rfl⟩ rfl d_M_wrap_118 ?_
          refine pv_aload_n X 2 d_M_wrap_121 rfl ?_
          refine pv_get X 0 9 u_M_in m_583 rfl rfl (by decide) ⟨rfl, rfl, rfl⟩ rfl d_M_wrap_122 ?_
          refine pv_lload_n X 1 d_M_wrap_125 rfl ?_
          refine pv_bipush X 48 d_M_wrap_126 (by decide) ?_
          refine pv_lshl X d_M_wrap_128 ?_
          refine pv_lload X 0 d_M_wrap_129 rfl ?_
          refine pv_bipush X 16 d_M_wrap_131 (by decide) ?_
          refine pv_lushr X d_M_wrap_133 ?_
          refine pv_lor X d_M_wrap_134 ?_
          refine pv_aload_n X 2 d_M_wrap_135 rfl ?_
          refine pv_get X 0 19 u_M_in m_593 rfl rfl (by decide) ⟨rfl, rfl, rfl⟩ rfl d_M_wrap_136 ?_
          refine pv_iconst X 1 d_M_wrap_139 (by decide) ?_
          refine pv_lald X 16 rfl (by unfold vp_in; decide) d_M_wrap_140 ?_
          refine pv_topl (f_M_sealBlock yl yr (((36028797018963968 : Int64) ||| (((ya k.toNatClampNeg).toUInt64 >>> ((16 : Int32).toInt64.toUInt64 &&& Int64.toUInt64 63)).toInt64)) ^^^ (f_M_header (yu k.toNatClampNeg)))) rfl ?_
          refine pv_lxor X d_M_wrap_141 ?_
          refine pv_calllE X (Cut.all _) (rn_V X (c_M_sealBlock l G zm zmp zm1 zm2 zmx zmh zmt zmu zme zma zmb zmk zmc zmd zmi zmo zmf zmg zmn 0 ys yl yr yv yt yu ye ya yb yk yc yd yi yo (vp_updL (vp_updL yf 0 (f_M_header (yu k.toNatClampNeg))) 1 (f_M_sealBlock yl yr (((36028797018963968 : Int64) ||| (((ya k.toNatClampNeg).toUInt64 >>> ((16 : Int32).toInt64.toUInt64 &&& Int64.toUInt64 63)).toInt64)) ^^^ (f_M_header (yu k.toNatClampNeg))))) yg (g_M_sealBlock_zmn yn yl yr) yp yq yw yx yl yr ((((ya k.toNatClampNeg) <<< ((48 : Int32).toInt64 &&& 63)) ||| (((yb k.toNatClampNeg).toUInt64 >>> ((16 : Int32).toInt64.toUInt64 &&& Int64.toUInt64 63)).toInt64)) ^^^ (f_M_sealBlock yl yr (((36028797018963968 : Int64) ||| (((ya k.toNatClampNeg).toUInt64 >>> ((16 : Int32).toInt64.toUInt64 &&& Int64.toUInt64 63)).toInt64)) ^^^ (f_M_header (yu k.toNatClampNeg))))) ) trivial mf_M_sealBlock m_682 m_684 ms_14 rfl 0 rfl rfl rfl (by decide) (by decide) rfl (Nat.le_of_ble_eq_true rfl) d_M_wrap_142) (fun x8 => ?_)
          refine pv_eqw (ws2 := [ob zm 5 [.ref zmp, .ref zm1, .ref zm2, .ref zmx, .int 0, .ref zmh, .ref zmt, .int ys, .long yl, .long yr, .ref zmu, .ref zme, .ref zma, .ref zmb, .ref zmk, .ref zmc, .ref zmd, .ref zmi, .ref zmo, .ref zmf, .ref zmg, .ref zmn, .long yp, .long yq, .int yw, .long yx], aI G zmp 32 tb_perm, aI G zm1 56 tb_c1, aI G zm2 48 tb_c2, aI G zmx 512 tb_box, aJ G zmh 6 yv, aZ G zmt 6 yt, aI G zmu 16 yu, aZ G zme 16 ye, aJ G zma 16 ya, aJ G zmb 16 yb, aZ G zmk 8 yk, aJ G zmc 8 yc, aJ G zmd 8 yd, aJ G zmi 8 yi, aI G zmo 8 yo, aJ G zmf 5 (vp_updL (vp_updL yf 0 (f_M_header (yu k.toNatClampNeg))) 1 (f_M_sealBlock yl yr (((36028797018963968 : Int64) ||| (((ya k.toNatClampNeg).toUInt64 >>> ((16 : Int32).toInt64.toUInt64 &&& Int64.toUInt64 63)).toInt64)) ^^^ (f_M_header (yu k.toNatClampNeg))))), aJ G zmg 8 yg, aJ G zmn 16 (g_M_sealBlock_zmn (g_M_sealBlock_zmn yn yl yr) yl yr)]) rfl ?_
          refine pv_last (ws2 := [ob zm 5 [.ref zmp, .ref zm1, .ref zm2, .ref zmx, .int 0, .ref zmh, .ref zmt, .int ys, .long yl, .long yr, .ref zmu, .ref zme, .ref zma, .ref zmb, .ref zmk, .ref zmc, .ref zmd, .ref zmi, .ref zmo, .ref zmf, .ref zmg, .ref zmn, .long yp, .long yq, .int yw, .long yx], aI G zmp 32 tb_perm, aI G zm1 56 tb_c1, aI G zm2 48 tb_c2, aI G zmx 512 tb_box, aJ G zmh 6 yv, aZ G zmt 6 yt, aI G zmu 16 yu, aZ G zme 16 ye, aJ G zma 16 ya, aJ G zmb 16 yb, aZ G zmk 8 yk, aJ G zmc 8 yc, aJ G zmd 8 yd, aJ G zmi 8 yi, aI G zmo 8 yo, aJ G zmf 5 (vp_updL (vp_updL (vp_updL yf 0 (f_M_header (yu k.toNatClampNeg))) 1 (f_M_sealBlock yl yr (((36028797018963968 : Int64) ||| (((ya k.toNatClampNeg).toUInt64 >>> ((16 : Int32).toInt64.toUInt64 &&& Int64.toUInt64 63)).toInt64)) ^^^ (f_M_header (yu k.toNatClampNeg))))) 2 (f_M_sealBlock yl yr ((((ya k.toNatClampNeg) <<< ((48 : Int32).toInt64 &&& 63)) ||| (((yb k.toNatClampNeg).toUInt64 >>> ((16 : Int32).toInt64.toUInt64 &&& Int64.toUInt64 63)).toInt64)) ^^^ (f_M_sealBlock yl yr (((36028797018963968 : Int64) ||| (((ya k.toNatClampNeg).toUInt64 >>> ((16 : Int32).toInt64.toUInt64 &&& Int64.toUInt64 63)).toInt64)) ^^^ (f_M_header (yu k.toNatClampNeg))))))), aJ G zmg 8 yg, aJ G zmn 16 (g_M_sealBlock_zmn (g_M_sealBlock_zmn yn yl yr) yl yr)]) X 16 rfl (by unfold vp_in; decide) rfl d_M_wrap_145 ?_
          refine pv_aload_n X 2 d_M_wrap_146 rfl ?_
          refine pv_get X 0 19 u_M_in m_593 rfl rfl (by decide) ⟨rfl, rfl, rfl⟩ rfl d_M_wrap_147 ?_
          refine pv_iconst X 3 d_M_wrap_150 (by decide) ?_
          refine pv_aload_n X 2 d_M_wrap_151 rfl ?_
          refine pv_aload_n X 2 d_M_wrap_152 rfl ?_
          refine pv_get X 0 8 u_M_in m_582 rfl rfl (by decide) ⟨rfl, rfl, rfl⟩ rfl d_M_wrap_153 ?_
          refine pv_aload_n X 2 d_M_wrap_156 rfl ?_
          refine pv_get X 0 9 u_M_in m_583 rfl rfl (by decide) ⟨rfl, rfl, rfl⟩ rfl d_M_wrap_157 ?_
          refine pv_lload X 0 d_M_wrap_160 rfl ?_
          refine pv_bipush X 48 d_M_wrap_162 (by decide) ?_
          refine pv_lshl X d_M_wrap_164 ?_
          refine pv_aload_n X 2 d_M_wrap_165 rfl ?_
          refine pv_get X 0 19 u_M_in m_593 rfl rfl (by decide) ⟨rfl, rfl, rfl⟩ rfl d_M_wrap_166 ?_
          refine pv_iconst X 2 d_M_wrap_169 (by decide) ?_
          refine pv_lald X 16 rfl (by unfold vp_in; decide) d_M_wrap_170 ?_
          refine pv_topl (f_M_sealBlock yl yr ((((ya k.toNatClampNeg) <<< ((48 : Int32).toInt64 &&& 63)) ||| (((yb k.toNatClampNeg).toUInt64 >>> ((16 : Int32).toInt64.toUInt64 &&& Int64.toUInt64 63)).toInt64)) ^^^ (f_M_sealBlock yl yr (((36028797018963968 : Int64) ||| (((ya k.toNatClampNeg).toUInt64 >>> ((16 : Int32).toInt64.toUInt64 &&& Int64.toUInt64 63)).toInt64)) ^^^ (f_M_header (yu k.toNatClampNeg)))))) rfl ?_
          refine pv_lxor X d_M_wrap_171 ?_
          refine pv_calllE X (Cut.all _) (rn_V X (c_M_sealBlock l G zm zmp zm1 zm2 zmx zmh zmt zmu zme zma zmb zmk zmc zmd zmi zmo zmf zmg zmn 0 ys yl yr yv yt yu ye ya yb yk yc yd yi yo (vp_updL (vp_updL (vp_updL yf 0 (f_M_header (yu k.toNatClampNeg))) 1 (f_M_sealBlock yl yr (((36028797018963968 : Int64) ||| (((ya k.toNatClampNeg).toUInt64 >>> ((16 : Int32).toInt64.toUInt64 &&& Int64.toUInt64 63)).toInt64)) ^^^ (f_M_header (yu k.toNatClampNeg))))) 2 (f_M_sealBlock yl yr ((((ya k.toNatClampNeg) <<< ((48 : Int32).toInt64 &&& 63)) ||| (((yb k.toNatClampNeg).toUInt64 >>> ((16 : Int32).toInt64.toUInt64 &&& Int64.toUInt64 63)).toInt64)) ^^^ (f_M_sealBlock yl yr (((36028797018963968 : Int64) ||| (((ya k.toNatClampNeg).toUInt64 >>> ((16 : Int32).toInt64.toUInt64 &&& Int64.toUInt64 63)).toInt64)) ^^^ (f_M_header (yu k.toNatClampNeg))))))) yg (g_M_sealBlock_zmn (g_M_sealBlock_zmn yn yl yr) yl yr) yp yq yw yx yl yr (((yb k.toNatClampNeg) <<< ((48 : Int32).toInt64 &&& 63)) ^^^ (f_M_sealBlock yl yr ((((ya k.toNatClampNeg) <<< ((48 : Int32).toInt64 &&& 63)) ||| (((yb k.toNatClampNeg).toUInt64 >>> ((16 : Int32).toInt64.toUInt64 &&& Int64.toUInt64 63)).toInt64)) ^^^ (f_M_sealBlock yl yr (((36028797018963968 : Int64) ||| (((ya k.toNatClampNeg).toUInt64 >>> ((16 : Int32).toInt64.toUInt64 &&& Int64.toUInt64 63)).toInt64)) ^^^ (f_M_header (yu k.toNatClampNeg))))))) ) trivial mf_M_sealBlock m_682 m_684 ms_14 rfl 0 rfl rfl rfl (by decide) (by decide) rfl (Nat.le_of_ble_eq_true rfl) d_M_wrap_172) (fun x9 => ?_)
          refine pv_eqw (ws2 := [ob zm 5 [.ref zmp, .ref zm1, .ref zm2, .ref zmx, .int 0, .ref zmh, .ref zmt, .int ys, .long yl, .long yr, .ref zmu, .ref zme, .ref zma, .ref zmb, .ref zmk, .ref zmc, .ref zmd, .ref zmi, .ref zmo, .ref zmf, .ref zmg, .ref zmn, .long yp, .long yq, .int yw, .long yx], aI G zmp 32 tb_perm, aI G zm1 56 tb_c1, aI G zm2 48 tb_c2, aI G zmx 512 tb_box, aJ G zmh 6 yv, aZ G zmt 6 yt, aI G zmu 16 yu, aZ G zme 16 ye, aJ G zma 16 ya, aJ G zmb 16 yb, aZ G zmk 8 yk, aJ G zmc 8 yc, aJ G zmd 8 yd, aJ G zmi 8 yi, aI G zmo 8 yo, aJ G zmf 5 (vp_updL (vp_updL (vp_updL yf 0 (f_M_header (yu k.toNatClampNeg))) 1 (f_M_sealBlock yl yr (((36028797018963968 : Int64) ||| (((ya k.toNatClampNeg).toUInt64 >>> ((16 : Int32).toInt64.toUInt64 &&& Int64.toUInt64 63)).toInt64)) ^^^ (f_M_header (yu k.toNatClampNeg))))) 2 (f_M_sealBlock yl yr ((((ya k.toNatClampNeg) <<< ((48 : Int32).toInt64 &&& 63)) ||| (((yb k.toNatClampNeg).toUInt64 >>> ((16 : Int32).toInt64.toUInt64 &&& Int64.toUInt64 63)).toInt64)) ^^^ (f_M_sealBlock yl yr (((36028797018963968 : Int64) ||| (((ya k.toNatClampNeg).toUInt64 >>> ((16 : Int32).toInt64.toUInt64 &&& Int64.toUInt64 63)).toInt64)) ^^^ (f_M_header (yu k.toNatClampNeg))))))), aJ G zmg 8 yg, aJ G zmn 16 (g_M_sealBlock_zmn (g_M_sealBlock_zmn (g_M_sealBlock_zmn yn yl yr) yl yr) yl yr)]) rfl ?_
          refine pv_last (ws2 := [ob zm 5 [.ref zmp, .ref zm1, .ref zm2, .ref zmx, .int 0, .ref zmh, .ref zmt, .int ys, .long yl, .long yr, .ref zmu, .ref zme, .ref zma, .ref zmb, .ref zmk, .ref zmc, .ref zmd, .ref zmi, .ref zmo, .ref zmf, .ref zmg, .ref zmn, .long yp, .long yq, .int yw, .long yx], aI G zmp 32 tb_perm, aI G zm1 56 tb_c1, aI G zm2 48 tb_c2, aI G zmx 512 tb_box, aJ G zmh 6 yv, aZ G zmt 6 yt, aI G zmu 16 yu, aZ G zme 16 ye, aJ G zma 16 ya, aJ G zmb 16 yb, aZ G zmk 8 yk, aJ G zmc 8 yc, aJ G zmd 8 yd, aJ G zmi 8 yi, aI G zmo 8 yo, aJ G zmf 5 (vp_updL (vp_updL (vp_updL (vp_updL yf 0 (f_M_header (yu k.toNatClampNeg))) 1 (f_M_sealBlock yl yr (((36028797018963968 : Int64) ||| (((ya k.toNatClampNeg).toUInt64 >>> ((16 : Int32).toInt64.toUInt64 &&& Int64.toUInt64 63)).toInt64)) ^^^ (f_M_header (yu k.toNatClampNeg))))) 2 (f_M_sealBlock yl yr ((((ya k.toNatClampNeg) <<< ((48 : Int32).toInt64 &&& 63)) ||| (((yb k.toNatClampNeg).toUInt64 >>> ((16 : Int32).toInt64.toUInt64 &&& Int64.toUInt64 63)).toInt64)) ^^^ (f_M_sealBlock yl yr (((36028797018963968 : Int64) ||| (((ya k.toNatClampNeg).toUInt64 >>> ((16 : Int32).toInt64.toUInt64 &&& Int64.toUInt64 63)).toInt64)) ^^^ (f_M_header (yu k.toNatClampNeg))))))) 3 (f_M_sealBlock yl yr (((yb k.toNatClampNeg) <<< ((48 : Int32).toInt64 &&& 63)) ^^^ (f_M_sealBlock yl yr ((((ya k.toNatClampNeg) <<< ((48 : Int32).toInt64 &&& 63)) ||| (((yb k.toNatClampNeg).toUInt64 >>> ((16 : Int32).toInt64.toUInt64 &&& Int64.toUInt64 63)).toInt64)) ^^^ (f_M_sealBlock yl yr (((36028797018963968 : Int64) ||| (((ya k.toNatClampNeg).toUInt64 >>> ((16 : Int32).toInt64.toUInt64 &&& Int64.toUInt64 63)).toInt64)) ^^^ (f_M_header (yu k.toNatClampNeg))))))))), aJ G zmg 8 yg, aJ G zmn 16 (g_M_sealBlock_zmn (g_M_sealBlock_zmn (g_M_sealBlock_zmn yn yl yr) yl yr) yl yr)]) X 16 rfl (by unfold vp_in; decide) rfl d_M_wrap_175 ?_
          refine pv_aload_n X 2 d_M_wrap_176 rfl ?_
          refine pv_get X 0 19 u_M_in m_593 rfl rfl (by decide) ⟨rfl, rfl, rfl⟩ rfl d_M_wrap_177 ?_
          refine pv_iconst X 4 d_M_wrap_180 (by decide) ?_
          refine pv_aload_n X 2 d_M_wrap_181 rfl ?_
          refine pv_calllE X (Cut.all _) (rn_V X (c_M_codeOfBlock l G zm zmp zm1 zm2 zmx zmh zmt zmu zme zma zmb zmk zmc zmd zmi zmo zmf zmg zmn 0 ys yl yr yv yt yu ye ya yb yk yc yd yi yo (vp_updL (vp_updL (vp_updL (vp_updL yf 0 (f_M_header (yu k.toNatClampNeg))) 1 (f_M_sealBlock yl yr (((36028797018963968 : Int64) ||| (((ya k.toNatClampNeg).toUInt64 >>> ((16 : Int32).toInt64.toUInt64 &&& Int64.toUInt64 63)).toInt64)) ^^^ (f_M_header (yu k.toNatClampNeg))))) 2 (f_M_sealBlock yl yr ((((ya k.toNatClampNeg) <<< ((48 : Int32).toInt64 &&& 63)) ||| (((yb k.toNatClampNeg).toUInt64 >>> ((16 : Int32).toInt64.toUInt64 &&& Int64.toUInt64 63)).toInt64)) ^^^ (f_M_sealBlock yl yr (((36028797018963968 : Int64) ||| (((ya k.toNatClampNeg).toUInt64 >>> ((16 : Int32).toInt64.toUInt64 &&& Int64.toUInt64 63)).toInt64)) ^^^ (f_M_header (yu k.toNatClampNeg))))))) 3 (f_M_sealBlock yl yr (((yb k.toNatClampNeg) <<< ((48 : Int32).toInt64 &&& 63)) ^^^ (f_M_sealBlock yl yr ((((ya k.toNatClampNeg) <<< ((48 : Int32).toInt64 &&& 63)) ||| (((yb k.toNatClampNeg).toUInt64 >>> ((16 : Int32).toInt64.toUInt64 &&& Int64.toUInt64 63)).toInt64)) ^^^ (f_M_sealBlock yl yr (((36028797018963968 : Int64) ||| (((ya k.toNatClampNeg).toUInt64 >>> ((16 : Int32).toInt64.toUInt64 &&& Int64.toUInt64 63)).toInt64)) ^^^ (f_M_header (yu k.toNatClampNeg))))))))) yg (g_M_sealBlock_zmn (g_M_sealBlock_zmn (g_M_sealBlock_zmn yn yl yr) yl yr) yl yr) yp yq yw yx ) trivial mf_M_codeOfBlock m_761 m_763 ms_19 rfl 0 rfl rfl rfl (by decide) (by decide) rfl (Nat.le_of_ble_eq_true rfl) d_M_wrap_182) (fun x10 => ?_)
          refine pv_eqw (ws2 := [ob zm 5 [.ref zmp, .ref zm1, .ref zm2, .ref zmx, .int 0, .ref zmh, .ref zmt, .int ys, .long yl, .long yr, .ref zmu, .ref zme, .ref zma, .ref zmb, .ref zmk, .ref zmc, .ref zmd, .ref zmi, .ref zmo, .ref zmf, .ref zmg, .ref zmn, .long yp, .long yq, .int yw, .long yx], aI G zmp 32 tb_perm, aI G zm1 56 tb_c1, aI G zm2 48 tb_c2, aI G zmx 512 tb_box, aJ G zmh 6 yv, aZ G zmt 6 yt, aI G zmu 16 yu, aZ G zme 16 ye, aJ G zma 16 ya, aJ G zmb 16 yb, aZ G zmk 8 yk, aJ G zmc 8 yc, aJ G zmd 8 yd, aJ G zmi 8 yi, aI G zmo 8 yo, aJ G zmf 5 (vp_updL (vp_updL (vp_updL (vp_updL yf 0 (f_M_header (yu k.toNatClampNeg))) 1 (f_M_sealBlock yl yr (((36028797018963968 : Int64) ||| (((ya k.toNatClampNeg).toUInt64 >>> ((16 : Int32).toInt64.toUInt64 &&& Int64.toUInt64 63)).toInt64)) ^^^ (f_M_header (yu k.toNatClampNeg))))) 2 (f_M_sealBlock yl yr ((((ya k.toNatClampNeg) <<< ((48 : Int32).toInt64 &&& 63)) ||| (((yb k.toNatClampNeg).toUInt64 >>> ((16 : Int32).toInt64.toUInt64 &&& Int64.toUInt64 63)).toInt64)) ^^^ (f_M_sealBlock yl yr (((36028797018963968 : Int64) ||| (((ya k.toNatClampNeg).toUInt64 >>> ((16 : Int32).toInt64.toUInt64 &&& Int64.toUInt64 63)).toInt64)) ^^^ (f_M_header (yu k.toNatClampNeg))))))) 3 (f_M_sealBlock yl yr (((yb k.toNatClampNeg) <<< ((48 : Int32).toInt64 &&& 63)) ^^^ (f_M_sealBlock yl yr ((((ya k.toNatClampNeg) <<< ((48 : Int32).toInt64 &&& 63)) ||| (((yb k.toNatClampNeg).toUInt64 >>> ((16 : Int32).toInt64.toUInt64 &&& Int64.toUInt64 63)).toInt64)) ^^^ (f_M_sealBlock yl yr (((36028797018963968 : Int64) ||| (((ya k.toNatClampNeg).toUInt64 >>> ((16 : Int32).toInt64.toUInt64 &&& Int64.toUInt64 63)).toInt64)) ^^^ (f_M_header (yu k.toNatClampNeg))))))))), aJ G zmg 8 yg, aJ G zmn 16 (g_M_codeOfBlock_zmn yl yr (g_M_sealBlock_zmn (g_M_sealBlock_zmn (g_M_sealBlock_zmn yn yl yr) yl yr) yl yr))]) rfl ?_
          refine pv_last (ws2 := [ob zm 5 [.ref zmp, .ref zm1, .ref zm2, .ref zmx, .int 0, .ref zmh, .ref zmt, .int ys, .long yl, .long yr, .ref zmu, .ref zme, .ref zma, .ref zmb, .ref zmk, .ref zmc, .ref zmd, .ref zmi, .ref zmo, .ref zmf, .ref zmg, .ref zmn, .long yp, .long yq, .int yw, .long yx], aI G zmp 32 tb_perm, aI G zm1 56 tb_c1, aI G zm2 48 tb_c2, aI G zmx 512 tb_box, aJ G zmh 6 yv, aZ G zmt 6 yt, aI G zmu 16 yu, aZ G zme 16 ye, aJ G zma 16 ya, aJ G zmb 16 yb, aZ G zmk 8 yk, aJ G zmc 8 yc, aJ G zmd 8 yd, aJ G zmi 8 yi, aI G zmo 8 yo, aJ G zmf 5 (vp_updL (vp_updL (vp_updL (vp_updL (vp_updL yf 0 (f_M_header (yu k.toNatClampNeg))) 1 (f_M_sealBlock yl yr (((36028797018963968 : Int64) ||| (((ya k.toNatClampNeg).toUInt64 >>> ((16 : Int32).toInt64.toUInt64 &&& Int64.toUInt64 63)).toInt64)) ^^^ (f_M_header (yu k.toNatClampNeg))))) 2 (f_M_sealBlock yl yr ((((ya k.toNatClampNeg) <<< ((48 : Int32).toInt64 &&& 63)) ||| (((yb k.toNatClampNeg).toUInt64 >>> ((16 : Int32).toInt64.toUInt64 &&& Int64.toUInt64 63)).toInt64)) ^^^ (f_M_sealBlock yl yr (((36028797018963968 : Int64) ||| (((ya k.toNatClampNeg).toUInt64 >>> ((16 : Int32).toInt64.toUInt64 &&& Int64.toUInt64 63)).toInt64)) ^^^ (f_M_header (yu k.toNatClampNeg))))))) 3 (f_M_sealBlock yl yr (((yb k.toNatClampNeg) <<< ((48 : Int32).toInt64 &&& 63)) ^^^ (f_M_sealBlock yl yr ((((ya k.toNatClampNeg) <<< ((48 : Int32).toInt64 &&& 63)) ||| (((yb k.toNatClampNeg).toUInt64 >>> ((16 : Int32).toInt64.toUInt64 &&& Int64.toUInt64 63)).toInt64)) ^^^ (f_M_sealBlock yl yr (((36028797018963968 : Int64) ||| (((ya k.toNatClampNeg).toUInt64 >>> ((16 : Int32).toInt64.toUInt64 &&& Int64.toUInt64 63)).toInt64)) ^^^ (f_M_header (yu k.toNatClampNeg))))))))) 4 (f_M_codeOfBlock yl yr (vp_updL (vp_updL (vp_updL (vp_updL yf 0 (f_M_header (yu k.toNatClampNeg))) 1 (f_M_sealBlock yl yr (((36028797018963968 : Int64) ||| (((ya k.toNatClampNeg).toUInt64 >>> ((16 : Int32).toInt64.toUInt64 &&& Int64.toUInt64 63)).toInt64)) ^^^ (f_M_header (yu k.toNatClampNeg))))) 2 (f_M_sealBlock yl yr ((((ya k.toNatClampNeg) <<< ((48 : Int32).toInt64 &&& 63)) ||| (((yb k.toNatClampNeg).toUInt64 >>> ((16 : Int32).toInt64.toUInt64 &&& Int64.toUInt64 63)).toInt64)) ^^^ (f_M_sealBlock yl yr (((36028797018963968 : Int64) ||| (((ya k.toNatClampNeg).toUInt64 >>> ((16 : Int32).toInt64.toUInt64 &&& Int64.toUInt64 63)).toInt64)) ^^^ (f_M_header (yu k.toNatClampNeg))))))) 3 (f_M_sealBlock yl yr (((yb k.toNatClampNeg) <<< ((48 : Int32).toInt64 &&& 63)) ^^^ (f_M_sealBlock yl yr ((((ya k.toNatClampNeg) <<< ((48 : Int32).toInt64 &&& 63)) ||| (((yb k.toNatClampNeg).toUInt64 >>> ((16 : Int32).toInt64.toUInt64 &&& Int64.toUInt64 63)).toInt64)) ^^^ (f_M_sealBlock yl yr (((36028797018963968 : Int64) ||| (((ya k.toNatClampNeg).toUInt64 >>> ((16 : Int32).toInt64.toUInt64 &&& Int64.toUInt64 63)).toInt64)) ^^^ (f_M_header (yu k.toNatClampNeg))))))))))), aJ G zmg 8 yg, aJ G zmn 16 (g_M_codeOfBlock_zmn yl yr (g_M_sealBlock_zmn (g_M_sealBlock_zmn (g_M_sealBlock_zmn yn yl yr) yl yr) yl yr))]) X 16 rfl (by unfold vp_in; decide) rfl d_M_wrap_185 ?_
          refine pv_bipush X 40 d_M_wrap_186 (by decide) ?_
          exact pv_iret X hr hlk (g_M_codeOfBlock_zmn yl yr (g_M_sealBlock_zmn (g_M_sealBlock_zmn (g_M_sealBlock_zmn yn yl yr) yl yr) yl yr)) (by show _ = f_M_wrap ys yu ye k; simp only [f_M_wrap, if_neg h1, if_neg h3, if_pos h4, if_neg h5]) (by simp only [g_M_wrap_zm_4, g_M_wrap_zmf, if_neg h1, if_neg h3, if_pos h4, if_neg h5]) d_M_wrap_188
        · skip
          refine pv_bipush X (-5) d_M_wrap_45 (by decide) ?_
          exact pv_iret X hr hlk yn (by show _ = f_M_wrap ys yu ye k; simp only [f_M_wrap, if_neg h1, if_neg h3, if_pos h4, if_pos h5n]) (by simp only [g_M_wrap_zm_4, g_M_wrap_zmf, if_neg h1, if_neg h3, if_pos h4, if_pos h5n]) d_M_wrap_47
      · skip
        refine pv_bipush X (-3) d_M_wrap_33 (by decide) ?_
        exact pv_iret X hr hlk yn (by show _ = f_M_wrap ys yu ye k; simp only [f_M_wrap, if_neg h1, if_neg h3, if_neg h4n]) (by simp only [g_M_wrap_zm_4, g_M_wrap_zmf, if_neg h1, if_neg h3, if_neg h4n]) d_M_wrap_35
    · skip
      refine pv_bipush X (-2) d_M_wrap_21 (by decide) ?_
      exact pv_iret X hr hlk yn (by show _ = f_M_wrap ys yu ye k; simp only [f_M_wrap, if_neg h1, if_pos h3n]) (by simp only [g_M_wrap_zm_4, g_M_wrap_zmf, if_neg h1, if_pos h3n]) d_M_wrap_23
  · skip
    refine pv_iconst X (-1) d_M_wrap_12 (by decide) ?_
    exact pv_iret X hr hlk yn (by show _ = f_M_wrap ys yu ye k; simp only [f_M_wrap, if_pos h1n]) (by simp only [g_M_wrap_zm_4, g_M_wrap_zmf, if_pos h1n]) d_M_wrap_13
def muh (h : Int64) : Nat → Int32
  | 0 => -1
  | u + 1 => if lg_cmp h (f_M_header (nI u)) = 0 then nI u else muh h u
def f_M_unwrap (ys : Int32) (yl : Int64) (yr : Int64) (yu : Nat → Int32) (yf : Nat → Int64) (k : Int32) : Int32 := if ys = 0 then (-1) else (if (f_M_isSlot k) = 0 then (-2) else (if (yu k.toNatClampNeg) < 0 then (if (lg_cmp (f_M_codeOfBlock yl yr yf) (yf 4)) = 0 then (if (0 : Int32) ≤ (muh (yf 0) 4) then (if (lg_cmp ((((f_M_openBlock yl yr (yf 1)) ^^^ (yf 0)).toUInt64 >>> ((48 : Int32).toInt64.toUInt64 &&& Int64.toUInt64 63)).toInt64) (128 : Int64)) = 0 then (if (lg_cmp (((f_M_openBlock yl yr (yf 3)) ^^^ (yf 2)) &&& (281474976710655 : Int64)) (0 : Int64)) = 0 then (if (lg_cmp (f_M_odd ((((f_M_openBlock yl yr (yf 1)) ^^^ (yf 0)) <<< ((16 : Int32).toInt64 &&& 63)) ||| ((((f_M_openBlock yl yr (yf 2)) ^^^ (yf 1)).toUInt64 >>> ((48 : Int32).toInt64.toUInt64 &&& Int64.toUInt64 63)).toInt64))) ((((f_M_openBlock yl yr (yf 1)) ^^^ (yf 0)) <<< ((16 : Int32).toInt64 &&& 63)) ||| ((((f_M_openBlock yl yr (yf 2)) ^^^ (yf 1)).toUInt64 >>> ((48 : Int32).toInt64.toUInt64 &&& Int64.toUInt64 63)).toInt64))) = 0 then (if (lg_cmp (f_M_odd ((((f_M_openBlock yl yr (yf 2)) ^^^ (yf 1)) <<< ((16 : Int32).toInt64 &&& 63)) ||| ((((f_M_openBlock yl yr (yf 3)) ^^^ (yf 2)).toUInt64 >>> ((48 : Int32).toInt64.toUInt64 &&& Int64.toUInt64 63)).toInt64))) ((((f_M_openBlock yl yr (yf 2)) ^^^ (yf 1)) <<< ((16 : Int32).toInt64 &&& 63)) ||| ((((f_M_openBlock yl yr (yf 3)) ^^^ (yf 2)).toUInt64 >>> ((48 : Int32).toInt64.toUInt64 &&& Int64.toUInt64 63)).toInt64))) = 0 then (muh (yf 0) 4) else (-6)) else (-6)) else (-6)) else (-6)) else (-6)) else (-6)) else (-3)))
def g_M_unwrap_zm_4  : Int32 := 0
def g_M_unwrap_zmu (ys : Int32) (yl : Int64) (yr : Int64) (yu : Nat → Int32) (yf : Nat → Int64) (k : Int32) : Nat → Int32 := if ys = 0 then yu else (if (f_M_isSlot k) = 0 then yu else (if (yu k.toNatClampNeg) < 0 then (if (lg_cmp (f_M_codeOfBlock yl yr yf) (yf 4)) = 0 then (if (0 : Int32) ≤ (muh (yf 0) 4) then (if (lg_cmp ((((f_M_openBlock yl yr (yf 1)) ^^^ (yf 0)).toUInt64 >>> ((48 : Int32).toInt64.toUInt64 &&& Int64.toUInt64 63)).toInt64) (128 : Int64)) = 0 then (if (lg_cmp (((f_M_openBlock yl yr (yf 3)) ^^^ (yf 2)) &&& (281474976710655 : Int64)) (0 : Int64)) = 0 then (if (lg_cmp (f_M_odd ((((f_M_openBlock yl yr (yf 1)) ^^^ (yf 0)) <<< ((16 : Int32).toInt64 &&& 63)) ||| ((((f_M_openBlock yl yr (yf 2)) ^^^ (yf 1)).toUInt64 >>> ((48 : Int32).toInt64.toUInt64 &&& Int64.toUInt64 63)).toInt64))) ((((f_M_openBlock yl yr (yf 1)) ^^^ (yf 0)) <<< ((16 : Int32).toInt64 &&& 63)) ||| ((((f_M_openBlock yl yr (yf 2)) ^^^ (yf 1)).toUInt64 >>> ((48 : Int32).toInt64.toUInt64 &&& Int64.toUInt64 63)).toInt64))) = 0 then (if (lg_cmp (f_M_odd ((((f_M_openBlock yl yr (yf 2)) ^^^ (yf 1)) <<< ((16 : Int32).toInt64 &&& 63)) ||| ((((f_M_openBlock yl yr (yf 3)) ^^^ (yf 2)).toUInt64 >>> ((48 : Int32).toInt64.toUInt64 &&& Int64.toUInt64 63)).toInt64))) ((((f_M_openBlock yl yr (yf 2)) ^^^ (yf 1)) <<< ((16 : Int32).toInt64 &&& 63)) ||| ((((f_M_openBlock yl yr (yf 3)) ^^^ (yf 2)).toUInt64 >>> ((48 : Int32).toInt64.toUInt64 &&& Int64.toUInt64 63)).toInt64))) = 0 then (g_M_fill_zmu yu k (muh (yf 0) 4)) else yu) else yu) else yu) else yu) else yu) else yu) else yu))
def g_M_unwrap_zme (ys : Int32) (yl : Int64) (yr : Int64) (yu : Nat → Int32) (ye : Nat → Int32) (yf : Nat → Int64) (k : Int32) : Nat → Int32 := if ys = 0 then ye else (if (f_M_isSlot k) = 0 then ye else (if (yu k.toNatClampNeg) < 0 then (if (lg_cmp (f_M_codeOfBlock yl yr yf) (yf 4)) = 0 then (if (0 : Int32) ≤ (muh (yf 0) 4) then (if (lg_cmp ((((f_M_openBlock yl yr (yf 1)) ^^^ (yf 0)).toUInt64 >>> ((48 : Int32).toInt64.toUInt64 &&& Int64.toUInt64 63)).toInt64) (128 : Int64)) = 0 then (if (lg_cmp (((f_M_openBlock yl yr (yf 3)) ^^^ (yf 2)) &&& (281474976710655 : Int64)) (0 : Int64)) = 0 then (if (lg_cmp (f_M_odd ((((f_M_openBlock yl yr (yf 1)) ^^^ (yf 0)) <<< ((16 : Int32).toInt64 &&& 63)) ||| ((((f_M_openBlock yl yr (yf 2)) ^^^ (yf 1)).toUInt64 >>> ((48 : Int32).toInt64.toUInt64 &&& Int64.toUInt64 63)).toInt64))) ((((f_M_openBlock yl yr (yf 1)) ^^^ (yf 0)) <<< ((16 : Int32).toInt64 &&& 63)) ||| ((((f_M_openBlock yl yr (yf 2)) ^^^ (yf 1)).toUInt64 >>> ((48 : Int32).toInt64.toUInt64 &&& Int64.toUInt64 63)).toInt64))) = 0 then (if (lg_cmp (f_M_odd ((((f_M_openBlock yl yr (yf 2)) ^^^ (yf 1)) <<< ((16 : Int32).toInt64 &&& 63)) ||| ((((f_M_openBlock yl yr (yf 3)) ^^^ (yf 2)).toUInt64 >>> ((48 : Int32).toInt64.toUInt64 &&& Int64.toUInt64 63)).toInt64))) ((((f_M_openBlock yl yr (yf 2)) ^^^ (yf 1)) <<< ((16 : Int32).toInt64 &&& 63)) ||| ((((f_M_openBlock yl yr (yf 3)) ^^^ (yf 2)).toUInt64 >>> ((48 : Int32).toInt64.toUInt64 &&& Int64.toUInt64 63)).toInt64))) = 0 then (g_M_fill_zme ye k 1) else ye) else ye) else ye) else ye) else ye) else ye) else ye))
def g_M_unwrap_zma (ys : Int32) (yl : Int64) (yr : Int64) (yu : Nat → Int32) (ya : Nat → Int64) (yf : Nat → Int64) (k : Int32) : Nat → Int64 := if ys = 0 then ya else (if (f_M_isSlot k) = 0 then ya else (if (yu k.toNatClampNeg) < 0 then (if (lg_cmp (f_M_codeOfBlock yl yr yf) (yf 4)) = 0 then (if (0 : Int32) ≤ (muh (yf 0) 4) then (if (lg_cmp ((((f_M_openBlock yl yr (yf 1)) ^^^ (yf 0)).toUInt64 >>> ((48 : Int32).toInt64.toUInt64 &&& Int64.toUInt64 63)).toInt64) (128 : Int64)) = 0 then (if (lg_cmp (((f_M_openBlock yl yr (yf 3)) ^^^ (yf 2)) &&& (281474976710655 : Int64)) (0 : Int64)) = 0 then (if (lg_cmp (f_M_odd ((((f_M_openBlock yl yr (yf 1)) ^^^ (yf 0)) <<< ((16 : Int32).toInt64 &&& 63)) ||| ((((f_M_openBlock yl yr (yf 2)) ^^^ (yf 1)).toUInt64 >>> ((48 : Int32).toInt64.toUInt64 &&& Int64.toUInt64 63)).toInt64))) ((((f_M_openBlock yl yr (yf 1)) ^^^ (yf 0)) <<< ((16 : Int32).toInt64 &&& 63)) ||| ((((f_M_openBlock yl yr (yf 2)) ^^^ (yf 1)).toUInt64 >>> ((48 : Int32).toInt64.toUInt64 &&& Int64.toUInt64 63)).toInt64))) = 0 then (if (lg_cmp (f_M_odd ((((f_M_openBlock yl yr (yf 2)) ^^^ (yf 1)) <<< ((16 : Int32).toInt64 &&& 63)) ||| ((((f_M_openBlock yl yr (yf 3)) ^^^ (yf 2)).toUInt64 >>> ((48 : Int32).toInt64.toUInt64 &&& Int64.toUInt64 63)).toInt64))) ((((f_M_openBlock yl yr (yf 2)) ^^^ (yf 1)) <<< ((16 : Int32).toInt64 &&& 63)) ||| ((((f_M_openBlock yl yr (yf 3)) ^^^ (yf 2)).toUInt64 >>> ((48 : Int32).toInt64.toUInt64 &&& Int64.toUInt64 63)).toInt64))) = 0 then (g_M_fill_zma ya k ((((f_M_openBlock yl yr (yf 1)) ^^^ (yf 0)) <<< ((16 : Int32).toInt64 &&& 63)) ||| ((((f_M_openBlock yl yr (yf 2)) ^^^ (yf 1)).toUInt64 >>> ((48 : Int32).toInt64.toUInt64 &&& Int64.toUInt64 63)).toInt64))) else ya) else ya) else ya) else ya) else ya) else ya) else ya))
def g_M_unwrap_zmb (ys : Int32) (yl : Int64) (yr : Int64) (yu : Nat → Int32) (yb : Nat → Int64) (yf : Nat → Int64) (k : Int32) : Nat → Int64 := if ys = 0 then yb else (if (f_M_isSlot k) = 0 then yb else (if (yu k.toNatClampNeg) < 0 then (if (lg_cmp (f_M_codeOfBlock yl yr yf) (yf 4)) = 0 then (if (0 : Int32) ≤ (muh (yf 0) 4) then (if (lg_cmp ((((f_M_openBlock yl yr (yf 1)) ^^^ (yf 0)).toUInt64 >>> ((48 : Int32).toInt64.toUInt64 &&& Int64.toUInt64 63)).toInt64) (128 : Int64)) = 0 then (if (lg_cmp (((f_M_openBlock yl yr (yf 3)) ^^^ (yf 2)) &&& (281474976710655 : Int64)) (0 : Int64)) = 0 then (if (lg_cmp (f_M_odd ((((f_M_openBlock yl yr (yf 1)) ^^^ (yf 0)) <<< ((16 : Int32).toInt64 &&& 63)) ||| ((((f_M_openBlock yl yr (yf 2)) ^^^ (yf 1)).toUInt64 >>> ((48 : Int32).toInt64.toUInt64 &&& Int64.toUInt64 63)).toInt64))) ((((f_M_openBlock yl yr (yf 1)) ^^^ (yf 0)) <<< ((16 : Int32).toInt64 &&& 63)) ||| ((((f_M_openBlock yl yr (yf 2)) ^^^ (yf 1)).toUInt64 >>> ((48 : Int32).toInt64.toUInt64 &&& Int64.toUInt64 63)).toInt64))) = 0 then (if (lg_cmp (f_M_odd ((((f_M_openBlock yl yr (yf 2)) ^^^ (yf 1)) <<< ((16 : Int32).toInt64 &&& 63)) ||| ((((f_M_openBlock yl yr (yf 3)) ^^^ (yf 2)).toUInt64 >>> ((48 : Int32).toInt64.toUInt64 &&& Int64.toUInt64 63)).toInt64))) ((((f_M_openBlock yl yr (yf 2)) ^^^ (yf 1)) <<< ((16 : Int32).toInt64 &&& 63)) ||| ((((f_M_openBlock yl yr (yf 3)) ^^^ (yf 2)).toUInt64 >>> ((48 : Int32).toInt64.toUInt64 &&& Int64.toUInt64 63)).toInt64))) = 0 then (g_M_fill_zmb yb k ((((f_M_openBlock yl yr (yf 2)) ^^^ (yf 1)) <<< ((16 : Int32).toInt64 &&& 63)) ||| ((((f_M_openBlock yl yr (yf 3)) ^^^ (yf 2)).toUInt64 >>> ((48 : Int32).toInt64.toUInt64 &&& Int64.toUInt64 63)).toInt64))) else yb) else yb) else yb) else yb) else yb) else yb) else yb))
abbrev rm_M_unwrap : Room := { frames := 5, cells := 0, slots := 0, locals := 139 }
theorem mf_M_unwrap : MF y_M_unwrap b_M_unwrap 13 (some .int) 1 := ⟨m_769, m_6, by decide, by decide, by decide +kernel⟩
theorem d_M_unwrap_0 : decode b_M_unwrap 0 = .ok (.aload_n 0, 1) := by decide +kernel
theorem d_M_unwrap_1 : decode b_M_unwrap 1 = .ok (.iconst 0, 1) := by decide +kernel
theorem d_M_unwrap_2 : decode b_M_unwrap 2 = .ok (.putfield 66, 3) := by decide +kernel
theorem d_M_unwrap_5 : decode b_M_unwrap 5 = .ok (.aload_n 0, 1) := by decide +kernel
theorem d_M_unwrap_6 : decode b_M_unwrap 6 = .ok (.getfield 108, 3) := by decide +kernel
theorem d_M_unwrap_9 : decode b_M_unwrap 9 = .ok (.ifCond .ne 5, 3) := by decide +kernel
theorem d_M_unwrap_12 : decode b_M_unwrap 12 = .ok (.iconst (-1), 1) := by decide +kernel
theorem d_M_unwrap_13 : decode b_M_unwrap 13 = .ok (.ireturn, 1) := by decide +kernel
theorem d_M_unwrap_14 : decode b_M_unwrap 14 = .ok (.iload_n 1, 1) := by decide +kernel
theorem d_M_unwrap_15 : decode b_M_unwrap 15 = .ok (.invokestatic 137, 3) := by decide +kernel
theorem d_M_unwrap_18 : decode b_M_unwrap 18 = .ok (.ifCond .ne 6, 3) := by decide +kernel
theorem d_M_unwrap_21 : decode b_M_unwrap 21 = .ok (.bipush (-2), 2) := by decide +kernel
theorem d_M_unwrap_23 : decode b_M_unwrap 23 = .ok (.ireturn, 1) := by decide +kernel
theorem d_M_unwrap_24 : decode b_M_unwrap 24 = .ok (.aload_n 0, 1) := by decide +kernel
theorem d_M_unwrap_25 : decode b_M_unwrap 25 = .ok (.getfield 30, 3) := by decide +kernel
theorem d_M_unwrap_28 : decode b_M_unwrap 28 = .ok (.iload_n 1, 1) := by decide +kernel
theorem d_M_unwrap_29 : decode b_M_unwrap 29 = .ok (.iaload, 1) := by decide +kernel
theorem d_M_unwrap_30 : decode b_M_unwrap 30 = .ok (.ifCond .lt 6, 3) := by decide +kernel
theorem d_M_unwrap_33 : decode b_M_unwrap 33 = .ok (.bipush (-3), 2) := by decide +kernel
theorem d_M_unwrap_35 : decode b_M_unwrap 35 = .ok (.ireturn, 1) := by decide +kernel
theorem d_M_unwrap_36 : decode b_M_unwrap 36 = .ok (.iconst (-1), 1) := by decide +kernel
theorem d_M_unwrap_37 : decode b_M_unwrap 37 = .ok (.istore_n 2, 1) := by decide +kernel
theorem d_M_unwrap_38 : decode b_M_unwrap 38 = .ok (.iconst 0, 1) := by decide +kernel
theorem d_M_unwrap_39 : decode b_M_unwrap 39 = .ok (.istore_n 3, 1) := by decide +kernel
theorem d_M_unwrap_40 : decode b_M_unwrap 40 = .ok (.iload_n 3, 1) := by decide +kernel
theorem d_M_unwrap_41 : decode b_M_unwrap 41 = .ok (.iconst 4, 1) := by decide +kernel
theorem d_M_unwrap_42 : decode b_M_unwrap 42 = .ok (.if_icmp .ge 29, 3) := by decide +kernel
theorem d_M_unwrap_45 : decode b_M_unwrap 45 = .ok (.aload_n 0, 1) := by decide +kernel
theorem d_M_unwrap_46 : decode b_M_unwrap 46 = .ok (.getfield 57, 3) := by decide +kernel
theorem d_M_unwrap_49 : decode b_M_unwrap 49 = .ok (.iconst 0, 1) := by decide +kernel
theorem d_M_unwrap_50 : decode b_M_unwrap 50 = .ok (.laload, 1) := by decide +kernel
theorem d_M_unwrap_51 : decode b_M_unwrap 51 = .ok (.iload_n 3, 1) := by decide +kernel
theorem d_M_unwrap_52 : decode b_M_unwrap 52 = .ok (.invokestatic 171, 3) := by decide +kernel
theorem d_M_unwrap_55 : decode b_M_unwrap 55 = .ok (.lcmp, 1) := by decide +kernel
theorem d_M_unwrap_56 : decode b_M_unwrap 56 = .ok (.ifCond .ne 7, 3) := by decide +kernel
theorem d_M_unwrap_59 : decode b_M_unwrap 59 = .ok (.iload_n 3, 1) := by decide +kernel
theorem d_M_unwrap_60 : decode b_M_unwrap 60 = .ok (.goto 4, 3) := by decide +kernel
theorem d_M_unwrap_63 : decode b_M_unwrap 63 = .ok (.iload_n 2, 1) := by decide +kernel
theorem d_M_unwrap_64 : decode b_M_unwrap 64 = .ok (.istore_n 2, 1) := by decide +kernel
theorem d_M_unwrap_65 : decode b_M_unwrap 65 = .ok (.iinc 3 1, 3) := by decide +kernel
theorem d_M_unwrap_68 : decode b_M_unwrap 68 = .ok (.goto (-28), 3) := by decide +kernel
theorem d_M_unwrap_71 : decode b_M_unwrap 71 = .ok (.aload_n 0, 1) := by decide +kernel
theorem d_M_unwrap_72 : decode b_M_unwrap 72 = .ok (.invokevirtual 176, 3) := by decide +kernel
theorem d_M_unwrap_75 : decode b_M_unwrap 75 = .ok (.aload_n 0, 1) := by decide +kernel
theorem d_M_unwrap_76 : decode b_M_unwrap 76 = .ok (.getfield 57, 3) := by decide +kernel
theorem d_M_unwrap_79 : decode b_M_unwrap 79 = .ok (.iconst 4, 1) := by decide +kernel
theorem d_M_unwrap_80 : decode b_M_unwrap 80 = .ok (.laload, 1) := by decide +kernel
theorem d_M_unwrap_81 : decode b_M_unwrap 81 = .ok (.lcmp, 1) := by decide +kernel
theorem d_M_unwrap_82 : decode b_M_unwrap 82 = .ok (.ifCond .ne 7, 3) := by decide +kernel
theorem d_M_unwrap_85 : decode b_M_unwrap 85 = .ok (.iload_n 2, 1) := by decide +kernel
theorem d_M_unwrap_86 : decode b_M_unwrap 86 = .ok (.ifCond .ge 6, 3) := by decide +kernel
theorem d_M_unwrap_89 : decode b_M_unwrap 89 = .ok (.bipush (-6), 2) := by decide +kernel
theorem d_M_unwrap_91 : decode b_M_unwrap 91 = .ok (.ireturn, 1) := by decide +kernel
theorem d_M_unwrap_92 : decode b_M_unwrap 92 = .ok (.aload_n 0, 1) := by decide +kernel
theorem d_M_unwrap_93 : decode b_M_unwrap 93 = .ok (.aload_n 0, 1) := by decide +kernel
theorem d_M_unwrap_94 : decode b_M_unwrap 94 = .ok (.getfield 120, 3) := by decide +kernel
theorem d_M_unwrap_97 : decode b_M_unwrap 97 = .ok (.aload_n 0, 1) := by decide +kernel
theorem d_M_unwrap_98 : decode b_M_unwrap 98 = .ok (.getfield 124, 3) := by decide +kernel
theorem d_M_unwrap_101 : decode b_M_unwrap 101 = .ok (.aload_n 0, 1) := by decide +kernel
theorem d_M_unwrap_102 : decode b_M_unwrap 102 = .ok (.getfield 57, 3) := by decide +kernel
theorem d_M_unwrap_105 : decode b_M_unwrap 105 = .ok (.iconst 1, 1) := by decide +kernel
theorem d_M_unwrap_106 : decode b_M_unwrap 106 = .ok (.laload, 1) := by decide +kernel
theorem d_M_unwrap_107 : decode b_M_unwrap 107 = .ok (.invokevirtual 180, 3) := by decide +kernel
theorem d_M_unwrap_110 : decode b_M_unwrap 110 = .ok (.aload_n 0, 1) := by decide +kernel
theorem d_M_unwrap_111 : decode b_M_unwrap 111 = .ok (.getfield 57, 3) := by decide +kernel
theorem d_M_unwrap_114 : decode b_M_unwrap 114 = .ok (.iconst 0, 1) := by decide +kernel
theorem d_M_unwrap_115 : decode b_M_unwrap 115 = .ok (.laload, 1) := by decide +kernel
theorem d_M_unwrap_116 : decode b_M_unwrap 116 = .ok (.lxor, 1) := by decide +kernel
theorem d_M_unwrap_117 : decode b_M_unwrap 117 = .ok (.lstore_n 3, 1) := by decide +kernel
theorem d_M_unwrap_118 : decode b_M_unwrap 118 = .ok (.aload_n 0, 1) := by decide +kernel
theorem d_M_unwrap_119 : decode b_M_unwrap 119 = .ok (.aload_n 0, 1) := by decide +kernel
theorem d_M_unwrap_120 : decode b_M_unwrap 120 = .ok (.getfield 120, 3) := by decide +kernel
theorem d_M_unwrap_123 : decode b_M_unwrap 123 = .ok (.aload_n 0, 1) := by decide +kernel
theorem d_M_unwrap_124 : decode b_M_unwrap 124 = .ok (.getfield 124, 3) := by decide +kernel
theorem d_M_unwrap_127 : decode b_M_unwrap 127 = .ok (.aload_n 0, 1) := by decide +kernel
theorem d_M_unwrap_128 : decode b_M_unwrap 128 = .ok (.getfield 57, 3) := by decide +kernel
theorem d_M_unwrap_131 : decode b_M_unwrap 131 = .ok (.iconst 2, 1) := by decide +kernel
theorem d_M_unwrap_132 : decode b_M_unwrap 132 = .ok (.laload, 1) := by decide +kernel
theorem d_M_unwrap_133 : decode b_M_unwrap 133 = .ok (.invokevirtual 180, 3) := by decide +kernel
theorem d_M_unwrap_136 : decode b_M_unwrap 136 = .ok (.aload_n 0, 1) := by decide +kernel
theorem d_M_unwrap_137 : decode b_M_unwrap 137 = .ok (.getfield 57, 3) := by decide +kernel
theorem d_M_unwrap_140 : decode b_M_unwrap 140 = .ok (.iconst 1, 1) := by decide +kernel
theorem d_M_unwrap_141 : decode b_M_unwrap 141 = .ok (.laload, 1) := by decide +kernel
theorem d_M_unwrap_142 : decode b_M_unwrap 142 = .ok (.lxor, 1) := by decide +kernel
theorem d_M_unwrap_143 : decode b_M_unwrap 143 = .ok (.lstore 5, 2) := by decide +kernel
theorem d_M_unwrap_145 : decode b_M_unwrap 145 = .ok (.aload_n 0, 1) := by decide +kernel
theorem d_M_unwrap_146 : decode b_M_unwrap 146 = .ok (.aload_n 0, 1) := by decide +kernel
theorem d_M_unwrap_147 : decode b_M_unwrap 147 = .ok (.getfield 120, 3) := by decide +kernel
theorem d_M_unwrap_150 : decode b_M_unwrap 150 = .ok (.aload_n 0, 1) := by decide +kernel
theorem d_M_unwrap_151 : decode b_M_unwrap 151 = .ok (.getfield 124, 3) := by decide +kernel
theorem d_M_unwrap_154 : decode b_M_unwrap 154 = .ok (.aload_n 0, 1) := by decide +kernel
theorem d_M_unwrap_155 : decode b_M_unwrap 155 = .ok (.getfield 57, 3) := by decide +kernel
theorem d_M_unwrap_158 : decode b_M_unwrap 158 = .ok (.iconst 3, 1) := by decide +kernel
theorem d_M_unwrap_159 : decode b_M_unwrap 159 = .ok (.laload, 1) := by decide +kernel
theorem d_M_unwrap_160 : decode b_M_unwrap 160 = .ok (.invokevirtual 180, 3) := by decide +kernel
theorem d_M_unwrap_163 : decode b_M_unwrap 163 = .ok (.aload_n 0, 1) := by decide +kernel
theorem d_M_unwrap_164 : decode b_M_unwrap 164 = .ok (.getfield 57, 3) := by decide +kernel
theorem d_M_unwrap_167 : decode b_M_unwrap 167 = .ok (.iconst 2, 1) := by decide +kernel
theorem d_M_unwrap_168 : decode b_M_unwrap 168 = .ok (.laload, 1) := by decide +kernel
theorem d_M_unwrap_169 : decode b_M_unwrap 169 = .ok (.lxor, 1) := by decide +kernel
theorem d_M_unwrap_170 : decode b_M_unwrap 170 = .ok (.lstore 7, 2) := by decide +kernel
theorem d_M_unwrap_172 : decode b_M_unwrap 172 = .ok (.lload_n 3, 1) := by decide +kernel
theorem d_M_unwrap_173 : decode b_M_unwrap 173 = .ok (.bipush 16, 2) := by decide +kernel
theorem d_M_unwrap_175 : decode b_M_unwrap 175 = .ok (.lshl, 1) := by decide +kernel
theorem d_M_unwrap_176 : decode b_M_unwrap 176 = .ok (.lload 5, 2) := by decide +kernel
theorem d_M_unwrap_178 : decode b_M_unwrap 178 = .ok (.bipush 48, 2) := by decide +kernel
theorem d_M_unwrap_180 : decode b_M_unwrap 180 = .ok (.lushr, 1) := by decide +kernel
theorem d_M_unwrap_181 : decode b_M_unwrap 181 = .ok (.lor, 1) := by decide +kernel
theorem d_M_unwrap_182 : decode b_M_unwrap 182 = .ok (.lstore 9, 2) := by decide +kernel
theorem d_M_unwrap_184 : decode b_M_unwrap 184 = .ok (.lload 5, 2) := by decide +kernel
theorem d_M_unwrap_186 : decode b_M_unwrap 186 = .ok (.bipush 16, 2) := by decide +kernel
theorem d_M_unwrap_188 : decode b_M_unwrap 188 = .ok (.lshl, 1) := by decide +kernel
theorem d_M_unwrap_189 : decode b_M_unwrap 189 = .ok (.lload 7, 2) := by decide +kernel
theorem d_M_unwrap_191 : decode b_M_unwrap 191 = .ok (.bipush 48, 2) := by decide +kernel
theorem d_M_unwrap_193 : decode b_M_unwrap 193 = .ok (.lushr, 1) := by decide +kernel
theorem d_M_unwrap_194 : decode b_M_unwrap 194 = .ok (.lor, 1) := by decide +kernel
theorem d_M_unwrap_195 : decode b_M_unwrap 195 = .ok (.lstore 11, 2) := by decide +kernel
theorem d_M_unwrap_197 : decode b_M_unwrap 197 = .ok (.lload_n 3, 1) := by decide +kernel
theorem d_M_unwrap_198 : decode b_M_unwrap 198 = .ok (.bipush 48, 2) := by decide +kernel
theorem d_M_unwrap_200 : decode b_M_unwrap 200 = .ok (.lushr, 1) := by decide +kernel
theorem d_M_unwrap_201 : decode b_M_unwrap 201 = .ok (.ldc2_w 183, 3) := by decide +kernel
theorem d_M_unwrap_204 : decode b_M_unwrap 204 = .ok (.lcmp, 1) := by decide +kernel
theorem d_M_unwrap_205 : decode b_M_unwrap 205 = .ok (.ifCond .ne 36, 3) := by decide +kernel
theorem d_M_unwrap_208 : decode b_M_unwrap 208 = .ok (.lload 7, 2) := by decide +kernel
theorem d_M_unwrap_210 : decode b_M_unwrap 210 = .ok (.ldc2_w 185, 3) := by decide +kernel
theorem d_M_unwrap_213 : decode b_M_unwrap 213 = .ok (.land, 1) := by decide +kernel
theorem d_M_unwrap_214 : decode b_M_unwrap 214 = .ok (.lconst 0, 1) := by decide +kernel
theorem d_M_unwrap_215 : decode b_M_unwrap 215 = .ok (.lcmp, 1) := by decide +kernel
theorem d_M_unwrap_216 : decode b_M_unwrap 216 = .ok (.ifCond .ne 25, 3) := by decide +kernel
theorem d_M_unwrap_219 : decode b_M_unwrap 219 = .ok (.lload 9, 2) := by decide +kernel
theorem d_M_unwrap_221 : decode b_M_unwrap 221 = .ok (.invokestatic 116, 3) := by decide +kernel
theorem d_M_unwrap_224 : decode b_M_unwrap 224 = .ok (.lload 9, 2) := by decide +kernel
theorem d_M_unwrap_226 : decode b_M_unwrap 226 = .ok (.lcmp, 1) := by decide +kernel
theorem d_M_unwrap_227 : decode b_M_unwrap 227 = .ok (.ifCond .ne 14, 3) := by decide +kernel
theorem d_M_unwrap_230 : decode b_M_unwrap 230 = .ok (.lload 11, 2) := by decide +kernel
theorem d_M_unwrap_232 : decode b_M_unwrap 232 = .ok (.invokestatic 116, 3) := by decide +kernel
theorem d_M_unwrap_235 : decode b_M_unwrap 235 = .ok (.lload 11, 2) := by decide +kernel
theorem d_M_unwrap_237 : decode b_M_unwrap 237 = .ok (.lcmp, 1) := by decide +kernel
theorem d_M_unwrap_238 : decode b_M_unwrap 238 = .ok (.ifCond .eq 6, 3) := by decide +kernel
theorem d_M_unwrap_241 : decode b_M_unwrap 241 = .ok (.bipush (-6), 2) := by decide +kernel
theorem d_M_unwrap_243 : decode b_M_unwrap 243 = .ok (.ireturn, 1) := by decide +kernel
theorem d_M_unwrap_244 : decode b_M_unwrap 244 = .ok (.aload_n 0, 1) := by decide +kernel
theorem d_M_unwrap_245 : decode b_M_unwrap 245 = .ok (.iload_n 1, 1) := by decide +kernel
theorem d_M_unwrap_246 : decode b_M_unwrap 246 = .ok (.iload_n 2, 1) := by decide +kernel
theorem d_M_unwrap_247 : decode b_M_unwrap 247 = .ok (.iconst 1, 1) := by decide +kernel
theorem d_M_unwrap_248 : decode b_M_unwrap 248 = .ok (.lload 9, 2) := by decide +kernel
theorem d_M_unwrap_250 : decode b_M_unwrap 250 = .ok (.lload 11, 2) := by decide +kernel
theorem d_M_unwrap_252 : decode b_M_unwrap 252 = .ok (.invokevirtual 143, 3) := by decide +kernel
theorem d_M_unwrap_255 : decode b_M_unwrap 255 = .ok (.iload_n 2, 1) := by decide +kernel
theorem d_M_unwrap_256 : decode b_M_unwrap 256 = .ok (.ireturn, 1) := by decide +kernel
set_option maxRecDepth 100000 in
set_option maxHeartbeats 4000000 in
theorem c_M_unwrap (l : Launch) (G : Gt) (zm zmp zm1 zm2 zmx zmh zmt zmu zme zma zmb zmk zmc zmd zmi zmo zmf zmg zmn : Nat) (th ys : Int32) (yl yr : Int64) (yv : Nat → Int64) (yt yu ye : Nat → Int32) (ya yb : Nat → Int64) (yk : Nat → Int32) (yc yd yi : Nat → Int64) (yo : Nat → Int32) (yf yg yn : Nat → Int64) (yp yq : Int64) (yw : Int32) (yx : Int64) (k : Int32) : CtI l G y_M_unwrap b_M_unwrap 13 (some .int) rm_M_unwrap E0 [.ref zm, .int k] [ob zm 5 [.ref zmp, .ref zm1, .ref zm2, .ref zmx, .int th, .ref zmh, .ref zmt, .int ys, .long yl, .long yr, .ref zmu, .ref zme, .ref zma, .ref zmb, .ref zmk, .ref zmc, .ref zmd, .ref zmi, .ref zmo, .ref zmf, .ref zmg, .ref zmn, .long yp, .long yq, .int yw, .long yx], aI G zmp 32 tb_perm, aI G zm1 56 tb_c1, aI G zm2 48 tb_c2, aI G zmx 512 tb_box, aJ G zmh 6 yv, aZ G zmt 6 yt, aI G zmu 16 yu, aZ G zme 16 ye, aJ G zma 16 ya, aJ G zmb 16 yb, aZ G zmk 8 yk, aJ G zmc 8 yc, aJ G zmd 8 yd, aJ G zmi 8 yi, aI G zmo 8 yo, aJ G zmf 5 yf, aJ G zmg 8 yg, aJ G zmn 16 yn] (fun r (_ : (Nat → Int64)) => r = f_M_unwrap ys yl yr yu yf k) (fun x => [ob zm 5 [.ref zmp, .ref zm1, .ref zm2, .ref zmx, .int g_M_unwrap_zm_4, .ref zmh, .ref zmt, .int ys, .long yl, .long yr, .ref zmu, .ref zme, .ref zma, .ref zmb, .ref zmk, .ref zmc, .ref zmd, .ref zmi, .ref zmo, .ref zmf, .ref zmg, .ref zmn, .long yp, .long yq, .int yw, .long yx], aI G zmp 32 tb_perm, aI G zm1 56 tb_c1, aI G zm2 48 tb_c2, aI G zmx 512 tb_box, aJ G zmh 6 yv, aZ G zmt 6 yt, aI G zmu 16 (g_M_unwrap_zmu ys yl yr yu yf k), aZ G zme 16 (g_M_unwrap_zme ys yl yr yu ye yf k), aJ G zma 16 (g_M_unwrap_zma ys yl yr yu ya yf k), aJ G zmb 16 (g_M_unwrap_zmb ys yl yr yu yb yf k), aZ G zmk 8 yk, aJ G zmc 8 yc, aJ G zmd 8 yd, aJ G zmi 8 yi, aI G zmo 8 yo, aJ G zmf 5 yf, aJ G zmg 8 yg, aJ G zmn 16 x]) 0 0 := by
  refine Ct.of (Qp := fun A => va_Qi _ (qB G A _) A) Stb_0 (by decide) (Nat.le_of_ble_eq_true rfl) ?_
  intro p e s m args below meth c A X hE hr hlk hini
  refine pv_eql (ll2 := [(0, .ref zm), (1, .int k)]) rfl ?_
  refine pv_aload_n X 0 d_M_unwrap_0 rfl ?_
  refine pv_iconst X 0 d_M_unwrap_1 (by decide) ?_
  refine pv_put X (ty := .int) (ws2 := [ob zm 5 [.ref zmp, .ref zm1, .ref zm2, .ref zmx, .int 0, .ref zmh, .ref zmt, .int ys, .long yl, .long yr, .ref zmu, .ref zme, .ref zma, .ref zmb, .ref zmk, .ref zmc, .ref zmd, .ref zmi, .ref zmo, .ref zmf, .ref zmg, .ref zmn, .long yp, .long yq, .int yw, .long yx], aI G zmp 32 tb_perm, aI G zm1 56 tb_c1, aI G zm2 48 tb_c2, aI G zmx 512 tb_box, aJ G zmh 6 yv, aZ G zmt 6 yt, aI G zmu 16 yu, aZ G zme 16 ye, aJ G zma 16 ya, aJ G zmb 16 yb, aZ G zmk 8 yk, aJ G zmc 8 yc, aJ G zmd 8 yd, aJ G zmi 8 yi, aI G zmo 8 yo, aJ G zmf 5 yf, aJ G zmg 8 yg, aJ G zmn 16 yn]) 0 4 ty_M ty_M_ok n_M u_M_in m_578 rfl rfl (by decide) ⟨rfl, rfl, rfl⟩ rfl (by decide +kernel) rfl rfl (Nat.le_of_ble_eq_true rfl) rfl d_M_unwrap_2 ?_
  refine pv_aload_n X 0 d_M_unwrap_5 rfl ?_
  refine pv_get X 0 7 u_M_in m_581 rfl rfl (by decide) ⟨rfl, rfl, rfl⟩ rfl d_M_unwrap_6 ?_
  refine pv_if_ne X 14 d_M_unwrap_9 rfl (fun h1 => ?_) (fun h1n => ?_)
  · skip
    refine pv_iload_n X 1 d_M_unwrap_14 rfl ?_
    refine pv_calli0 X (rn_S X (c_M_isSlot l G k) trivial mf_M_isSlot m_724 m_725 rfl (by decide) (by decide) rfl (Nat.le_of_ble_eq_true rfl) d_M_unwrap_15) ?_
    refine pv_if_ne X 24 d_M_unwrap_18 rfl (fun h3 => ?_) (fun h3n => ?_)
    · skip
      refine pv_aload_n X 0 d_M_unwrap_24 rfl ?_
      refine pv_get X 0 10 u_M_in m_584 rfl rfl (by decide) ⟨rfl, rfl, rfl⟩ rfl d_M_unwrap_25 ?_
      refine pv_iload_n X 1 d_M_unwrap_28 rfl ?_
      refine pv_iald X 7 rfl (Mslot_in h3) d_M_unwrap_29 ?_
      refine pv_if_lt X 36 d_M_unwrap_30 rfl (fun h4 => ?_) (fun h4n => ?_)
      · skip
        refine pv_iconst X (-1) d_M_unwrap_36 (by decide) ?_
        refine pv_istore_n (ll2 := [(2, .int (-1)), (0, .ref zm), (1, .int k)]) X d_M_unwrap_37 (by decide) rfl ?_
        refine pv_iconst X 0 d_M_unwrap_38 (by decide) ?_
        refine pv_istore_n (ll2 := [(3, .int 0), (2, .int (-1)), (0, .ref zm), (1, .int k)]) X d_M_unwrap_39 (by decide) rfl ?_
        refine pv_lpick (ll2 := [(3, .int (nI 0)), (2, .int (muh (yf 0) 0)), (0, .ref zm), (1, .int k)]) [0, 1, 2, 3] rfl ?_
        refine pv_eqw (ws2 := [ob zm 5 [.ref zmp, .ref zm1, .ref zm2, .ref zmx, .int 0, .ref zmh, .ref zmt, .int ys, .long yl, .long yr, .ref zmu, .ref zme, .ref zma, .ref zmb, .ref zmk, .ref zmc, .ref zmd, .ref zmi, .ref zmo, .ref zmf, .ref zmg, .ref zmn, .long yp, .long yq, .int yw, .long yx], aI G zmp 32 tb_perm, aI G zm1 56 tb_c1, aI G zm2 48 tb_c2, aI G zmx 512 tb_box, aJ G zmh 6 yv, aZ G zmt 6 yt, aI G zmu 16 yu, aZ G zme 16 ye, aJ G zma 16 ya, aJ G zmb 16 yb, aZ G zmk 8 yk, aJ G zmc 8 yc, aJ G zmd 8 yd, aJ G zmi 8 yi, aI G zmo 8 yo, aJ G zmf 5 yf, aJ G zmg 8 yg, aJ G zmn 16 yn]) rfl ?_
        refine pv_loop 4 (fun i => True) (fun i => [ob zm 5 [.ref zmp, .ref zm1, .ref zm2, .ref zmx, .int 0, .ref zmh, .ref zmt, .int ys, .long yl, .long yr, .ref zmu, .ref zme, .ref zma, .ref zmb, .ref zmk, .ref zmc, .ref zmd, .ref zmi, .ref zmo, .ref zmf, .ref zmg, .ref zmn, .long yp, .long yq, .int yw, .long yx], aI G zmp 32 tb_perm, aI G zm1 56 tb_c1, aI G zm2 48 tb_c2, aI G zmx 512 tb_box, aJ G zmh 6 yv, aZ G zmt 6 yt, aI G zmu 16 yu, aZ G zme 16 ye, aJ G zma 16 ya, aJ G zmb 16 yb, aZ G zmk 8 yk, aJ G zmc 8 yc, aJ G zmd 8 yd, aJ G zmi 8 yi, aI G zmo 8 yo, aJ G zmf 5 yf, aJ G zmg 8 yg, aJ G zmn 16 yn]) (fun i => [(3, .int (nI i)), (2, .int (muh (yf 0) i)), (0, .ref zm), (1, .int k)]) 0 (by omega) trivial (fun hI_i => ?_) (fun i h_i hI_i ih_i => ?_)
        · skip
          refine pv_iload_n X 0 d_M_unwrap_40 rfl ?_
          refine pv_iconst X 4 d_M_unwrap_41 (by decide) ?_
          refine pv_icmp_ge X 71 d_M_unwrap_42 rfl (fun _ => ?_) (fun h => absurd (by decide) h)
          refine pv_aload_n X 2 d_M_unwrap_71 rfl ?_
          refine pv_calllE X (Cut.all _) (rn_V X (c_M_codeOfBlock l G zm zmp zm1 zm2 zmx zmh zmt zmu zme zma zmb zmk zmc zmd zmi zmo zmf zmg zmn 0 ys yl yr yv yt yu ye ya yb yk yc yd yi yo yf yg yn yp yq yw yx ) trivial mf_M_codeOfBlock m_761 m_763 ms_19 rfl 0 rfl rfl rfl (by decide) (by decide) rfl (Nat.le_of_ble_eq_true rfl) d_M_unwrap_72) (fun x5 => ?_)
          refine pv_eqw (ws2 := [ob zm 5 [.ref zmp, .ref zm1, .ref zm2, .ref zmx, .int 0, .ref zmh, .ref zmt, .int ys, .long yl, .long yr, .ref zmu, .ref zme, .ref zma, .ref zmb, .ref zmk, .ref zmc, .ref zmd, .ref zmi, .ref zmo, .ref zmf, .ref zmg, .ref zmn, .long yp, .long yq, .int yw, .long yx], aI G zmp 32 tb_perm, aI G zm1 56 tb_c1, aI G zm2 48 tb_c2, aI G zmx 512 tb_box, aJ G zmh 6 yv, aZ G zmt 6 yt, aI G zmu 16 yu, aZ G zme 16 ye, aJ G zma 16 ya, aJ G zmb 16 yb, aZ G zmk 8 yk, aJ G zmc 8 yc, aJ G zmd 8 yd, aJ G zmi 8 yi, aI G zmo 8 yo, aJ G zmf 5 yf, aJ G zmg 8 yg, aJ G zmn 16 (g_M_codeOfBlock_zmn yl yr yn)]) rfl ?_
          refine pv_aload_n X 2 d_M_unwrap_75 rfl ?_
          refine pv_get X 0 19 u_M_in m_593 rfl rfl (by decide) ⟨rfl, rfl, rfl⟩ rfl d_M_unwrap_76 ?_
          refine pv_iconst X 4 d_M_unwrap_79 (by decide) ?_
          refine pv_lald X 16 rfl (by unfold vp_in; decide) d_M_unwrap_80 ?_
          refine pv_topl (yf 4) rfl ?_
          refine pv_lcmp X d_M_unwrap_81 ?_
          refine pv_if_ne X 89 d_M_unwrap_82 rfl (fun h6 => ?_) (fun h6n => ?_)
          · skip
            refine pv_bipush X (-6) d_M_unwrap_89 (by decide) ?_
            exact pv_iret X hr hlk (g_M_codeOfBlock_zmn yl yr yn) (by show _ = f_M_unwrap ys yl yr yu yf k; simp only [f_M_unwrap, if_neg h1, if_neg h3, if_pos h4, if_neg h6]) (by simp only [g_M_unwrap_zm_4, g_M_unwrap_zmu, g_M_unwrap_zme, g_M_unwrap_zma, g_M_unwrap_zmb, if_neg h1, if_neg h3, if_pos h4, if_neg h6]) d_M_unwrap_91
          · skip
            refine pv_iload_n X 1 d_M_unwrap_85 rfl ?_
            refine pv_if_ge X 92 d_M_unwrap_86 rfl (fun h7 => ?_) (fun h7n => ?_)
            · skip
              refine pv_aload_n X 2 d_M_unwrap_92 rfl ?_
              refine pv_aload_n X 2 d_M_unwrap_93 rfl ?_
              refine pv_get X 0 8 u_M_in m_582 rfl rfl (by decide) ⟨rfl, rfl, rfl⟩ rfl d_M_unwrap_94 ?_
              refine pv_aload_n X 2 d_M_unwrap_97 rfl ?_
              refine pv_get X 0 9 u_M_in m_583 rfl rfl (by decide) ⟨rfl, rfl, rfl⟩ rfl d_M_unwrap_98 ?_
              refine pv_aload_n X 2 d_M_unwrap_101 rfl ?_
              refine pv_get X 0 19 u_M_in m_593 rfl rfl (by decide) ⟨rfl, rfl, rfl⟩ rfl d_M_unwrap_102 ?_
              refine pv_iconst X 1 d_M_unwrap_105 (by decide) ?_
              refine pv_lald X 16 rfl (by unfold vp_in; decide) d_M_unwrap_106 ?_
              refine pv_topl (yf 1) rfl ?_
              refine pv_calllE X (Cut.all _) (rn_V X (c_M_openBlock l G zm zmp zm1 zm2 zmx zmh zmt zmu zme zma zmb zmk zmc zmd zmi zmo zmf zmg zmn 0 ys yl yr yv yt yu ye ya yb yk yc yd yi yo yf yg (g_M_codeOfBlock_zmn yl yr yn) yp yq yw yx yl yr (yf 1) ) trivial mf_M_openBlock m_770 m_772 ms_20 rfl 0 rfl rfl rfl (by decide) (by decide) rfl (Nat.le_of_ble_eq_true rfl) d_M_unwrap_107) (fun x8 => ?_)
              refine pv_eqw (ws2 := [ob zm 5 [.ref zmp, .ref zm1, .ref zm2, .ref zmx, .int 0, .ref zmh, .ref zmt, .int ys, .long yl, .long yr, .ref zmu, .ref zme, .ref zma, .ref zmb, .ref zmk, .ref zmc, .ref zmd, .ref zmi, .ref zmo, .ref zmf, .ref zmg, .ref zmn, .long yp, .long yq, .int yw, .long yx], aI G zmp 32 tb_perm, aI G zm1 56 tb_c1, aI G zm2 48 tb_c2, aI G zmx 512 tb_box, aJ G zmh 6 yv, aZ G zmt 6 yt, aI G zmu 16 yu, aZ G zme 16 ye, aJ G zma 16 ya, aJ G zmb 16 yb, aZ G zmk 8 yk, aJ G zmc 8 yc, aJ G zmd 8 yd, aJ G zmi 8 yi, aI G zmo 8 yo, aJ G zmf 5 yf, aJ G zmg 8 yg, aJ G zmn 16 (g_M_openBlock_zmn (g_M_codeOfBlock_zmn yl yr yn) yl yr)]) rfl ?_
              refine pv_aload_n X 2 d_M_unwrap_110 rfl ?_
              refine pv_get X 0 19 u_M_in m_593 rfl rfl (by decide) ⟨rfl, rfl, rfl⟩ rfl d_M_unwrap_111 ?_
              refine pv_iconst X 0 d_M_unwrap_114 (by decide) ?_
              refine pv_lald X 16 rfl (by unfold vp_in; decide) d_M_unwrap_115 ?_
              refine pv_topl (yf 0) rfl ?_
              refine pv_lxor X d_M_unwrap_116 ?_
              refine pv_lstore_n (ll2 := [(3, .long ((f_M_openBlock yl yr (yf 1)) ^^^ (yf 0))), (2, .int (muh (yf 0) 4)), (0, .ref zm), (1, .int k)]) X d_M_unwrap_117 (by decide) rfl ?_
              refine pv_aload_n X 2 d_M_unwrap_118 rfl ?_
              refine pv_aload_n X 2 d_M_unwrap_119 rfl ?_
              refine pv_get X 0 8 u_M_in m_582 rfl rfl (by decide) ⟨rfl, rfl, rfl⟩ rfl d_M_unwrap_120 ?_
              refine pv_aload_n X 2 d_M_unwrap_123 rfl ?_
              refine pv_get X 0 9 u_M_in m_583 rfl rfl (by decide) ⟨rfl, rfl, rfl⟩ rfl d_M_unwrap_124 ?_
              refine pv_aload_n X 2 d_M_unwrap_127 rfl ?_
              refine pv_get X 0 19 u_M_in m_593 rfl rfl (by decide) ⟨rfl, rfl, rfl⟩ rfl d_M_unwrap_128 ?_
              refine pv_iconst X 2 d_M_unwrap_131 (by decide) ?_
              refine pv_lald X 16 rfl (by unfold vp_in; decide) d_M_unwrap_132 ?_
              refine pv_topl (yf 2) rfl ?_
              refine pv_calllE X (Cut.all _) (rn_V X (c_M_openBlock l G zm zmp zm1 zm2 zmx zmh zmt zmu zme zma zmb zmk zmc zmd zmi zmo zmf zmg zmn 0 ys yl yr yv yt yu ye ya yb yk yc yd yi yo yf yg (g_M_openBlock_zmn (g_M_codeOfBlock_zmn yl yr yn) yl yr) yp yq yw yx yl yr (yf 2) ) trivial mf_M_openBlock m_770 m_772 ms_20 rfl 0 rfl rfl rfl (by decide) (by decide) rfl (Nat.le_of_ble_eq_true rfl) d_M_unwrap_133) (fun x9 => ?_)
              refine pv_eqw (ws2 := [ob zm 5 [.ref zmp, .ref zm1, .ref zm2, .ref zmx, .int 0, .ref zmh, .ref zmt, .int ys, .long yl, .long yr, .ref zmu, .ref zme, .ref zma, .ref zmb, .ref zmk, .ref zmc, .ref zmd, .ref zmi, .ref zmo, .ref zmf, .ref zmg, .ref zmn, .long yp, .long yq, .int yw, .long yx], aI G zmp 32 tb_perm, aI G zm1 56 tb_c1, aI G zm2 48 tb_c2, aI G zmx 512 tb_box, aJ G zmh 6 yv, aZ G zmt 6 yt, aI G zmu 16 yu, aZ G zme 16 ye, aJ G zma 16 ya, aJ G zmb 16 yb, aZ G zmk 8 yk, aJ G zmc 8 yc, aJ G zmd 8 yd, aJ G zmi 8 yi, aI G zmo 8 yo, aJ G zmf 5 yf, aJ G zmg 8 yg, aJ G zmn 16 (g_M_openBlock_zmn (g_M_openBlock_zmn (g_M_codeOfBlock_zmn yl yr yn) yl yr) yl yr)]) rfl ?_
              refine pv_aload_n X 2 d_M_unwrap_136 rfl ?_
              refine pv_get X 0 19 u_M_in m_593 rfl rfl (by decide) ⟨rfl, rfl, rfl⟩ rfl d_M_unwrap_137 ?_
              refine pv_iconst X 1 d_M_unwrap_140 (by decide) ?_
              refine pv_lald X 16 rfl (by unfold vp_in; decide) d_M_unwrap_141 ?_
              refine pv_topl (yf 1) rfl ?_
              refine pv_lxor X d_M_unwrap_142 ?_
              refine pv_lstore (ll2 := [(5, .long ((f_M_openBlock yl yr (yf 2)) ^^^ (yf 1))), (3, .long ((f_M_openBlock yl yr (yf 1)) ^^^ (yf 0))), (2, .int (muh (yf 0) 4)), (0, .ref zm), (1, .int k)]) X d_M_unwrap_143 (by decide) rfl ?_
              refine pv_aload_n X 3 d_M_unwrap_145 rfl ?_
              refine pv_aload_n X 3 d_M_unwrap_146 rfl ?_
              refine pv_get X 0 8 u_M_in m_582 rfl rfl (by decide) ⟨rfl, rfl, rfl⟩ rfl d_M_unwrap_147 ?_
              refine pv_aload_n X 3 d_M_unwrap_150 rfl ?_
              refine pv_get X 0 9 u_M_in m_583 rfl rfl (by decide) ⟨rfl, rfl, rfl⟩ rfl d_M_unwrap_151 ?_
              refine pv_aload_n X 3 d_M_unwrap_154 rfl ?_
              refine pv_get X 0 19 u_M_in m_593 rfl rfl (by decide) ⟨rfl, rfl, rfl⟩ rfl d_M_unwrap_155 ?_
              refine pv_iconst X 3 d_M_unwrap_158 (by decide) ?_
              refine pv_lald X 16 rfl (by unfold vp_in; decide) d_M_unwrap_159 ?_
              refine pv_topl (yf 3) rfl ?_
              refine pv_calllE X (Cut.all _) (rn_V X (c_M_openBlock l G zm zmp zm1 zm2 zmx zmh zmt zmu zme zma zmb zmk zmc zmd zmi zmo zmf zmg zmn 0 ys yl yr yv yt yu ye ya yb yk yc yd yi yo yf yg (g_M_openBlock_zmn (g_M_openBlock_zmn (g_M_codeOfBlock_zmn yl yr yn) yl yr) yl yr) yp yq yw yx yl yr (yf 3) ) trivial mf_M_openBlock m_770 m_772 ms_20 rfl 0 rfl rfl rfl (by decide) (by decide) rfl (Nat.le_of_ble_eq_true rfl) d_M_unwrap_160) (fun x10 => ?_)
              refine pv_eqw (ws2 := [ob zm 5 [.ref zmp, .ref zm1, .ref zm2, .ref zmx, .int 0, .ref zmh, .ref zmt, .int ys, .long yl, .long yr, .ref zmu, .ref zme, .ref zma, .ref zmb, .ref zmk, .ref zmc, .ref zmd, .ref zmi, .ref zmo, .ref zmf, .ref zmg, .ref zmn, .long yp, .long yq, .int yw, .long yx], aI G zmp 32 tb_perm, aI G zm1 56 tb_c1, aI G zm2 48 tb_c2, aI G zmx 512 tb_box, aJ G zmh 6 yv, aZ G zmt 6 yt, aI G zmu 16 yu, aZ G zme 16 ye, aJ G zma 16 ya, aJ G zmb 16 yb, aZ G zmk 8 yk, aJ G zmc 8 yc, aJ G zmd 8 yd, aJ G zmi 8 yi, aI G zmo 8 yo, aJ G zmf 5 yf, aJ G zmg 8 yg, aJ G zmn 16 (g_M_openBlock_zmn (g_M_openBlock_zmn (g_M_openBlock_zmn (g_M_codeOfBlock_zmn yl yr yn) yl yr) yl yr) yl yr)]) rfl ?_
              refine pv_aload_n X 3 d_M_unwrap_163 rfl ?_
              refine pv_get X 0 19 u_M_in m_593 rfl rfl (by decide) ⟨rfl, rfl, rfl⟩ rfl d_M_unwrap_164 ?_
              refine pv_iconst X 2 d_M_unwrap_167 (by decide) ?_
              refine pv_lald X 16 rfl (by unfold vp_in; decide) d_M_unwrap_168 ?_
              refine pv_topl (yf 2) rfl ?_
              refine pv_lxor X d_M_unwrap_169 ?_
              refine pv_lstore (ll2 := [(7, .long ((f_M_openBlock yl yr (yf 3)) ^^^ (yf 2))), (5, .long ((f_M_openBlock yl yr (yf 2)) ^^^ (yf 1))), (3, .long ((f_M_openBlock yl yr (yf 1)) ^^^ (yf 0))), (2, .int (muh (yf 0) 4)), (0, .ref zm), (1, .int k)]) X d_M_unwrap_170 (by decide) rfl ?_
              refine pv_lload_n X 2 d_M_unwrap_172 rfl ?_
              refine pv_bipush X 16 d_M_unwrap_173 (by decide) ?_
              refine pv_lshl X d_M_unwrap_175 ?_
              refine pv_lload X 1 d_M_unwrap_176 rfl ?_
              refine pv_bipush X 48 d_M_unwrap_178 (by decide) ?_
              refine pv_lushr X d_M_unwrap_180 ?_
              refine pv_lor X d_M_unwrap_181 ?_
              refine pv_lstore (ll2 := [(9, .long ((((f_M_openBlock yl yr (yf 1)) ^^^ (yf 0)) <<< ((16 : Int32).toInt64 &&& 63)) ||| ((((f_M_openBlock yl yr (yf 2)) ^^^ (yf 1)).toUInt64 >>> ((48 : Int32).toInt64.toUInt64 &&& Int64.toUInt64 63)).toInt64))), (7, .long ((f_M_openBlock yl yr (yf 3)) ^^^ (yf 2))), (5, .long ((f_M_openBlock yl yr (yf 2)) ^^^ (yf 1))), (3, .long ((f_M_openBlock yl yr (yf 1)) ^^^ (yf 0))), (2, .int (muh (yf 0) 4)), (0, .ref zm), (1, .int k)]) X d_M_unwrap_182 (by decide) rfl ?_
              refine pv_lload X 2 d_M_unwrap_184 rfl ?_
              refine pv_bipush X 16 d_M_unwrap_186 (by decide) ?_
              refine pv_lshl X d_M_unwrap_188 ?_
              refine pv_lload X 1 d_M_unwrap_189 rfl ?_
              refine pv_bipush X 48 d_M_unwrap_191 (by decide) ?_
              refine pv_lushr X d_M_unwrap_193 ?_
              refine pv_lor X d_M_unwrap_194 ?_
              refine pv_lstore (ll2 := [(11, .long ((((f_M_openBlock yl yr (yf 2)) ^^^ (yf 1)) <<< ((16 : Int32).toInt64 &&& 63)) ||| ((((f_M_openBlock yl yr (yf 3)) ^^^ (yf 2)).toUInt64 >>> ((48 : Int32).toInt64.toUInt64 &&& Int64.toUInt64 63)).toInt64))), (9, .long ((((f_M_openBlock yl yr (yf 1)) ^^^ (yf 0)) <<< ((16 : Int32).toInt64 &&& 63)) ||| ((((f_M_openBlock yl yr (yf 2)) ^^^ (yf 1)).toUInt64 >>> ((48 : Int32).toInt64.toUInt64 &&& Int64.toUInt64 63)).toInt64))), (7, .long ((f_M_openBlock yl yr (yf 3)) ^^^ (yf 2))), (5, .long ((f_M_openBlock yl yr (yf 2)) ^^^ (yf 1))), (3, .long ((f_M_openBlock yl yr (yf 1)) ^^^ (yf 0))), (2, .int (muh (yf 0) 4)), (0, .ref zm), (1, .int k)]) X d_M_unwrap_195 (by decide) rfl ?_
              refine pv_lload_n X 4 d_M_unwrap_197 rfl ?_
              refine pv_bipush X 48 d_M_unwrap_198 (by decide) ?_
              refine pv_lushr X d_M_unwrap_200 ?_
              refine pv_ldc2_w X m_774 d_M_unwrap_201 ?_
              refine pv_lcmp X d_M_unwrap_204 ?_
              refine pv_if_ne X 241 d_M_unwrap_205 rfl (fun h11 => ?_) (fun h11n => ?_)
              · skip
                refine pv_bipush X (-6) d_M_unwrap_241 (by decide) ?_
                exact pv_iret X hr hlk (g_M_openBlock_zmn (g_M_openBlock_zmn (g_M_openBlock_zmn (g_M_codeOfBlock_zmn yl yr yn) yl yr) yl yr) yl yr) (by show _ = f_M_unwrap ys yl yr yu yf k; simp only [f_M_unwrap, if_neg h1, if_neg h3, if_pos h4, if_pos h6n, if_pos h7, if_neg h11]) (by simp only [g_M_unwrap_zm_4, g_M_unwrap_zmu, g_M_unwrap_zme, g_M_unwrap_zma, g_M_unwrap_zmb, if_neg h1, if_neg h3, if_pos h4, if_pos h6n, if_pos h7, if_neg h11]) d_M_unwrap_243
              · skip
                refine pv_lload X 2 d_M_unwrap_208 rfl ?_
                refine pv_ldc2_w X m_775 d_M_unwrap_210 ?_
                refine pv_land X d_M_unwrap_213 ?_
                refine pv_lconst X 0 d_M_unwrap_214 (by decide) ?_
                refine pv_lcmp X d_M_unwrap_215 ?_
                refine pv_if_ne X 241 d_M_unwrap_216 rfl (fun h12 => ?_) (fun h12n => ?_)
                · skip
                  refine pv_bipush X (-6) d_M_unwrap_241 (by decide) ?_
                  exact pv_iret X hr hlk (g_M_openBlock_zmn (g_M_openBlock_zmn (g_M_openBlock_zmn (g_M_codeOfBlock_zmn yl yr yn) yl yr) yl yr) yl yr) (by show _ = f_M_unwrap ys yl yr yu yf k; simp only [f_M_unwrap, if_neg h1, if_neg h3, if_pos h4, if_pos h6n, if_pos h7, if_pos h11n, if_neg h12]) (by simp only [g_M_unwrap_zm_4, g_M_unwrap_zmu, g_M_unwrap_zme, g_M_unwrap_zma, g_M_unwrap_zmb, if_neg h1, if_neg h3, if_pos h4, if_pos h6n, if_pos h7, if_pos h11n, if_neg h12]) d_M_unwrap_243
                · skip
                  refine pv_lload X 1 d_M_unwrap_219 rfl ?_
                  refine pv_calll0 X (rn_S X (c_M_odd l G ((((f_M_openBlock yl yr (yf 1)) ^^^ (yf 0)) <<< ((16 : Int32).toInt64 &&& 63)) ||| ((((f_M_openBlock yl yr (yf 2)) ^^^ (yf 1)).toUInt64 >>> ((48 : Int32).toInt64.toUInt64 &&& Int64.toUInt64 63)).toInt64))) trivial mf_M_odd m_673 m_674 rfl (by decide) (by decide) rfl (Nat.le_of_ble_eq_true rfl) d_M_unwrap_221) ?_
                  refine pv_lload X 1 d_M_unwrap_224 rfl ?_
                  refine pv_lcmp X d_M_unwrap_226 ?_
                  refine pv_if_ne X 241 d_M_unwrap_227 rfl (fun h14 => ?_) (fun h14n => ?_)
                  · skip
                    refine pv_bipush X (-6) d_M_unwrap_241 (by decide) ?_
                    exact pv_iret X hr hlk (g_M_openBlock_zmn (g_M_openBlock_zmn (g_M_openBlock_zmn (g_M_codeOfBlock_zmn yl yr yn) yl yr) yl yr) yl yr) (by show _ = f_M_unwrap ys yl yr yu yf k; simp only [f_M_unwrap, if_neg h1, if_neg h3, if_pos h4, if_pos h6n, if_pos h7, if_pos h11n, if_pos h12n, if_neg h14]) (by simp only [g_M_unwrap_zm_4, g_M_unwrap_zmu, g_M_unwrap_zme, g_M_unwrap_zma, g_M_unwrap_zmb, if_neg h1, if_neg h3, if_pos h4, if_pos h6n, if_pos h7, if_pos h11n, if_pos h12n, if_neg h14]) d_M_unwrap_243
                  · skip
                    refine pv_lload X 0 d_M_unwrap_230 rfl ?_
                    refine pv_calll0 X (rn_S X (c_M_odd l G ((((f_M_openBlock yl yr (yf 2)) ^^^ (yf 1)) <<< ((16 : Int32).toInt64 &&& 63)) ||| ((((f_M_openBlock yl yr (yf 3)) ^^^ (yf 2)).toUInt64 >>> ((48 : Int32).toInt64.toUInt64 &&& Int64.toUInt64 63)).toInt64))) trivial mf_M_odd m_673 m_674 rfl (by decide) (by decide) rfl (Nat.le_of_ble_eq_true rfl) d_M_unwrap_232) ?_
                    refine pv_lload X 0 d_M_unwrap_235 rfl ?_
                    refine pv_lcmp X d_M_unwrap_237 ?_
                    refine pv_if_eq X 244 d_M_unwrap_238 rfl (fun h16 => ?_) (fun h16n => ?_)
                    · skip
                      refine pv_aload_n X 6 d_M_unwrap_244 rfl ?_
                      refine pv_iload_n X 7 d_M_unwrap_245 rfl ?_
                      refine pv_iload_n X 5 d_M_unwrap_246 rfl ?_
                      refine pv_iconst X 1 d_M_unwrap_247 (by decide) ?_
                      refine pv_lload X 1 d_M_unwrap_248 rfl ?_
                      refine pv_lload X 0 d_M_unwrap_250 rfl ?_
                      refine pv_callv X (Cut.all _) (rn_V X (c_M_fill l G zm zmp zm1 zm2 zmx zmh zmt zmu zme zma zmb zmk zmc zmd zmi zmo zmf zmg zmn 0 ys yl yr yv yt yu ye ya yb yk yc yd yi yo yf yg (g_M_openBlock_zmn (g_M_openBlock_zmn (g_M_openBlock_zmn (g_M_codeOfBlock_zmn yl yr yn) yl yr) yl yr) yl yr) yp yq yw yx k (muh (yf 0) 4) 1 ((((f_M_openBlock yl yr (yf 1)) ^^^ (yf 0)) <<< ((16 : Int32).toInt64 &&& 63)) ||| ((((f_M_openBlock yl yr (yf 2)) ^^^ (yf 1)).toUInt64 >>> ((48 : Int32).toInt64.toUInt64 &&& Int64.toUInt64 63)).toInt64)) ((((f_M_openBlock yl yr (yf 2)) ^^^ (yf 1)) <<< ((16 : Int32).toInt64 &&& 63)) ||| ((((f_M_openBlock yl yr (yf 3)) ^^^ (yf 2)).toUInt64 >>> ((48 : Int32).toInt64.toUInt64 &&& Int64.toUInt64 63)).toInt64)) (Mslot_in h3) bo_1) trivial mf_M_fill m_729 m_731 ms_18 rfl 0 rfl rfl rfl (by decide) (by decide) rfl (Nat.le_of_ble_eq_true rfl) d_M_unwrap_252) (fun x17 e17 => ?_)
                      refine pv_eqw (ws2 := [ob zm 5 [.ref zmp, .ref zm1, .ref zm2, .ref zmx, .int 0, .ref zmh, .ref zmt, .int ys, .long yl, .long yr, .ref zmu, .ref zme, .ref zma, .ref zmb, .ref zmk, .ref zmc, .ref zmd, .ref zmi, .ref zmo, .ref zmf, .ref zmg, .ref zmn, .long yp, .long yq, .int yw, .long yx], aI G zmp 32 tb_perm, aI G zm1 56 tb_c1, aI G zm2 48 tb_c2, aI G zmx 512 tb_box, aJ G zmh 6 yv, aZ G zmt 6 yt, aI G zmu 16 (g_M_fill_zmu yu k (muh (yf 0) 4)), aZ G zme 16 (g_M_fill_zme ye k 1), aJ G zma 16 (g_M_fill_zma ya k ((((f_M_openBlock yl yr (yf 1)) ^^^ (yf 0)) <<< ((16 : Int32).toInt64 &&& 63)) ||| ((((f_M_openBlock yl yr (yf 2)) ^^^ (yf 1)).toUInt64 >>> ((48 : Int32).toInt64.toUInt64 &&& Int64.toUInt64 63)).toInt64))), aJ G zmb 16 (g_M_fill_zmb yb k ((((f_M_openBlock yl yr (yf 2)) ^^^ (yf 1)) <<< ((16 : Int32).toInt64 &&& 63)) ||| ((((f_M_openBlock yl yr (yf 3)) ^^^ (yf 2)).toUInt64 >>> ((48 : Int32).toInt64.toUInt64 &&& Int64.toUInt64 63)).toInt64))), aZ G zmk 8 yk, aJ G zmc 8 yc, aJ G zmd 8 yd, aJ G zmi 8 yi, aI G zmo 8 yo, aJ G zmf 5 yf, aJ G zmg 8 yg, aJ G zmn 16 (g_M_openBlock_zmn (g_M_openBlock_zmn (g_M_openBlock_zmn (g_M_codeOfBlock_zmn yl yr yn) yl yr) yl yr) yl yr)]) rfl ?_
                      refine pv_iload_n X 5 d_M_unwrap_255 rfl ?_
                      exact pv_iret X hr hlk (g_M_openBlock_zmn (g_M_openBlock_zmn (g_M_openBlock_zmn (g_M_codeOfBlock_zmn yl yr yn) yl yr) yl yr) yl yr) (by show _ = f_M_unwrap ys yl yr yu yf k; simp only [f_M_unwrap, if_neg h1, if_neg h3, if_pos h4, if_pos h6n, if_pos h7, if_pos h11n, if_pos h12n, if_pos h14n, if_pos h16]) (by simp only [g_M_unwrap_zm_4, g_M_unwrap_zmu, g_M_unwrap_zme, g_M_unwrap_zma, g_M_unwrap_zmb, if_neg h1, if_neg h3, if_pos h4, if_pos h6n, if_pos h7, if_pos h11n, if_pos h12n, if_pos h14n, if_pos h16]) d_M_unwrap_256
                    · skip
                      refine pv_bipush X (-6) d_M_unwrap_241 (by decide) ?_
                      exact pv_iret X hr hlk (g_M_openBlock_zmn (g_M_openBlock_zmn (g_M_openBlock_zmn (g_M_codeOfBlock_zmn yl yr yn) yl yr) yl yr) yl yr) (by show _ = f_M_unwrap ys yl yr yu yf k; simp only [f_M_unwrap, if_neg h1, if_neg h3, if_pos h4, if_pos h6n, if_pos h7, if_pos h11n, if_pos h12n, if_pos h14n, if_neg h16n]) (by simp only [g_M_unwrap_zm_4, g_M_unwrap_zmu, g_M_unwrap_zme, g_M_unwrap_zma, g_M_unwrap_zmb, if_neg h1, if_neg h3, if_pos h4, if_pos h6n, if_pos h7, if_pos h11n, if_pos h12n, if_pos h14n, if_neg h16n]) d_M_unwrap_243
            · skip
              refine pv_bipush X (-6) d_M_unwrap_89 (by decide) ?_
              exact pv_iret X hr hlk (g_M_codeOfBlock_zmn yl yr yn) (by show _ = f_M_unwrap ys yl yr yu yf k; simp only [f_M_unwrap, if_neg h1, if_neg h3, if_pos h4, if_pos h6n, if_neg h7n]) (by simp only [g_M_unwrap_zm_4, g_M_unwrap_zmu, g_M_unwrap_zme, g_M_unwrap_zma, g_M_unwrap_zmb, if_neg h1, if_neg h3, if_pos h4, if_pos h6n, if_neg h7n]) d_M_unwrap_91
        · skip
          refine pv_iload_n X 0 d_M_unwrap_40 rfl ?_
          refine pv_iconst X 4 d_M_unwrap_41 (by decide) ?_
          refine pv_icmp_ge X 71 d_M_unwrap_42 rfl (fun h => absurd h (nI_ge h_i (by decide))) (fun _ => ?_)
          refine pv_aload_n X 2 d_M_unwrap_45 rfl ?_
          refine pv_get X 0 19 u_M_in m_593 rfl rfl (by decide) ⟨rfl, rfl, rfl⟩ rfl d_M_unwrap_46 ?_
          refine pv_iconst X 0 d_M_unwrap_49 (by decide) ?_
          refine pv_lald X 16 rfl (by unfold vp_in; decide) d_M_unwrap_50 ?_
          refine pv_topl (yf 0) rfl ?_
          refine pv_iload_n X 0 d_M_unwrap_51 rfl ?_
          refine pv_calll0 X (rn_S X (c_M_header l G (nI i)) trivial mf_M_header m_745 m_746 rfl (by decide) (by decide) rfl (Nat.le_of_ble_eq_true rfl) d_M_unwrap_52) ?_
          refine pv_lcmp X d_M_unwrap_55 ?_
          refine pv_if_ne X 63 d_M_unwrap_56 rfl (fun h19 => ?_) (fun h19n => ?_)
          · skip
            refine pv_iload_n X 1 d_M_unwrap_63 rfl ?_
            refine pv_topi (muh (yf 0) (i + 1)) (by simp only [muh, if_neg h19]) ?_
            refine pv_istore_n (ll2 := [(2, .int (muh (yf 0) (i + 1))), (3, .int (nI i)), (0, .ref zm), (1, .int k)]) X d_M_unwrap_64 (by decide) rfl ?_
            refine pv_iinc (ll2 := [(3, .int (nI (i + 1))), (2, .int (muh (yf 0) (i + 1))), (0, .ref zm), (1, .int k)]) X 1 (nI (i + 1)) d_M_unwrap_65 rfl (nI_1 _) (by decide) rfl ?_
            refine pv_goto X 40 d_M_unwrap_68 rfl ?_
            refine pv_lpick (ll2 := [(3, .int (nI (i + 1))), (2, .int (muh (yf 0) (i + 1))), (0, .ref zm), (1, .int k)]) [0, 1, 2, 3] rfl ?_
            refine pv_eqw (ws2 := [ob zm 5 [.ref zmp, .ref zm1, .ref zm2, .ref zmx, .int 0, .ref zmh, .ref zmt, .int ys, .long yl, .long yr, .ref zmu, .ref zme, .ref zma, .ref zmb, .ref zmk, .ref zmc, .ref zmd, .ref zmi, .ref zmo, .ref zmf, .ref zmg, .ref zmn, .long yp, .long yq, .int yw, .long yx], aI G zmp 32 tb_perm, aI G zm1 56 tb_c1, aI G zm2 48 tb_c2, aI G zmx 512 tb_box, aJ G zmh 6 yv, aZ G zmt 6 yt, aI G zmu 16 yu, aZ G zme 16 ye, aJ G zma 16 ya, aJ G zmb 16 yb, aZ G zmk 8 yk, aJ G zmc 8 yc, aJ G zmd 8 yd, aJ G zmi 8 yi, aI G zmo 8 yo, aJ G zmf 5 yf, aJ G zmg 8 yg, aJ G zmn 16 yn]) rfl ?_
            exact ih_i trivial
          · skip
            refine pv_iload_n X 0 d_M_unwrap_59 rfl ?_
            refine pv_goto X 64 d_M_unwrap_60 rfl ?_
            refine pv_topi (muh (yf 0) (i + 1)) (by simp only [muh, if_pos h19n]) ?_
            refine pv_istore_n (ll2 := [(2, .int (muh (yf 0) (i + 1))), (3, .int (nI i)), (0, .ref zm), (1, .int k)]) X d_M_unwrap_64 (by decide) rfl ?_
            refine pv_iinc (ll2 := [(3, .int (nI (i + 1))), (2, .int (muh (yf 0) (i + 1))), (0, .ref zm), (1, .int k)]) X 1 (nI (i + 1)) d_M_unwrap_65 rfl (nI_1 _) (by decide) rfl ?_
            refine pv_goto X 40 d_M_unwrap_68 rfl ?_
            refine pv_lpick (ll2 := [(3, .int (nI (i + 1))), (2, .int (muh (yf 0) (i + 1))), (0, .ref zm), (1, .int k)]) [0, 1, 2, 3] rfl ?_
            refine pv_eqw (ws2 := [ob zm 5 [.ref zmp, .ref zm1, .ref zm2, .ref zmx, .int 0, .ref zmh, .ref zmt, .int ys, .long yl, .long yr, .ref zmu, .ref zme, .ref zma, .ref zmb, .ref zmk, .ref zmc, .ref zmd, .ref zmi, .ref zmo, .ref zmf, .ref zmg, .ref zmn, .long yp, .long yq, .int yw, .long yx], aI G zmp 32 tb_perm, aI G zm1 56 tb_c1, aI G zm2 48 tb_c2, aI G zmx 512 tb_box, aJ G zmh 6 yv, aZ G zmt 6 yt, aI G zmu 16 yu, aZ G zme 16 ye, aJ G zma 16 ya, aJ G zmb 16 yb, aZ G zmk 8 yk, aJ G zmc 8 yc, aJ G zmd 8 yd, aJ G zmi 8 yi, aI G zmo 8 yo, aJ G zmf 5 yf, aJ G zmg 8 yg, aJ G zmn 16 yn]) rfl ?_
            exact ih_i trivial
      · skip
        refine pv_bipush X (-3) d_M_unwrap_33 (by decide) ?_
        exact pv_iret X hr hlk yn (by show _ = f_M_unwrap ys yl yr yu yf k; simp only [f_M_unwrap, if_neg h1, if_neg h3, if_neg h4n]) (by simp only [g_M_unwrap_zm_4, g_M_unwrap_zmu, g_M_unwrap_zme, g_M_unwrap_zma, g_M_unwrap_zmb, if_neg h1, if_neg h3, if_neg h4n]) d_M_unwrap_35
    · skip
      refine pv_bipush X (-2) d_M_unwrap_21 (by decide) ?_
      exact pv_iret X hr hlk yn (by show _ = f_M_unwrap ys yl yr yu yf k; simp only [f_M_unwrap, if_neg h1, if_pos h3n]) (by simp only [g_M_unwrap_zm_4, g_M_unwrap_zmu, g_M_unwrap_zme, g_M_unwrap_zma, g_M_unwrap_zmb, if_neg h1, if_pos h3n]) d_M_unwrap_23
  · skip
    refine pv_iconst X (-1) d_M_unwrap_12 (by decide) ?_
    exact pv_iret X hr hlk yn (by show _ = f_M_unwrap ys yl yr yu yf k; simp only [f_M_unwrap, if_pos h1n]) (by simp only [g_M_unwrap_zm_4, g_M_unwrap_zmu, g_M_unwrap_zme, g_M_unwrap_zma, g_M_unwrap_zmb, if_pos h1n]) d_M_unwrap_13
def f_M_terminal (ys : Int32) (yu : Nat → Int32) (yk : Nat → Int32) (t : Int32) (k : Int32) (v : Int64) : Int32 := if ys = 0 then (-1) else (if (f_M_isTerminal t) = 0 then (-2) else (if (f_M_isSlot k) = 0 then (-2) else (if (f_M_in v (0 : Int64) (8796093022207 : Int64)) = 0 then (-2) else (if (yu k.toNatClampNeg) < 0 then (-3) else (if (yk t.toNatClampNeg) = 0 then (if (yu k.toNatClampNeg) = 2 then 0 else (-4)) else (-3))))))
def g_M_terminal_zm_4  : Int32 := 0
def g_M_terminal_zmk (ys : Int32) (yu : Nat → Int32) (yk : Nat → Int32) (t : Int32) (k : Int32) (v : Int64) : Nat → Int32 := if ys = 0 then yk else (if (f_M_isTerminal t) = 0 then yk else (if (f_M_isSlot k) = 0 then yk else (if (f_M_in v (0 : Int64) (8796093022207 : Int64)) = 0 then yk else (if (yu k.toNatClampNeg) < 0 then yk else (if (yk t.toNatClampNeg) = 0 then (if (yu k.toNatClampNeg) = 2 then (upd yk t.toNatClampNeg 1) else yk) else yk)))))
def g_M_terminal_zmc (ys : Int32) (yu : Nat → Int32) (ya : Nat → Int64) (yk : Nat → Int32) (yc : Nat → Int64) (t : Int32) (k : Int32) (v : Int64) : Nat → Int64 := if ys = 0 then yc else (if (f_M_isTerminal t) = 0 then yc else (if (f_M_isSlot k) = 0 then yc else (if (f_M_in v (0 : Int64) (8796093022207 : Int64)) = 0 then yc else (if (yu k.toNatClampNeg) < 0 then yc else (if (yk t.toNatClampNeg) = 0 then (if (yu k.toNatClampNeg) = 2 then (vp_updL yc t.toNatClampNeg (ya k.toNatClampNeg)) else yc) else yc)))))
def g_M_terminal_zmd (ys : Int32) (yu : Nat → Int32) (yb : Nat → Int64) (yk : Nat → Int32) (yd : Nat → Int64) (t : Int32) (k : Int32) (v : Int64) : Nat → Int64 := if ys = 0 then yd else (if (f_M_isTerminal t) = 0 then yd else (if (f_M_isSlot k) = 0 then yd else (if (f_M_in v (0 : Int64) (8796093022207 : Int64)) = 0 then yd else (if (yu k.toNatClampNeg) < 0 then yd else (if (yk t.toNatClampNeg) = 0 then (if (yu k.toNatClampNeg) = 2 then (vp_updL yd t.toNatClampNeg (yb k.toNatClampNeg)) else yd) else yd)))))
def g_M_terminal_zmi (ys : Int32) (yu : Nat → Int32) (yk : Nat → Int32) (yi : Nat → Int64) (t : Int32) (k : Int32) (v : Int64) : Nat → Int64 := if ys = 0 then yi else (if (f_M_isTerminal t) = 0 then yi else (if (f_M_isSlot k) = 0 then yi else (if (f_M_in v (0 : Int64) (8796093022207 : Int64)) = 0 then yi else (if (yu k.toNatClampNeg) < 0 then yi else (if (yk t.toNatClampNeg) = 0 then (if (yu k.toNatClampNeg) = 2 then (vp_updL yi t.toNatClampNeg v) else yi) else yi)))))
def g_M_terminal_zmo (ys : Int32) (yu : Nat → Int32) (yk : Nat → Int32) (yo : Nat → Int32) (t : Int32) (k : Int32) (v : Int64) : Nat → Int32 := if ys = 0 then yo else (if (f_M_isTerminal t) = 0 then yo else (if (f_M_isSlot k) = 0 then yo else (if (f_M_in v (0 : Int64) (8796093022207 : Int64)) = 0 then yo else (if (yu k.toNatClampNeg) < 0 then yo else (if (yk t.toNatClampNeg) = 0 then (if (yu k.toNatClampNeg) = 2 then (upd yo t.toNatClampNeg 0) else yo) else yo)))))
abbrev rm_M_terminal : Room := { frames := 2, cells := 0, slots := 0, locals := 45 }
theorem mf_M_terminal : MF y_M_terminal b_M_terminal 5 (some .int) 3 := ⟨m_779, m_6, by decide, by decide, by decide +kernel⟩
theorem d_M_terminal_0 : decode b_M_terminal 0 = .ok (.aload_n 0, 1) := by decide +kernel
theorem d_M_terminal_1 : decode b_M_terminal 1 = .ok (.iconst 0, 1) := by decide +kernel
theorem d_M_terminal_2 : decode b_M_terminal 2 = .ok (.putfield 66, 3) := by decide +kernel
theorem d_M_terminal_5 : decode b_M_terminal 5 = .ok (.aload_n 0, 1) := by decide +kernel
theorem d_M_terminal_6 : decode b_M_terminal 6 = .ok (.getfield 108, 3) := by decide +kernel
theorem d_M_terminal_9 : decode b_M_terminal 9 = .ok (.ifCond .ne 5, 3) := by decide +kernel
theorem d_M_terminal_12 : decode b_M_terminal 12 = .ok (.iconst (-1), 1) := by decide +kernel
theorem d_M_terminal_13 : decode b_M_terminal 13 = .ok (.ireturn, 1) := by decide +kernel
theorem d_M_terminal_14 : decode b_M_terminal 14 = .ok (.iload_n 1, 1) := by decide +kernel
theorem d_M_terminal_15 : decode b_M_terminal 15 = .ok (.invokestatic 187, 3) := by decide +kernel
theorem d_M_terminal_18 : decode b_M_terminal 18 = .ok (.ifCond .eq 21, 3) := by decide +kernel
theorem d_M_terminal_21 : decode b_M_terminal 21 = .ok (.iload_n 2, 1) := by decide +kernel
theorem d_M_terminal_22 : decode b_M_terminal 22 = .ok (.invokestatic 137, 3) := by decide +kernel
theorem d_M_terminal_25 : decode b_M_terminal 25 = .ok (.ifCond .eq 14, 3) := by decide +kernel
theorem d_M_terminal_28 : decode b_M_terminal 28 = .ok (.lload_n 3, 1) := by decide +kernel
theorem d_M_terminal_29 : decode b_M_terminal 29 = .ok (.lconst 0, 1) := by decide +kernel
theorem d_M_terminal_30 : decode b_M_terminal 30 = .ok (.ldc2_w 190, 3) := by decide +kernel
theorem d_M_terminal_33 : decode b_M_terminal 33 = .ok (.invokestatic 104, 3) := by decide +kernel
theorem d_M_terminal_36 : decode b_M_terminal 36 = .ok (.ifCond .ne 6, 3) := by decide +kernel
theorem d_M_terminal_39 : decode b_M_terminal 39 = .ok (.bipush (-2), 2) := by decide +kernel
theorem d_M_terminal_41 : decode b_M_terminal 41 = .ok (.ireturn, 1) := by decide +kernel
theorem d_M_terminal_42 : decode b_M_terminal 42 = .ok (.aload_n 0, 1) := by decide +kernel
theorem d_M_terminal_43 : decode b_M_terminal 43 = .ok (.getfield 30, 3) := by decide +kernel
theorem d_M_terminal_46 : decode b_M_terminal 46 = .ok (.iload_n 2, 1) := by decide +kernel
theorem d_M_terminal_47 : decode b_M_terminal 47 = .ok (.iaload, 1) := by decide +kernel
theorem d_M_terminal_48 : decode b_M_terminal 48 = .ok (.ifCond .lt 12, 3) := by decide +kernel
theorem d_M_terminal_51 : decode b_M_terminal 51 = .ok (.aload_n 0, 1) := by decide +kernel
theorem d_M_terminal_52 : decode b_M_terminal 52 = .ok (.getfield 42, 3) := by decide +kernel
theorem d_M_terminal_55 : decode b_M_terminal 55 = .ok (.iload_n 1, 1) := by decide +kernel
theorem d_M_terminal_56 : decode b_M_terminal 56 = .ok (.baload, 1) := by decide +kernel
theorem d_M_terminal_57 : decode b_M_terminal 57 = .ok (.ifCond .eq 6, 3) := by decide +kernel
theorem d_M_terminal_60 : decode b_M_terminal 60 = .ok (.bipush (-3), 2) := by decide +kernel
theorem d_M_terminal_62 : decode b_M_terminal 62 = .ok (.ireturn, 1) := by decide +kernel
theorem d_M_terminal_63 : decode b_M_terminal 63 = .ok (.aload_n 0, 1) := by decide +kernel
theorem d_M_terminal_64 : decode b_M_terminal 64 = .ok (.getfield 30, 3) := by decide +kernel
theorem d_M_terminal_67 : decode b_M_terminal 67 = .ok (.iload_n 2, 1) := by decide +kernel
theorem d_M_terminal_68 : decode b_M_terminal 68 = .ok (.iaload, 1) := by decide +kernel
theorem d_M_terminal_69 : decode b_M_terminal 69 = .ok (.iconst 2, 1) := by decide +kernel
theorem d_M_terminal_70 : decode b_M_terminal 70 = .ok (.if_icmp .eq 6, 3) := by decide +kernel
theorem d_M_terminal_73 : decode b_M_terminal 73 = .ok (.bipush (-4), 2) := by decide +kernel
theorem d_M_terminal_75 : decode b_M_terminal 75 = .ok (.ireturn, 1) := by decide +kernel
theorem d_M_terminal_76 : decode b_M_terminal 76 = .ok (.aload_n 0, 1) := by decide +kernel
theorem d_M_terminal_77 : decode b_M_terminal 77 = .ok (.getfield 42, 3) := by decide +kernel
theorem d_M_terminal_80 : decode b_M_terminal 80 = .ok (.iload_n 1, 1) := by decide +kernel
theorem d_M_terminal_81 : decode b_M_terminal 81 = .ok (.iconst 1, 1) := by decide +kernel
theorem d_M_terminal_82 : decode b_M_terminal 82 = .ok (.bastore, 1) := by decide +kernel
theorem d_M_terminal_83 : decode b_M_terminal 83 = .ok (.aload_n 0, 1) := by decide +kernel
theorem d_M_terminal_84 : decode b_M_terminal 84 = .ok (.getfield 45, 3) := by decide +kernel
theorem d_M_terminal_87 : decode b_M_terminal 87 = .ok (.iload_n 1, 1) := by decide +kernel
theorem d_M_terminal_88 : decode b_M_terminal 88 = .ok (.aload_n 0, 1) := by decide +kernel
theorem d_M_terminal_89 : decode b_M_terminal 89 = .ok (.getfield 36, 3) := by decide +kernel
theorem d_M_terminal_92 : decode b_M_terminal 92 = .ok (.iload_n 2, 1) := by decide +kernel
theorem d_M_terminal_93 : decode b_M_terminal 93 = .ok (.laload, 1) := by decide +kernel
theorem d_M_terminal_94 : decode b_M_terminal 94 = .ok (.lastore, 1) := by decide +kernel
theorem d_M_terminal_95 : decode b_M_terminal 95 = .ok (.aload_n 0, 1) := by decide +kernel
theorem d_M_terminal_96 : decode b_M_terminal 96 = .ok (.getfield 48, 3) := by decide +kernel
theorem d_M_terminal_99 : decode b_M_terminal 99 = .ok (.iload_n 1, 1) := by decide +kernel
theorem d_M_terminal_100 : decode b_M_terminal 100 = .ok (.aload_n 0, 1) := by decide +kernel
theorem d_M_terminal_101 : decode b_M_terminal 101 = .ok (.getfield 39, 3) := by decide +kernel
theorem d_M_terminal_104 : decode b_M_terminal 104 = .ok (.iload_n 2, 1) := by decide +kernel
theorem d_M_terminal_105 : decode b_M_terminal 105 = .ok (.laload, 1) := by decide +kernel
theorem d_M_terminal_106 : decode b_M_terminal 106 = .ok (.lastore, 1) := by decide +kernel
theorem d_M_terminal_107 : decode b_M_terminal 107 = .ok (.aload_n 0, 1) := by decide +kernel
theorem d_M_terminal_108 : decode b_M_terminal 108 = .ok (.getfield 51, 3) := by decide +kernel
theorem d_M_terminal_111 : decode b_M_terminal 111 = .ok (.iload_n 1, 1) := by decide +kernel
theorem d_M_terminal_112 : decode b_M_terminal 112 = .ok (.lload_n 3, 1) := by decide +kernel
theorem d_M_terminal_113 : decode b_M_terminal 113 = .ok (.lastore, 1) := by decide +kernel
theorem d_M_terminal_114 : decode b_M_terminal 114 = .ok (.aload_n 0, 1) := by decide +kernel
theorem d_M_terminal_115 : decode b_M_terminal 115 = .ok (.getfield 54, 3) := by decide +kernel
theorem d_M_terminal_118 : decode b_M_terminal 118 = .ok (.iload_n 1, 1) := by decide +kernel
theorem d_M_terminal_119 : decode b_M_terminal 119 = .ok (.iconst 0, 1) := by decide +kernel
theorem d_M_terminal_120 : decode b_M_terminal 120 = .ok (.iastore, 1) := by decide +kernel
theorem d_M_terminal_121 : decode b_M_terminal 121 = .ok (.iconst 0, 1) := by decide +kernel
theorem d_M_terminal_122 : decode b_M_terminal 122 = .ok (.ireturn, 1) := by decide +kernel
set_option maxRecDepth 100000 in
set_option maxHeartbeats 4000000 in
theorem c_M_terminal (l : Launch) (G : Gt) (zm zmp zm1 zm2 zmx zmh zmt zmu zme zma zmb zmk zmc zmd zmi zmo zmf zmg zmn : Nat) (th ys : Int32) (yl yr : Int64) (yv : Nat → Int64) (yt yu ye : Nat → Int32) (ya yb : Nat → Int64) (yk : Nat → Int32) (yc yd yi : Nat → Int64) (yo : Nat → Int32) (yf yg yn : Nat → Int64) (yp yq : Int64) (yw : Int32) (yx : Int64) (t k : Int32) (v : Int64) : CtI l G y_M_terminal b_M_terminal 5 (some .int) rm_M_terminal E0 [.ref zm, .int t, .int k, .long v] [ob zm 5 [.ref zmp, .ref zm1, .ref zm2, .ref zmx, .int th, .ref zmh, .ref zmt, .int ys, .long yl, .long yr, .ref zmu, .ref zme, .ref zma, .ref zmb, .ref zmk, .ref zmc, .ref zmd, .ref zmi, .ref zmo, .ref zmf, .ref zmg, .ref zmn, .long yp, .long yq, .int yw, .long yx], aI G zmp 32 tb_perm, aI G zm1 56 tb_c1, aI G zm2 48 tb_c2, aI G zmx 512 tb_box, aJ G zmh 6 yv, aZ G zmt 6 yt, aI G zmu 16 yu, aZ G zme 16 ye, aJ G zma 16 ya, aJ G zmb 16 yb, aZ G zmk 8 yk, aJ G zmc 8 yc, aJ G zmd 8 yd, aJ G zmi 8 yi, aI G zmo 8 yo, aJ G zmf 5 yf, aJ G zmg 8 yg, aJ G zmn 16 yn] (fun r (_ : Unit) => r = f_M_terminal ys yu yk t k v) (fun _ => [ob zm 5 [.ref zmp, .ref zm1, .ref zm2, .ref zmx, .int g_M_terminal_zm_4, .ref zmh, .ref zmt, .int ys, .long yl, .long yr, .ref zmu, .ref zme, .ref zma, .ref zmb, .ref zmk, .ref zmc, .ref zmd, .ref zmi, .ref zmo, .ref zmf, .ref zmg, .ref zmn, .long yp, .long yq, .int yw, .long yx], aI G zmp 32 tb_perm, aI G zm1 56 tb_c1, aI G zm2 48 tb_c2, aI G zmx 512 tb_box, aJ G zmh 6 yv, aZ G zmt 6 yt, aI G zmu 16 yu, aZ G zme 16 ye, aJ G zma 16 ya, aJ G zmb 16 yb, aZ G zmk 8 (g_M_terminal_zmk ys yu yk t k v), aJ G zmc 8 (g_M_terminal_zmc ys yu ya yk yc t k v), aJ G zmd 8 (g_M_terminal_zmd ys yu yb yk yd t k v), aJ G zmi 8 (g_M_terminal_zmi ys yu yk yi t k v), aI G zmo 8 (g_M_terminal_zmo ys yu yk yo t k v), aJ G zmf 5 yf, aJ G zmg 8 yg, aJ G zmn 16 yn]) 0 0 := by
  refine Ct.of (Qp := fun A => va_Qi _ (qB G A _) A) Stb_0 (by decide) (Nat.le_of_ble_eq_true rfl) ?_
  intro p e s m args below meth c A X hE hr hlk hini
  refine pv_eql (ll2 := [(0, .ref zm), (1, .int t), (2, .int k), (3, .long v)]) rfl ?_
  refine pv_aload_n X 0 d_M_terminal_0 rfl ?_
  refine pv_iconst X 0 d_M_terminal_1 (by decide) ?_
  refine pv_put X (ty := .int) (ws2 := [ob zm 5 [.ref zmp, .ref zm1, .ref zm2, .ref zmx, .int 0, .ref zmh, .ref zmt, .int ys, .long yl, .long yr, .ref zmu, .ref zme, .ref zma, .ref zmb, .ref zmk, .ref zmc, .ref zmd, .ref zmi, .ref zmo, .ref zmf, .ref zmg, .ref zmn, .long yp, .long yq, .int yw, .long yx], aI G zmp 32 tb_perm, aI G zm1 56 tb_c1, aI G zm2 48 tb_c2, aI G zmx 512 tb_box, aJ G zmh 6 yv, aZ G zmt 6 yt, aI G zmu 16 yu, aZ G zme 16 ye, aJ G zma 16 ya, aJ G zmb 16 yb, aZ G zmk 8 yk, aJ G zmc 8 yc, aJ G zmd 8 yd, aJ G zmi 8 yi, aI G zmo 8 yo, aJ G zmf 5 yf, aJ G zmg 8 yg, aJ G zmn 16 yn]) 0 4 ty_M ty_M_ok n_M u_M_in m_578 rfl rfl (by decide) ⟨rfl, rfl, rfl⟩ rfl (by decide +kernel) rfl rfl (Nat.le_of_ble_eq_true rfl) rfl d_M_terminal_2 ?_
  refine pv_aload_n X 0 d_M_terminal_5 rfl ?_
  refine pv_get X 0 7 u_M_in m_581 rfl rfl (by decide) ⟨rfl, rfl, rfl⟩ rfl d_M_terminal_6 ?_
  refine pv_if_ne X 14 d_M_terminal_9 rfl (fun h1 => ?_) (fun h1n => ?_)
  · skip
    refine pv_iload_n X 1 d_M_terminal_14 rfl ?_
    refine pv_calli0 X (rn_S X (c_M_isTerminal l G t) trivial mf_M_isTerminal m_780 m_781 rfl (by decide) (by decide) rfl (Nat.le_of_ble_eq_true rfl) d_M_terminal_15) ?_
    refine pv_if_eq X 39 d_M_terminal_18 rfl (fun h3 => ?_) (fun h3n => ?_)
    · skip
      refine pv_bipush X (-2) d_M_terminal_39 (by decide) ?_
      exact pv_iret X hr hlk () (by show _ = f_M_terminal ys yu yk t k v; simp only [f_M_terminal, if_neg h1, if_pos h3]) (by simp only [g_M_terminal_zm_4, g_M_terminal_zmk, g_M_terminal_zmc, g_M_terminal_zmd, g_M_terminal_zmi, g_M_terminal_zmo, if_neg h1, if_pos h3]) d_M_terminal_41
    · skip
      refine pv_iload_n X 2 d_M_terminal_21 rfl ?_
      refine pv_calli0 X (rn_S X (c_M_isSlot l G k) trivial mf_M_isSlot m_724 m_725 rfl (by decide) (by decide) rfl (Nat.le_of_ble_eq_true rfl) d_M_terminal_22) ?_
      refine pv_if_eq X 39 d_M_terminal_25 rfl (fun h5 => ?_) (fun h5n => ?_)
      · skip
        refine pv_bipush X (-2) d_M_terminal_39 (by decide) ?_
        exact pv_iret X hr hlk () (by show _ = f_M_terminal ys yu yk t k v; simp only [f_M_terminal, if_neg h1, if_neg h3n, if_pos h5]) (by simp only [g_M_terminal_zm_4, g_M_terminal_zmk, g_M_terminal_zmc, g_M_terminal_zmd, g_M_terminal_zmi, g_M_terminal_zmo, if_neg h1, if_neg h3n, if_pos h5]) d_M_terminal_41
      · skip
        refine pv_lload_n X 3 d_M_terminal_28 rfl ?_
        refine pv_lconst X 0 d_M_terminal_29 (by decide) ?_
        refine pv_ldc2_w X m_783 d_M_terminal_30 ?_
        refine pv_calli0 X (rn_S X (c_M_in l G v (0 : Int64) (8796093022207 : Int64)) trivial mf_M_in m_662 m_663 rfl (by decide) (by decide) rfl (Nat.le_of_ble_eq_true rfl) d_M_terminal_33) ?_
        refine pv_if_ne X 42 d_M_terminal_36 rfl (fun h7 => ?_) (fun h7n => ?_)
        · skip
          refine pv_aload_n X 0 d_M_terminal_42 rfl ?_
          refine pv_get X 0 10 u_M_in m_584 rfl rfl (by decide) ⟨rfl, rfl, rfl⟩ rfl d_M_terminal_43 ?_
          refine pv_iload_n X 2 d_M_terminal_46 rfl ?_
          refine pv_iald X 7 rfl (Mslot_in h5n) d_M_terminal_47 ?_
          refine pv_if_lt X 60 d_M_terminal_48 rfl (fun h8 => ?_) (fun h8n => ?_)
          · skip
            refine pv_bipush X (-3) d_M_terminal_60 (by decide) ?_
            exact pv_iret X hr hlk () (by show _ = f_M_terminal ys yu yk t k v; simp only [f_M_terminal, if_neg h1, if_neg h3n, if_neg h5n, if_neg h7, if_pos h8]) (by simp only [g_M_terminal_zm_4, g_M_terminal_zmk, g_M_terminal_zmc, g_M_terminal_zmd, g_M_terminal_zmi, g_M_terminal_zmo, if_neg h1, if_neg h3n, if_neg h5n, if_neg h7, if_pos h8]) d_M_terminal_62
          · skip
            refine pv_aload_n X 0 d_M_terminal_51 rfl ?_
            refine pv_get X 0 14 u_M_in m_588 rfl rfl (by decide) ⟨rfl, rfl, rfl⟩ rfl d_M_terminal_52 ?_
            refine pv_iload_n X 1 d_M_terminal_55 rfl ?_
            refine pv_zald X 11 rfl (Mterm_in h3n) d_M_terminal_56 ?_
            refine pv_if_eq X 63 d_M_terminal_57 rfl (fun h9 => ?_) (fun h9n => ?_)
            · skip
              refine pv_aload_n X 0 d_M_terminal_63 rfl ?_
              refine pv_get X 0 10 u_M_in m_584 rfl rfl (by decide) ⟨rfl, rfl, rfl⟩ rfl d_M_terminal_64 ?_
              refine pv_iload_n X 2 d_M_terminal_67 rfl ?_
              refine pv_iald X 7 rfl (Mslot_in h5n) d_M_terminal_68 ?_
              refine pv_iconst X 2 d_M_terminal_69 (by decide) ?_
              refine pv_icmp_eq X 76 d_M_terminal_70 rfl (fun h10 => ?_) (fun h10n => ?_)
              · skip
                refine pv_aload_n X 0 d_M_terminal_76 rfl ?_
                refine pv_get X 0 14 u_M_in m_588 rfl rfl (by decide) ⟨rfl, rfl, rfl⟩ rfl d_M_terminal_77 ?_
                refine pv_iload_n X 1 d_M_terminal_80 rfl ?_
                refine pv_iconst X 1 d_M_terminal_81 (by decide) ?_
                refine pv_zast (ws2 := [ob zm 5 [.ref zmp, .ref zm1, .ref zm2, .ref zmx, .int 0, .ref zmh, .ref zmt, .int ys, .long yl, .long yr, .ref zmu, .ref zme, .ref zma, .ref zmb, .ref zmk, .ref zmc, .ref zmd, .ref zmi, .ref zmo, .ref zmf, .ref zmg, .ref zmn, .long yp, .long yq, .int yw, .long yx], aI G zmp 32 tb_perm, aI G zm1 56 tb_c1, aI G zm2 48 tb_c2, aI G zmx 512 tb_box, aJ G zmh 6 yv, aZ G zmt 6 yt, aI G zmu 16 yu, aZ G zme 16 ye, aJ G zma 16 ya, aJ G zmb 16 yb, aZ G zmk 8 (upd yk t.toNatClampNeg 1), aJ G zmc 8 yc, aJ G zmd 8 yd, aJ G zmi 8 yi, aI G zmo 8 yo, aJ G zmf 5 yf, aJ G zmg 8 yg, aJ G zmn 16 yn]) X 11 rfl (Mterm_in h3n) rfl d_M_terminal_82 ?_
                refine pv_aload_n X 0 d_M_terminal_83 rfl ?_
                refine pv_get X 0 15 u_M_in m_589 rfl rfl (by decide) ⟨rfl, rfl, rfl⟩ rfl d_M_terminal_84 ?_
                refine pv_iload_n X 1 d_M_terminal_87 rfl ?_
                refine pv_aload_n X 0 d_M_terminal_88 rfl ?_
                refine pv_get X 0 12 u_M_in m_586 rfl rfl (by decide) ⟨rfl, rfl, rfl⟩ rfl d_M_terminal_89 ?_
                refine pv_iload_n X 2 d_M_terminal_92 rfl ?_
                refine pv_lald X 9 rfl (Mslot_in h5n) d_M_terminal_93 ?_
                refine pv_last (ws2 := [ob zm 5 [.ref zmp, .ref zm1, .ref zm2, .ref zmx, .int 0, .ref zmh, .ref zmt, .int ys, .long yl, .long yr, .ref zmu, .ref zme, .ref zma, .ref zmb, .ref zmk, .ref zmc, .ref zmd, .ref zmi, .ref zmo, .ref zmf, .ref zmg, .ref zmn, .long yp, .long yq, .int yw, .long yx], aI G zmp 32 tb_perm, aI G zm1 56 tb_c1, aI G zm2 48 tb_c2, aI G zmx 512 tb_box, aJ G zmh 6 yv, aZ G zmt 6 yt, aI G zmu 16 yu, aZ G zme 16 ye, aJ G zma 16 ya, aJ G zmb 16 yb, aZ G zmk 8 (upd yk t.toNatClampNeg 1), aJ G zmc 8 (vp_updL yc t.toNatClampNeg (ya k.toNatClampNeg)), aJ G zmd 8 yd, aJ G zmi 8 yi, aI G zmo 8 yo, aJ G zmf 5 yf, aJ G zmg 8 yg, aJ G zmn 16 yn]) X 12 rfl (Mterm_in h3n) rfl d_M_terminal_94 ?_
                refine pv_aload_n X 0 d_M_terminal_95 rfl ?_
                refine pv_get X 0 16 u_M_in m_590 rfl rfl (by decide) ⟨rfl, rfl, rfl⟩ rfl d_M_terminal_96 ?_
                refine pv_iload_n X 1 d_M_terminal_99 rfl ?_
                refine pv_aload_n X 0 d_M_terminal_100 rfl ?_
                refine pv_get X 0 13 u_M_in m_587 rfl rfl (by decide) ⟨rfl, rfl, rfl⟩ rfl d_M_terminal_101 ?_
                refine pv_iload_n X 2 d_M_terminal_104 rfl ?_
                refine pv_lald X 10 rfl (Mslot_in h5n) d_M_terminal_105 ?_
                refine pv_last (ws2 := [ob zm 5 [.ref zmp, .ref zm1, .ref zm2, .ref zmx, .int 0, .ref zmh, .ref zmt, .int ys, .long yl, .long yr, .ref zmu, .ref zme, .ref zma, .ref zmb, .ref zmk, .ref zmc, .ref zmd, .ref zmi, .ref zmo, .ref zmf, .ref zmg, .ref zmn, .long yp, .long yq, .int yw, .long yx], aI G zmp 32 tb_perm, aI G zm1 56 tb_c1, aI G zm2 48 tb_c2, aI G zmx 512 tb_box, aJ G zmh 6 yv, aZ G zmt 6 yt, aI G zmu 16 yu, aZ G zme 16 ye, aJ G zma 16 ya, aJ G zmb 16 yb, aZ G zmk 8 (upd yk t.toNatClampNeg 1), aJ G zmc 8 (vp_updL yc t.toNatClampNeg (ya k.toNatClampNeg)), aJ G zmd 8 (vp_updL yd t.toNatClampNeg (yb k.toNatClampNeg)), aJ G zmi 8 yi, aI G zmo 8 yo, aJ G zmf 5 yf, aJ G zmg 8 yg, aJ G zmn 16 yn]) X 13 rfl (Mterm_in h3n) rfl d_M_terminal_106 ?_
                refine pv_aload_n X 0 d_M_terminal_107 rfl ?_
                refine pv_get X 0 17 u_M_in m_591 rfl rfl (by decide) ⟨rfl, rfl, rfl⟩ rfl d_M_terminal_108 ?_
                refine pv_iload_n X 1 d_M_terminal_111 rfl ?_
                refine pv_lload_n X 3 d_M_terminal_112 rfl ?_
                refine pv_last (ws2 := [ob zm 5 [.ref zmp, .ref zm1, .ref zm2, .ref zmx, .int 0, .ref zmh, .ref zmt, .int ys, .long yl, .long yr, .ref zmu, .ref zme, .ref zma, .ref zmb, .ref zmk, .ref zmc, .ref zmd, .ref zmi, .ref zmo, .ref zmf, .ref zmg, .ref zmn, .long yp, .long yq, .int yw, .long yx], aI G zmp 32 tb_perm, aI G zm1 56 tb_c1, aI G zm2 48 tb_c2, aI G zmx 512 tb_box, aJ G zmh 6 yv, aZ G zmt 6 yt, aI G zmu 16 yu, aZ G zme 16 ye, aJ G zma 16 ya, aJ G zmb 16 yb, aZ G zmk 8 (upd yk t.toNatClampNeg 1), aJ G zmc 8 (vp_updL yc t.toNatClampNeg (ya k.toNatClampNeg)), aJ G zmd 8 (vp_updL yd t.toNatClampNeg (yb k.toNatClampNeg)), aJ G zmi 8 (vp_updL yi t.toNatClampNeg v), aI G zmo 8 yo, aJ G zmf 5 yf, aJ G zmg 8 yg, aJ G zmn 16 yn]) X 14 rfl (Mterm_in h3n) rfl d_M_terminal_113 ?_
                refine pv_aload_n X 0 d_M_terminal_114 rfl ?_
                refine pv_get X 0 18 u_M_in m_592 rfl rfl (by decide) ⟨rfl, rfl, rfl⟩ rfl d_M_terminal_115 ?_
                refine pv_iload_n X 1 d_M_terminal_118 rfl ?_
                refine pv_iconst X 0 d_M_terminal_119 (by decide) ?_
                refine pv_iast (ws2 := [ob zm 5 [.ref zmp, .ref zm1, .ref zm2, .ref zmx, .int 0, .ref zmh, .ref zmt, .int ys, .long yl, .long yr, .ref zmu, .ref zme, .ref zma, .ref zmb, .ref zmk, .ref zmc, .ref zmd, .ref zmi, .ref zmo, .ref zmf, .ref zmg, .ref zmn, .long yp, .long yq, .int yw, .long yx], aI G zmp 32 tb_perm, aI G zm1 56 tb_c1, aI G zm2 48 tb_c2, aI G zmx 512 tb_box, aJ G zmh 6 yv, aZ G zmt 6 yt, aI G zmu 16 yu, aZ G zme 16 ye, aJ G zma 16 ya, aJ G zmb 16 yb, aZ G zmk 8 (upd yk t.toNatClampNeg 1), aJ G zmc 8 (vp_updL yc t.toNatClampNeg (ya k.toNatClampNeg)), aJ G zmd 8 (vp_updL yd t.toNatClampNeg (yb k.toNatClampNeg)), aJ G zmi 8 (vp_updL yi t.toNatClampNeg v), aI G zmo 8 (upd yo t.toNatClampNeg 0), aJ G zmf 5 yf, aJ G zmg 8 yg, aJ G zmn 16 yn]) X 15 rfl (Mterm_in h3n) rfl d_M_terminal_120 ?_
                refine pv_iconst X 0 d_M_terminal_121 (by decide) ?_
                exact pv_iret X hr hlk () (by show _ = f_M_terminal ys yu yk t k v; simp only [f_M_terminal, if_neg h1, if_neg h3n, if_neg h5n, if_neg h7, if_neg h8n, if_pos h9, if_pos h10]) (by simp only [g_M_terminal_zm_4, g_M_terminal_zmk, g_M_terminal_zmc, g_M_terminal_zmd, g_M_terminal_zmi, g_M_terminal_zmo, if_neg h1, if_neg h3n, if_neg h5n, if_neg h7, if_neg h8n, if_pos h9, if_pos h10]) d_M_terminal_122
              · skip
                refine pv_bipush X (-4) d_M_terminal_73 (by decide) ?_
                exact pv_iret X hr hlk () (by show _ = f_M_terminal ys yu yk t k v; simp only [f_M_terminal, if_neg h1, if_neg h3n, if_neg h5n, if_neg h7, if_neg h8n, if_pos h9, if_neg h10n]) (by simp only [g_M_terminal_zm_4, g_M_terminal_zmk, g_M_terminal_zmc, g_M_terminal_zmd, g_M_terminal_zmi, g_M_terminal_zmo, if_neg h1, if_neg h3n, if_neg h5n, if_neg h7, if_neg h8n, if_pos h9, if_neg h10n]) d_M_terminal_75
            · skip
              refine pv_bipush X (-3) d_M_terminal_60 (by decide) ?_
              exact pv_iret X hr hlk () (by show _ = f_M_terminal ys yu yk t k v; simp only [f_M_terminal, if_neg h1, if_neg h3n, if_neg h5n, if_neg h7, if_neg h8n, if_neg h9n]) (by simp only [g_M_terminal_zm_4, g_M_terminal_zmk, g_M_terminal_zmc, g_M_terminal_zmd, g_M_terminal_zmi, g_M_terminal_zmo, if_neg h1, if_neg h3n, if_neg h5n, if_neg h7, if_neg h8n, if_neg h9n]) d_M_terminal_62
        · skip
          refine pv_bipush X (-2) d_M_terminal_39 (by decide) ?_
          exact pv_iret X hr hlk () (by show _ = f_M_terminal ys yu yk t k v; simp only [f_M_terminal, if_neg h1, if_neg h3n, if_neg h5n, if_pos h7n]) (by simp only [g_M_terminal_zm_4, g_M_terminal_zmk, g_M_terminal_zmc, g_M_terminal_zmd, g_M_terminal_zmi, g_M_terminal_zmo, if_neg h1, if_neg h3n, if_neg h5n, if_pos h7n]) d_M_terminal_41
  · skip
    refine pv_iconst X (-1) d_M_terminal_12 (by decide) ?_
    exact pv_iret X hr hlk () (by show _ = f_M_terminal ys yu yk t k v; simp only [f_M_terminal, if_pos h1n]) (by simp only [g_M_terminal_zm_4, g_M_terminal_zmk, g_M_terminal_zmc, g_M_terminal_zmd, g_M_terminal_zmi, g_M_terminal_zmo, if_pos h1n]) d_M_terminal_13
def f_M_next (ys : Int32) (yk : Nat → Int32) (yo : Nat → Int32) (t : Int32) : Int32 := if ys = 0 then (-1) else (if (f_M_isTerminal t) = 0 then (-2) else (if (yk t.toNatClampNeg) = 0 then (-3) else (if (nI (cfn (((yo t.toNatClampNeg) + 1).toNatClampNeg))) < 2097152 then (nI (cfn (((yo t.toNatClampNeg) + 1).toNatClampNeg))) else (-7))))
def g_M_next_zm_4  : Int32 := 0
def g_M_next_zmo (ys : Int32) (yk : Nat → Int32) (yo : Nat → Int32) (t : Int32) : Nat → Int32 := if ys = 0 then yo else (if (f_M_isTerminal t) = 0 then yo else (if (yk t.toNatClampNeg) = 0 then yo else (if (nI (cfn (((yo t.toNatClampNeg) + 1).toNatClampNeg))) < 2097152 then (upd yo t.toNatClampNeg (nI (cfn (((yo t.toNatClampNeg) + 1).toNatClampNeg)))) else yo)))
abbrev rm_M_next : Room := { frames := 2, cells := 0, slots := 0, locals := 45 }
theorem mf_M_next : MF y_M_next b_M_next 3 (some .int) 1 := ⟨m_787, m_6, by decide, by decide, by decide +kernel⟩
theorem d_M_next_0 : decode b_M_next 0 = .ok (.aload_n 0, 1) := by decide +kernel
theorem d_M_next_1 : decode b_M_next 1 = .ok (.iconst 0, 1) := by decide +kernel
theorem d_M_next_2 : decode b_M_next 2 = .ok (.putfield 66, 3) := by decide +kernel
theorem d_M_next_5 : decode b_M_next 5 = .ok (.aload_n 0, 1) := by decide +kernel
theorem d_M_next_6 : decode b_M_next 6 = .ok (.getfield 108, 3) := by decide +kernel
theorem d_M_next_9 : decode b_M_next 9 = .ok (.ifCond .ne 5, 3) := by decide +kernel
theorem d_M_next_12 : decode b_M_next 12 = .ok (.iconst (-1), 1) := by decide +kernel
theorem d_M_next_13 : decode b_M_next 13 = .ok (.ireturn, 1) := by decide +kernel
theorem d_M_next_14 : decode b_M_next 14 = .ok (.iload_n 1, 1) := by decide +kernel
theorem d_M_next_15 : decode b_M_next 15 = .ok (.invokestatic 187, 3) := by decide +kernel
theorem d_M_next_18 : decode b_M_next 18 = .ok (.ifCond .ne 6, 3) := by decide +kernel
theorem d_M_next_21 : decode b_M_next 21 = .ok (.bipush (-2), 2) := by decide +kernel
theorem d_M_next_23 : decode b_M_next 23 = .ok (.ireturn, 1) := by decide +kernel
theorem d_M_next_24 : decode b_M_next 24 = .ok (.aload_n 0, 1) := by decide +kernel
theorem d_M_next_25 : decode b_M_next 25 = .ok (.getfield 42, 3) := by decide +kernel
theorem d_M_next_28 : decode b_M_next 28 = .ok (.iload_n 1, 1) := by decide +kernel
theorem d_M_next_29 : decode b_M_next 29 = .ok (.baload, 1) := by decide +kernel
theorem d_M_next_30 : decode b_M_next 30 = .ok (.ifCond .ne 6, 3) := by decide +kernel
theorem d_M_next_33 : decode b_M_next 33 = .ok (.bipush (-3), 2) := by decide +kernel
theorem d_M_next_35 : decode b_M_next 35 = .ok (.ireturn, 1) := by decide +kernel
theorem d_M_next_36 : decode b_M_next 36 = .ok (.aload_n 0, 1) := by decide +kernel
theorem d_M_next_37 : decode b_M_next 37 = .ok (.getfield 54, 3) := by decide +kernel
theorem d_M_next_40 : decode b_M_next 40 = .ok (.iload_n 1, 1) := by decide +kernel
theorem d_M_next_41 : decode b_M_next 41 = .ok (.iaload, 1) := by decide +kernel
theorem d_M_next_42 : decode b_M_next 42 = .ok (.iconst 1, 1) := by decide +kernel
theorem d_M_next_43 : decode b_M_next 43 = .ok (.iadd, 1) := by decide +kernel
theorem d_M_next_44 : decode b_M_next 44 = .ok (.invokestatic 196, 3) := by decide +kernel
theorem d_M_next_47 : decode b_M_next 47 = .ok (.istore_n 2, 1) := by decide +kernel
theorem d_M_next_48 : decode b_M_next 48 = .ok (.iload_n 2, 1) := by decide +kernel
theorem d_M_next_49 : decode b_M_next 49 = .ok (.ldc 192, 2) := by decide +kernel
theorem d_M_next_51 : decode b_M_next 51 = .ok (.if_icmp .lt 6, 3) := by decide +kernel
theorem d_M_next_54 : decode b_M_next 54 = .ok (.bipush (-7), 2) := by decide +kernel
theorem d_M_next_56 : decode b_M_next 56 = .ok (.ireturn, 1) := by decide +kernel
theorem d_M_next_57 : decode b_M_next 57 = .ok (.aload_n 0, 1) := by decide +kernel
theorem d_M_next_58 : decode b_M_next 58 = .ok (.getfield 54, 3) := by decide +kernel
theorem d_M_next_61 : decode b_M_next 61 = .ok (.iload_n 1, 1) := by decide +kernel
theorem d_M_next_62 : decode b_M_next 62 = .ok (.iload_n 2, 1) := by decide +kernel
theorem d_M_next_63 : decode b_M_next 63 = .ok (.iastore, 1) := by decide +kernel
theorem d_M_next_64 : decode b_M_next 64 = .ok (.iload_n 2, 1) := by decide +kernel
theorem d_M_next_65 : decode b_M_next 65 = .ok (.ireturn, 1) := by decide +kernel
set_option maxRecDepth 100000 in
set_option maxHeartbeats 4000000 in
theorem c_M_next (l : Launch) (G : Gt) (zm zmp zm1 zm2 zmx zmh zmt zmu zme zma zmb zmk zmc zmd zmi zmo zmf zmg zmn : Nat) (th ys : Int32) (yl yr : Int64) (yv : Nat → Int64) (yt yu ye : Nat → Int32) (ya yb : Nat → Int64) (yk : Nat → Int32) (yc yd yi : Nat → Int64) (yo : Nat → Int32) (yf yg yn : Nat → Int64) (yp yq : Int64) (yw : Int32) (yx : Int64) (t : Int32) (hyo : ∀ j, ¬ yo j + 1 < 0 ∧ yo j + 1 ≤ 2097152) : CtI l G y_M_next b_M_next 3 (some .int) rm_M_next E0 [.ref zm, .int t] [ob zm 5 [.ref zmp, .ref zm1, .ref zm2, .ref zmx, .int th, .ref zmh, .ref zmt, .int ys, .long yl, .long yr, .ref zmu, .ref zme, .ref zma, .ref zmb, .ref zmk, .ref zmc, .ref zmd, .ref zmi, .ref zmo, .ref zmf, .ref zmg, .ref zmn, .long yp, .long yq, .int yw, .long yx], aI G zmp 32 tb_perm, aI G zm1 56 tb_c1, aI G zm2 48 tb_c2, aI G zmx 512 tb_box, aJ G zmh 6 yv, aZ G zmt 6 yt, aI G zmu 16 yu, aZ G zme 16 ye, aJ G zma 16 ya, aJ G zmb 16 yb, aZ G zmk 8 yk, aJ G zmc 8 yc, aJ G zmd 8 yd, aJ G zmi 8 yi, aI G zmo 8 yo, aJ G zmf 5 yf, aJ G zmg 8 yg, aJ G zmn 16 yn] (fun r (_ : Unit) => r = f_M_next ys yk yo t) (fun _ => [ob zm 5 [.ref zmp, .ref zm1, .ref zm2, .ref zmx, .int g_M_next_zm_4, .ref zmh, .ref zmt, .int ys, .long yl, .long yr, .ref zmu, .ref zme, .ref zma, .ref zmb, .ref zmk, .ref zmc, .ref zmd, .ref zmi, .ref zmo, .ref zmf, .ref zmg, .ref zmn, .long yp, .long yq, .int yw, .long yx], aI G zmp 32 tb_perm, aI G zm1 56 tb_c1, aI G zm2 48 tb_c2, aI G zmx 512 tb_box, aJ G zmh 6 yv, aZ G zmt 6 yt, aI G zmu 16 yu, aZ G zme 16 ye, aJ G zma 16 ya, aJ G zmb 16 yb, aZ G zmk 8 yk, aJ G zmc 8 yc, aJ G zmd 8 yd, aJ G zmi 8 yi, aI G zmo 8 (g_M_next_zmo ys yk yo t), aJ G zmf 5 yf, aJ G zmg 8 yg, aJ G zmn 16 yn]) 0 0 := by
  refine Ct.of (Qp := fun A => va_Qi _ (qB G A _) A) Stb_0 (by decide) (Nat.le_of_ble_eq_true rfl) ?_
  intro p e s m args below meth c A X hE hr hlk hini
  refine pv_eql (ll2 := [(0, .ref zm), (1, .int t)]) rfl ?_
  refine pv_aload_n X 0 d_M_next_0 rfl ?_
  refine pv_iconst X 0 d_M_next_1 (by decide) ?_
  refine pv_put X (ty := .int) (ws2 := [ob zm 5 [.ref zmp, .ref zm1, .ref zm2, .ref zmx, .int 0, .ref zmh, .ref zmt, .int ys, .long yl, .long yr, .ref zmu, .ref zme, .ref zma, .ref zmb, .ref zmk, .ref zmc, .ref zmd, .ref zmi, .ref zmo, .ref zmf, .ref zmg, .ref zmn, .long yp, .long yq, .int yw, .long yx], aI G zmp 32 tb_perm, aI G zm1 56 tb_c1, aI G zm2 48 tb_c2, aI G zmx 512 tb_box, aJ G zmh 6 yv, aZ G zmt 6 yt, aI G zmu 16 yu, aZ G zme 16 ye, aJ G zma 16 ya, aJ G zmb 16 yb, aZ G zmk 8 yk, aJ G zmc 8 yc, aJ G zmd 8 yd, aJ G zmi 8 yi, aI G zmo 8 yo, aJ G zmf 5 yf, aJ G zmg 8 yg, aJ G zmn 16 yn]) 0 4 ty_M ty_M_ok n_M u_M_in m_578 rfl rfl (by decide) ⟨rfl, rfl, rfl⟩ rfl (by decide +kernel) rfl rfl (Nat.le_of_ble_eq_true rfl) rfl d_M_next_2 ?_
  refine pv_aload_n X 0 d_M_next_5 rfl ?_
  refine pv_get X 0 7 u_M_in m_581 rfl rfl (by decide) ⟨rfl, rfl, rfl⟩ rfl d_M_next_6 ?_
  refine pv_if_ne X 14 d_M_next_9 rfl (fun h1 => ?_) (fun h1n => ?_)
  · skip
    refine pv_iload_n X 1 d_M_next_14 rfl ?_
    refine pv_calli0 X (rn_S X (c_M_isTerminal l G t) trivial mf_M_isTerminal m_780 m_781 rfl (by decide) (by decide) rfl (Nat.le_of_ble_eq_true rfl) d_M_next_15) ?_
    refine pv_if_ne X 24 d_M_next_18 rfl (fun h3 => ?_) (fun h3n => ?_)
    · skip
      refine pv_aload_n X 0 d_M_next_24 rfl ?_
      refine pv_get X 0 14 u_M_in m_588 rfl rfl (by decide) ⟨rfl, rfl, rfl⟩ rfl d_M_next_25 ?_
      refine pv_iload_n X 1 d_M_next_28 rfl ?_
      refine pv_zald X 11 rfl (Mterm_in h3) d_M_next_29 ?_
      refine pv_if_ne X 36 d_M_next_30 rfl (fun h4 => ?_) (fun h4n => ?_)
      · skip
        refine pv_aload_n X 0 d_M_next_36 rfl ?_
        refine pv_get X 0 18 u_M_in m_592 rfl rfl (by decide) ⟨rfl, rfl, rfl⟩ rfl d_M_next_37 ?_
        refine pv_iload_n X 1 d_M_next_40 rfl ?_
        refine pv_iald X 15 rfl (Mterm_in h3) d_M_next_41 ?_
        refine pv_iconst X 1 d_M_next_42 (by decide) ?_
        refine pv_iadd X d_M_next_43 ?_
        refine pv_calli0 X (rn_S X (c_M_counterFrom2 l G ((yo t.toNatClampNeg) + 1) (hyo _).1 (hyo _).2) trivial mf_M_counterFrom m_788 m_789 rfl (by decide) (by decide) rfl (Nat.le_of_ble_eq_true rfl) d_M_next_44) ?_
        refine pv_istore_n (ll2 := [(2, .int (nI (cfn (((yo t.toNatClampNeg) + 1).toNatClampNeg)))), (0, .ref zm), (1, .int t)]) X d_M_next_47 (by decide) rfl ?_
        refine pv_iload_n X 0 d_M_next_48 rfl ?_
        refine pv_ldc X m_791 d_M_next_49 ?_
        refine pv_icmp_lt X 57 d_M_next_51 rfl (fun h6 => ?_) (fun h6n => ?_)
        · skip
          refine pv_aload_n X 1 d_M_next_57 rfl ?_
          refine pv_get X 0 18 u_M_in m_592 rfl rfl (by decide) ⟨rfl, rfl, rfl⟩ rfl d_M_next_58 ?_
          refine pv_iload_n X 2 d_M_next_61 rfl ?_
          refine pv_iload_n X 0 d_M_next_62 rfl ?_
          refine pv_iast (ws2 := [ob zm 5 [.ref zmp, .ref zm1, .ref zm2, .ref zmx, .int 0, .ref zmh, .ref zmt, .int ys, .long yl, .long yr, .ref zmu, .ref zme, .ref zma, .ref zmb, .ref zmk, .ref zmc, .ref zmd, .ref zmi, .ref zmo, .ref zmf, .ref zmg, .ref zmn, .long yp, .long yq, .int yw, .long yx], aI G zmp 32 tb_perm, aI G zm1 56 tb_c1, aI G zm2 48 tb_c2, aI G zmx 512 tb_box, aJ G zmh 6 yv, aZ G zmt 6 yt, aI G zmu 16 yu, aZ G zme 16 ye, aJ G zma 16 ya, aJ G zmb 16 yb, aZ G zmk 8 yk, aJ G zmc 8 yc, aJ G zmd 8 yd, aJ G zmi 8 yi, aI G zmo 8 (upd yo t.toNatClampNeg (nI (cfn (((yo t.toNatClampNeg) + 1).toNatClampNeg)))), aJ G zmf 5 yf, aJ G zmg 8 yg, aJ G zmn 16 yn]) X 15 rfl (Mterm_in h3) rfl d_M_next_63 ?_
          refine pv_iload_n X 0 d_M_next_64 rfl ?_
          exact pv_iret X hr hlk () (by show _ = f_M_next ys yk yo t; simp only [f_M_next, if_neg h1, if_neg h3, if_neg h4, if_pos h6]) (by simp only [g_M_next_zm_4, g_M_next_zmo, if_neg h1, if_neg h3, if_neg h4, if_pos h6]) d_M_next_65
        · skip
          refine pv_bipush X (-7) d_M_next_54 (by decide) ?_
          exact pv_iret X hr hlk () (by show _ = f_M_next ys yk yo t; simp only [f_M_next, if_neg h1, if_neg h3, if_neg h4, if_neg h6n]) (by simp only [g_M_next_zm_4, g_M_next_zmo, if_neg h1, if_neg h3, if_neg h4, if_neg h6n]) d_M_next_56
      · skip
        refine pv_bipush X (-3) d_M_next_33 (by decide) ?_
        exact pv_iret X hr hlk () (by show _ = f_M_next ys yk yo t; simp only [f_M_next, if_neg h1, if_neg h3, if_pos h4n]) (by simp only [g_M_next_zm_4, g_M_next_zmo, if_neg h1, if_neg h3, if_pos h4n]) d_M_next_35
    · skip
      refine pv_bipush X (-2) d_M_next_21 (by decide) ?_
      exact pv_iret X hr hlk () (by show _ = f_M_next ys yk yo t; simp only [f_M_next, if_neg h1, if_pos h3n]) (by simp only [g_M_next_zm_4, g_M_next_zmo, if_neg h1, if_pos h3n]) d_M_next_23
  · skip
    refine pv_iconst X (-1) d_M_next_12 (by decide) ?_
    exact pv_iret X hr hlk () (by show _ = f_M_next ys yk yo t; simp only [f_M_next, if_pos h1n]) (by simp only [g_M_next_zm_4, g_M_next_zmo, if_pos h1n]) d_M_next_13
theorem skip_in {n : Int32} (h : ¬ f_M_in n.toInt64 1 2097151 = 0) : ¬ n < 0 ∧ n ≤ 2097152 := by
  have h1 := M_in_rng h
  rw [i2l_toInt] at h1
  rw [i32_lt, i32_le]
  have e0 : (0 : Int32).toInt = 0 := rfl
  have e1 : (1 : Int64).toInt = 1 := rfl
  have e2 : (2097151 : Int64).toInt = 2097151 := rfl
  have e3 : (2097152 : Int32).toInt = 2097152 := rfl
  omega
def f_M_skip (ys : Int32) (yk : Nat → Int32) (yo : Nat → Int32) (t : Int32) (n : Int32) : Int32 := if ys = 0 then (-1) else (if (f_M_isTerminal t) = 0 then (-2) else (if (f_M_in n.toInt64 (1 : Int64) (2097151 : Int64)) = 0 then (-2) else (if (yk t.toNatClampNeg) = 0 then (-3) else (if 2097152 ≤ (nI (cfn (n.toNatClampNeg))) then (-7) else (if (yo t.toNatClampNeg) ≤ (nI (cfn (n.toNatClampNeg))) then (nI (cfn (n.toNatClampNeg))) else (-7))))))
def g_M_skip_zm_4  : Int32 := 0
def g_M_skip_zmo (ys : Int32) (yk : Nat → Int32) (yo : Nat → Int32) (t : Int32) (n : Int32) : Nat → Int32 := if ys = 0 then yo else (if (f_M_isTerminal t) = 0 then yo else (if (f_M_in n.toInt64 (1 : Int64) (2097151 : Int64)) = 0 then yo else (if (yk t.toNatClampNeg) = 0 then yo else (if 2097152 ≤ (nI (cfn (n.toNatClampNeg))) then yo else (if (yo t.toNatClampNeg) ≤ (nI (cfn (n.toNatClampNeg))) then (upd yo t.toNatClampNeg (nI (cfn (n.toNatClampNeg)))) else yo)))))
abbrev rm_M_skip : Room := { frames := 2, cells := 0, slots := 0, locals := 45 }
theorem mf_M_skip : MF y_M_skip b_M_skip 4 (some .int) 2 := ⟨m_798, m_6, by decide, by decide, by decide +kernel⟩
theorem d_M_skip_0 : decode b_M_skip 0 = .ok (.aload_n 0, 1) := by decide +kernel
theorem d_M_skip_1 : decode b_M_skip 1 = .ok (.iconst 0, 1) := by decide +kernel
theorem d_M_skip_2 : decode b_M_skip 2 = .ok (.putfield 66, 3) := by decide +kernel
theorem d_M_skip_5 : decode b_M_skip 5 = .ok (.aload_n 0, 1) := by decide +kernel
theorem d_M_skip_6 : decode b_M_skip 6 = .ok (.getfield 108, 3) := by decide +kernel
theorem d_M_skip_9 : decode b_M_skip 9 = .ok (.ifCond .ne 5, 3) := by decide +kernel
theorem d_M_skip_12 : decode b_M_skip 12 = .ok (.iconst (-1), 1) := by decide +kernel
theorem d_M_skip_13 : decode b_M_skip 13 = .ok (.ireturn, 1) := by decide +kernel
theorem d_M_skip_14 : decode b_M_skip 14 = .ok (.iload_n 1, 1) := by decide +kernel
theorem d_M_skip_15 : decode b_M_skip 15 = .ok (.invokestatic 187, 3) := by decide +kernel
theorem d_M_skip_18 : decode b_M_skip 18 = .ok (.ifCond .eq 15, 3) := by decide +kernel
theorem d_M_skip_21 : decode b_M_skip 21 = .ok (.iload_n 2, 1) := by decide +kernel
theorem d_M_skip_22 : decode b_M_skip 22 = .ok (.i2l, 1) := by decide +kernel
theorem d_M_skip_23 : decode b_M_skip 23 = .ok (.lconst 1, 1) := by decide +kernel
theorem d_M_skip_24 : decode b_M_skip 24 = .ok (.ldc2_w 199, 3) := by decide +kernel
theorem d_M_skip_27 : decode b_M_skip 27 = .ok (.invokestatic 104, 3) := by decide +kernel
theorem d_M_skip_30 : decode b_M_skip 30 = .ok (.ifCond .ne 6, 3) := by decide +kernel
theorem d_M_skip_33 : decode b_M_skip 33 = .ok (.bipush (-2), 2) := by decide +kernel
theorem d_M_skip_35 : decode b_M_skip 35 = .ok (.ireturn, 1) := by decide +kernel
theorem d_M_skip_36 : decode b_M_skip 36 = .ok (.aload_n 0, 1) := by decide +kernel
theorem d_M_skip_37 : decode b_M_skip 37 = .ok (.getfield 42, 3) := by decide +kernel
theorem d_M_skip_40 : decode b_M_skip 40 = .ok (.iload_n 1, 1) := by decide +kernel
theorem d_M_skip_41 : decode b_M_skip 41 = .ok (.baload, 1) := by decide +kernel
theorem d_M_skip_42 : decode b_M_skip 42 = .ok (.ifCond .ne 6, 3) := by decide +kernel
theorem d_M_skip_45 : decode b_M_skip 45 = .ok (.bipush (-3), 2) := by decide +kernel
theorem d_M_skip_47 : decode b_M_skip 47 = .ok (.ireturn, 1) := by decide +kernel
theorem d_M_skip_48 : decode b_M_skip 48 = .ok (.iload_n 2, 1) := by decide +kernel
theorem d_M_skip_49 : decode b_M_skip 49 = .ok (.invokestatic 196, 3) := by decide +kernel
theorem d_M_skip_52 : decode b_M_skip 52 = .ok (.istore_n 3, 1) := by decide +kernel
theorem d_M_skip_53 : decode b_M_skip 53 = .ok (.iload_n 3, 1) := by decide +kernel
theorem d_M_skip_54 : decode b_M_skip 54 = .ok (.ldc 192, 2) := by decide +kernel
theorem d_M_skip_56 : decode b_M_skip 56 = .ok (.if_icmp .ge 13, 3) := by decide +kernel
theorem d_M_skip_59 : decode b_M_skip 59 = .ok (.iload_n 3, 1) := by decide +kernel
theorem d_M_skip_60 : decode b_M_skip 60 = .ok (.aload_n 0, 1) := by decide +kernel
theorem d_M_skip_61 : decode b_M_skip 61 = .ok (.getfield 54, 3) := by decide +kernel
theorem d_M_skip_64 : decode b_M_skip 64 = .ok (.iload_n 1, 1) := by decide +kernel
theorem d_M_skip_65 : decode b_M_skip 65 = .ok (.iaload, 1) := by decide +kernel
theorem d_M_skip_66 : decode b_M_skip 66 = .ok (.if_icmp .ge 6, 3) := by decide +kernel
theorem d_M_skip_69 : decode b_M_skip 69 = .ok (.bipush (-7), 2) := by decide +kernel
theorem d_M_skip_71 : decode b_M_skip 71 = .ok (.ireturn, 1) := by decide +kernel
theorem d_M_skip_72 : decode b_M_skip 72 = .ok (.aload_n 0, 1) := by decide +kernel
theorem d_M_skip_73 : decode b_M_skip 73 = .ok (.getfield 54, 3) := by decide +kernel
theorem d_M_skip_76 : decode b_M_skip 76 = .ok (.iload_n 1, 1) := by decide +kernel
theorem d_M_skip_77 : decode b_M_skip 77 = .ok (.iload_n 3, 1) := by decide +kernel
theorem d_M_skip_78 : decode b_M_skip 78 = .ok (.iastore, 1) := by decide +kernel
theorem d_M_skip_79 : decode b_M_skip 79 = .ok (.iload_n 3, 1) := by decide +kernel
theorem d_M_skip_80 : decode b_M_skip 80 = .ok (.ireturn, 1) := by decide +kernel
set_option maxRecDepth 100000 in
set_option maxHeartbeats 4000000 in
theorem c_M_skip (l : Launch) (G : Gt) (zm zmp zm1 zm2 zmx zmh zmt zmu zme zma zmb zmk zmc zmd zmi zmo zmf zmg zmn : Nat) (th ys : Int32) (yl yr : Int64) (yv : Nat → Int64) (yt yu ye : Nat → Int32) (ya yb : Nat → Int64) (yk : Nat → Int32) (yc yd yi : Nat → Int64) (yo : Nat → Int32) (yf yg yn : Nat → Int64) (yp yq : Int64) (yw : Int32) (yx : Int64) (t n : Int32) : CtI l G y_M_skip b_M_skip 4 (some .int) rm_M_skip E0 [.ref zm, .int t, .int n] [ob zm 5 [.ref zmp, .ref zm1, .ref zm2, .ref zmx, .int th, .ref zmh, .ref zmt, .int ys, .long yl, .long yr, .ref zmu, .ref zme, .ref zma, .ref zmb, .ref zmk, .ref zmc, .ref zmd, .ref zmi, .ref zmo, .ref zmf, .ref zmg, .ref zmn, .long yp, .long yq, .int yw, .long yx], aI G zmp 32 tb_perm, aI G zm1 56 tb_c1, aI G zm2 48 tb_c2, aI G zmx 512 tb_box, aJ G zmh 6 yv, aZ G zmt 6 yt, aI G zmu 16 yu, aZ G zme 16 ye, aJ G zma 16 ya, aJ G zmb 16 yb, aZ G zmk 8 yk, aJ G zmc 8 yc, aJ G zmd 8 yd, aJ G zmi 8 yi, aI G zmo 8 yo, aJ G zmf 5 yf, aJ G zmg 8 yg, aJ G zmn 16 yn] (fun r (_ : Unit) => r = f_M_skip ys yk yo t n) (fun _ => [ob zm 5 [.ref zmp, .ref zm1, .ref zm2, .ref zmx, .int g_M_skip_zm_4, .ref zmh, .ref zmt, .int ys, .long yl, .long yr, .ref zmu, .ref zme, .ref zma, .ref zmb, .ref zmk, .ref zmc, .ref zmd, .ref zmi, .ref zmo, .ref zmf, .ref zmg, .ref zmn, .long yp, .long yq, .int yw, .long yx], aI G zmp 32 tb_perm, aI G zm1 56 tb_c1, aI G zm2 48 tb_c2, aI G zmx 512 tb_box, aJ G zmh 6 yv, aZ G zmt 6 yt, aI G zmu 16 yu, aZ G zme 16 ye, aJ G zma 16 ya, aJ G zmb 16 yb, aZ G zmk 8 yk, aJ G zmc 8 yc, aJ G zmd 8 yd, aJ G zmi 8 yi, aI G zmo 8 (g_M_skip_zmo ys yk yo t n), aJ G zmf 5 yf, aJ G zmg 8 yg, aJ G zmn 16 yn]) 0 0 := by
  refine Ct.of (Qp := fun A => va_Qi _ (qB G A _) A) Stb_0 (by decide) (Nat.le_of_ble_eq_true rfl) ?_
  intro p e s m args below meth c A X hE hr hlk hini
  refine pv_eql (ll2 := [(0, .ref zm), (1, .int t), (2, .int n)]) rfl ?_
  refine pv_aload_n X 0 d_M_skip_0 rfl ?_
  refine pv_iconst X 0 d_M_skip_1 (by decide) ?_
  refine pv_put X (ty := .int) (ws2 := [ob zm 5 [.ref zmp, .ref zm1, .ref zm2, .ref zmx, .int 0, .ref zmh, .ref zmt, .int ys, .long yl, .long yr, .ref zmu, .ref zme, .ref zma, .ref zmb, .ref zmk, .ref zmc, .ref zmd, .ref zmi, .ref zmo, .ref zmf, .ref zmg, .ref zmn, .long yp, .long yq, .int yw, .long yx], aI G zmp 32 tb_perm, aI G zm1 56 tb_c1, aI G zm2 48 tb_c2, aI G zmx 512 tb_box, aJ G zmh 6 yv, aZ G zmt 6 yt, aI G zmu 16 yu, aZ G zme 16 ye, aJ G zma 16 ya, aJ G zmb 16 yb, aZ G zmk 8 yk, aJ G zmc 8 yc, aJ G zmd 8 yd, aJ G zmi 8 yi, aI G zmo 8 yo, aJ G zmf 5 yf, aJ G zmg 8 yg, aJ G zmn 16 yn]) 0 4 ty_M ty_M_ok n_M u_M_in m_578 rfl rfl (by decide) ⟨rfl, rfl, rfl⟩ rfl (by decide +kernel) rfl rfl (Nat.le_of_ble_eq_true rfl) rfl d_M_skip_2 ?_
  refine pv_aload_n X 0 d_M_skip_5 rfl ?_
  refine pv_get X 0 7 u_M_in m_581 rfl rfl (by decide) ⟨rfl, rfl, rfl⟩ rfl d_M_skip_6 ?_
  refine pv_if_ne X 14 d_M_skip_9 rfl (fun h1 => ?_) (fun h1n => ?_)
  · skip
    refine pv_iload_n X 1 d_M_skip_14 rfl ?_
    refine pv_calli0 X (rn_S X (c_M_isTerminal l G t) trivial mf_M_isTerminal m_780 m_781 rfl (by decide) (by decide) rfl (Nat.le_of_ble_eq_true rfl) d_M_skip_15) ?_
    refine pv_if_eq X 33 d_M_skip_18 rfl (fun h3 => ?_) (fun h3n => ?_)
    · skip
      refine pv_bipush X (-2) d_M_skip_33 (by decide) ?_
      exact pv_iret X hr hlk () (by show _ = f_M_skip ys yk yo t n; simp only [f_M_skip, if_neg h1, if_pos h3]) (by simp only [g_M_skip_zm_4, g_M_skip_zmo, if_neg h1, if_pos h3]) d_M_skip_35
    · skip
      refine pv_iload_n X 2 d_M_skip_21 rfl ?_
      refine pv_i2l X d_M_skip_22 ?_
      refine pv_lconst X 1 d_M_skip_23 (by decide) ?_
      refine pv_ldc2_w X m_799 d_M_skip_24 ?_
      refine pv_calli0 X (rn_S X (c_M_in l G n.toInt64 (1 : Int64) (2097151 : Int64)) trivial mf_M_in m_662 m_663 rfl (by decide) (by decide) rfl (Nat.le_of_ble_eq_true rfl) d_M_skip_27) ?_
      refine pv_if_ne X 36 d_M_skip_30 rfl (fun h5 => ?_) (fun h5n => ?_)
      · skip
        refine pv_aload_n X 0 d_M_skip_36 rfl ?_
        refine pv_get X 0 14 u_M_in m_588 rfl rfl (by decide) ⟨rfl, rfl, rfl⟩ rfl d_M_skip_37 ?_
        refine pv_iload_n X 1 d_M_skip_40 rfl ?_
        refine pv_zald X 11 rfl (Mterm_in h3n) d_M_skip_41 ?_
        refine pv_if_ne X 48 d_M_skip_42 rfl (fun h6 => ?_) (fun h6n => ?_)
        · skip
          refine pv_iload_n X 2 d_M_skip_48 rfl ?_
          refine pv_calli0 X (rn_S X (c_M_counterFrom2 l G n (skip_in h5).1 (skip_in h5).2) trivial mf_M_counterFrom m_788 m_789 rfl (by decide) (by decide) rfl (Nat.le_of_ble_eq_true rfl) d_M_skip_49) ?_
          refine pv_istore_n (ll2 := [(3, .int (nI (cfn (n.toNatClampNeg)))), (0, .ref zm), (1, .int t), (2, .int n)]) X d_M_skip_52 (by decide) rfl ?_
          refine pv_iload_n X 0 d_M_skip_53 rfl ?_
          refine pv_ldc X m_791 d_M_skip_54 ?_
          refine pv_icmp_ge X 69 d_M_skip_56 rfl (fun h8 => ?_) (fun h8n => ?_)
          · skip
            refine pv_bipush X (-7) d_M_skip_69 (by decide) ?_
            exact pv_iret X hr hlk () (by show _ = f_M_skip ys yk yo t n; simp only [f_M_skip, if_neg h1, if_neg h3n, if_neg h5, if_neg h6, if_pos h8]) (by simp only [g_M_skip_zm_4, g_M_skip_zmo, if_neg h1, if_neg h3n, if_neg h5, if_neg h6, if_pos h8]) d_M_skip_71
          · skip
            refine pv_iload_n X 0 d_M_skip_59 rfl ?_
            refine pv_aload_n X 1 d_M_skip_60 rfl ?_
            refine pv_get X 0 18 u_M_in m_592 rfl rfl (by decide) ⟨rfl, rfl, rfl⟩ rfl d_M_skip_61 ?_
            refine pv_iload_n X 2 d_M_skip_64 rfl ?_
            refine pv_iald X 15 rfl (Mterm_in h3n) d_M_skip_65 ?_
            refine pv_icmp_ge X 72 d_M_skip_66 rfl (fun h9 => ?_) (fun h9n => ?_)
            · skip
              refine pv_aload_n X 1 d_M_skip_72 rfl ?_
              refine pv_get X 0 18 u_M_in m_592 rfl rfl (by decide) ⟨rfl, rfl, rfl⟩ rfl d_M_skip_73 ?_
              refine pv_iload_n X 2 d_M_skip_76 rfl ?_
              refine pv_iload_n X 0 d_M_skip_77 rfl ?_
              refine pv_iast (ws2 := [ob zm 5 [.ref zmp, .ref zm1, .ref zm2, .ref zmx, .int 0, .ref zmh, .ref zmt, .int ys, .long yl, .long yr, .ref zmu, .ref zme, .ref zma, .ref zmb, .ref zmk, .ref zmc, .ref zmd, .ref zmi, .ref zmo, .ref zmf, .ref zmg, .ref zmn, .long yp, .long yq, .int yw, .long yx], aI G zmp 32 tb_perm, aI G zm1 56 tb_c1, aI G zm2 48 tb_c2, aI G zmx 512 tb_box, aJ G zmh 6 yv, aZ G zmt 6 yt, aI G zmu 16 yu, aZ G zme 16 ye, aJ G zma 16 ya, aJ G zmb 16 yb, aZ G zmk 8 yk, aJ G zmc 8 yc, aJ G zmd 8 yd, aJ G zmi 8 yi, aI G zmo 8 (upd yo t.toNatClampNeg (nI (cfn (n.toNatClampNeg)))), aJ G zmf 5 yf, aJ G zmg 8 yg, aJ G zmn 16 yn]) X 15 rfl (Mterm_in h3n) rfl d_M_skip_78 ?_
              refine pv_iload_n X 0 d_M_skip_79 rfl ?_
              exact pv_iret X hr hlk () (by show _ = f_M_skip ys yk yo t n; simp only [f_M_skip, if_neg h1, if_neg h3n, if_neg h5, if_neg h6, if_neg h8n, if_pos h9]) (by simp only [g_M_skip_zm_4, g_M_skip_zmo, if_neg h1, if_neg h3n, if_neg h5, if_neg h6, if_neg h8n, if_pos h9]) d_M_skip_80
            · skip
              refine pv_bipush X (-7) d_M_skip_69 (by decide) ?_
              exact pv_iret X hr hlk () (by show _ = f_M_skip ys yk yo t n; simp only [f_M_skip, if_neg h1, if_neg h3n, if_neg h5, if_neg h6, if_neg h8n, if_neg h9n]) (by simp only [g_M_skip_zm_4, g_M_skip_zmo, if_neg h1, if_neg h3n, if_neg h5, if_neg h6, if_neg h8n, if_neg h9n]) d_M_skip_71
        · skip
          refine pv_bipush X (-3) d_M_skip_45 (by decide) ?_
          exact pv_iret X hr hlk () (by show _ = f_M_skip ys yk yo t n; simp only [f_M_skip, if_neg h1, if_neg h3n, if_neg h5, if_pos h6n]) (by simp only [g_M_skip_zm_4, g_M_skip_zmo, if_neg h1, if_neg h3n, if_neg h5, if_pos h6n]) d_M_skip_47
      · skip
        refine pv_bipush X (-2) d_M_skip_33 (by decide) ?_
        exact pv_iret X hr hlk () (by show _ = f_M_skip ys yk yo t n; simp only [f_M_skip, if_neg h1, if_neg h3n, if_pos h5n]) (by simp only [g_M_skip_zm_4, g_M_skip_zmo, if_neg h1, if_neg h3n, if_pos h5n]) d_M_skip_35
  · skip
    refine pv_iconst X (-1) d_M_skip_12 (by decide) ?_
    exact pv_iret X hr hlk () (by show _ = f_M_skip ys yk yo t n; simp only [f_M_skip, if_pos h1n]) (by simp only [g_M_skip_zm_4, g_M_skip_zmo, if_pos h1n]) d_M_skip_13
def ck (co : Int32) (g a b : Int64) (n : Nat → Int64) : Nat → Int64 × Int64 × Int64 × (Nat → Int64)
  | 0 => (g, a, b, n)
  | i + 1 => if ((co >>> (bI i &&& 31)) &&& 1) = 1 then
      ((ck co g a b n i).1 ||| dkB i,
       menc ((ck co g a b n i).2.1 ^^^ dkV) (((ck co g a b n i).1 ||| dkB i) ^^^ ((ck co g a b n i).2.2.1 ^^^ dkV)) ^^^ ((ck co g a b n i).2.2.1 ^^^ dkV),
       menc (ck co g a b n i).2.1 (((ck co g a b n i).1 ||| dkB i) ^^^ (ck co g a b n i).2.2.1) ^^^ (ck co g a b n i).2.2.1,
       rnd ((ck co g a b n i).2.1 ^^^ dkV) (rnd (ck co g a b n i).2.1 (ck co g a b n i).2.2.2 16) 16)
    else ck co g a b n i
def g_M_current_zm_22 (yc : Nat → Int64) (yd : Nat → Int64) (yi : Nat → Int64) (yo : Nat → Int32) (yn : Nat → Int64) (t : Int32) : Int64 := (ck (yo t.toNatClampNeg) (mkG (yi t.toNatClampNeg)) (f_M_sealBlock (yc t.toNatClampNeg) (yd t.toNatClampNeg) (mkF (yi t.toNatClampNeg))) (f_M_sealBlock ((yc t.toNatClampNeg) ^^^ (-4557430892032688128 : Int64)) ((yd t.toNatClampNeg) ^^^ (-4557430892032688128 : Int64)) (mkF (yi t.toNatClampNeg))) (g_M_sealBlock_zmn (g_M_sealBlock_zmn yn (yc t.toNatClampNeg) (yd t.toNatClampNeg)) ((yc t.toNatClampNeg) ^^^ (-4557430892032688128 : Int64)) ((yd t.toNatClampNeg) ^^^ (-4557430892032688128 : Int64))) 21).2.1
def g_M_current_zm_23 (yc : Nat → Int64) (yd : Nat → Int64) (yi : Nat → Int64) (yo : Nat → Int32) (yn : Nat → Int64) (t : Int32) : Int64 := (ck (yo t.toNatClampNeg) (mkG (yi t.toNatClampNeg)) (f_M_sealBlock (yc t.toNatClampNeg) (yd t.toNatClampNeg) (mkF (yi t.toNatClampNeg))) (f_M_sealBlock ((yc t.toNatClampNeg) ^^^ (-4557430892032688128 : Int64)) ((yd t.toNatClampNeg) ^^^ (-4557430892032688128 : Int64)) (mkF (yi t.toNatClampNeg))) (g_M_sealBlock_zmn (g_M_sealBlock_zmn yn (yc t.toNatClampNeg) (yd t.toNatClampNeg)) ((yc t.toNatClampNeg) ^^^ (-4557430892032688128 : Int64)) ((yd t.toNatClampNeg) ^^^ (-4557430892032688128 : Int64))) 21).2.2.1
def g_M_current_zmn (yc : Nat → Int64) (yd : Nat → Int64) (yi : Nat → Int64) (yo : Nat → Int32) (yn : Nat → Int64) (t : Int32) : Nat → Int64 := (ck (yo t.toNatClampNeg) (mkG (yi t.toNatClampNeg)) (f_M_sealBlock (yc t.toNatClampNeg) (yd t.toNatClampNeg) (mkF (yi t.toNatClampNeg))) (f_M_sealBlock ((yc t.toNatClampNeg) ^^^ (-4557430892032688128 : Int64)) ((yd t.toNatClampNeg) ^^^ (-4557430892032688128 : Int64)) (mkF (yi t.toNatClampNeg))) (g_M_sealBlock_zmn (g_M_sealBlock_zmn yn (yc t.toNatClampNeg) (yd t.toNatClampNeg)) ((yc t.toNatClampNeg) ^^^ (-4557430892032688128 : Int64)) ((yd t.toNatClampNeg) ^^^ (-4557430892032688128 : Int64))) 21).2.2.2
abbrev rm_M_current : Room := { frames := 4, cells := 0, slots := 0, locals := 116 }
theorem mf_M_current : MF y_M_current b_M_current 11 none 1 := ⟨m_808, m_6, by decide, by decide, by decide +kernel⟩
theorem d_M_current_0 : decode b_M_current 0 = .ok (.aload_n 0, 1) := by decide +kernel
theorem d_M_current_1 : decode b_M_current 1 = .ok (.getfield 51, 3) := by decide +kernel
theorem d_M_current_4 : decode b_M_current 4 = .ok (.iload_n 1, 1) := by decide +kernel
theorem d_M_current_5 : decode b_M_current 5 = .ok (.laload, 1) := by decide +kernel
theorem d_M_current_6 : decode b_M_current 6 = .ok (.bipush 21, 2) := by decide +kernel
theorem d_M_current_8 : decode b_M_current 8 = .ok (.lshl, 1) := by decide +kernel
theorem d_M_current_9 : decode b_M_current 9 = .ok (.lstore_n 2, 1) := by decide +kernel
theorem d_M_current_10 : decode b_M_current 10 = .ok (.ldc2_w 201, 3) := by decide +kernel
theorem d_M_current_13 : decode b_M_current 13 = .ok (.lload_n 2, 1) := by decide +kernel
theorem d_M_current_14 : decode b_M_current 14 = .ok (.bipush 16, 2) := by decide +kernel
theorem d_M_current_16 : decode b_M_current 16 = .ok (.lushr, 1) := by decide +kernel
theorem d_M_current_17 : decode b_M_current 17 = .ok (.lor, 1) := by decide +kernel
theorem d_M_current_18 : decode b_M_current 18 = .ok (.lstore 4, 2) := by decide +kernel
theorem d_M_current_20 : decode b_M_current 20 = .ok (.aload_n 0, 1) := by decide +kernel
theorem d_M_current_21 : decode b_M_current 21 = .ok (.aload_n 0, 1) := by decide +kernel
theorem d_M_current_22 : decode b_M_current 22 = .ok (.aload_n 0, 1) := by decide +kernel
theorem d_M_current_23 : decode b_M_current 23 = .ok (.getfield 45, 3) := by decide +kernel
theorem d_M_current_26 : decode b_M_current 26 = .ok (.iload_n 1, 1) := by decide +kernel
theorem d_M_current_27 : decode b_M_current 27 = .ok (.laload, 1) := by decide +kernel
theorem d_M_current_28 : decode b_M_current 28 = .ok (.aload_n 0, 1) := by decide +kernel
theorem d_M_current_29 : decode b_M_current 29 = .ok (.getfield 48, 3) := by decide +kernel
theorem d_M_current_32 : decode b_M_current 32 = .ok (.iload_n 1, 1) := by decide +kernel
theorem d_M_current_33 : decode b_M_current 33 = .ok (.laload, 1) := by decide +kernel
theorem d_M_current_34 : decode b_M_current 34 = .ok (.lload 4, 2) := by decide +kernel
theorem d_M_current_36 : decode b_M_current 36 = .ok (.invokevirtual 98, 3) := by decide +kernel
theorem d_M_current_39 : decode b_M_current 39 = .ok (.putfield 203, 3) := by decide +kernel
theorem d_M_current_42 : decode b_M_current 42 = .ok (.aload_n 0, 1) := by decide +kernel
theorem d_M_current_43 : decode b_M_current 43 = .ok (.aload_n 0, 1) := by decide +kernel
theorem d_M_current_44 : decode b_M_current 44 = .ok (.aload_n 0, 1) := by decide +kernel
theorem d_M_current_45 : decode b_M_current 45 = .ok (.getfield 45, 3) := by decide +kernel
theorem d_M_current_48 : decode b_M_current 48 = .ok (.iload_n 1, 1) := by decide +kernel
theorem d_M_current_49 : decode b_M_current 49 = .ok (.laload, 1) := by decide +kernel
theorem d_M_current_50 : decode b_M_current 50 = .ok (.ldc2_w 206, 3) := by decide +kernel
theorem d_M_current_53 : decode b_M_current 53 = .ok (.lxor, 1) := by decide +kernel
theorem d_M_current_54 : decode b_M_current 54 = .ok (.aload_n 0, 1) := by decide +kernel
theorem d_M_current_55 : decode b_M_current 55 = .ok (.getfield 48, 3) := by decide +kernel
theorem d_M_current_58 : decode b_M_current 58 = .ok (.iload_n 1, 1) := by decide +kernel
theorem d_M_current_59 : decode b_M_current 59 = .ok (.laload, 1) := by decide +kernel
theorem d_M_current_60 : decode b_M_current 60 = .ok (.ldc2_w 206, 3) := by decide +kernel
theorem d_M_current_63 : decode b_M_current 63 = .ok (.lxor, 1) := by decide +kernel
theorem d_M_current_64 : decode b_M_current 64 = .ok (.lload 4, 2) := by decide +kernel
theorem d_M_current_66 : decode b_M_current 66 = .ok (.invokevirtual 98, 3) := by decide +kernel
theorem d_M_current_69 : decode b_M_current 69 = .ok (.putfield 208, 3) := by decide +kernel
theorem d_M_current_72 : decode b_M_current 72 = .ok (.bipush 20, 2) := by decide +kernel
theorem d_M_current_74 : decode b_M_current 74 = .ok (.istore 6, 2) := by decide +kernel
theorem d_M_current_76 : decode b_M_current 76 = .ok (.iload 6, 2) := by decide +kernel
theorem d_M_current_78 : decode b_M_current 78 = .ok (.ifCond .lt 93, 3) := by decide +kernel
theorem d_M_current_81 : decode b_M_current 81 = .ok (.aload_n 0, 1) := by decide +kernel
theorem d_M_current_82 : decode b_M_current 82 = .ok (.getfield 54, 3) := by decide +kernel
theorem d_M_current_85 : decode b_M_current 85 = .ok (.iload_n 1, 1) := by decide +kernel
theorem d_M_current_86 : decode b_M_current 86 = .ok (.iaload, 1) := by decide +kernel
theorem d_M_current_87 : decode b_M_current 87 = .ok (.iload 6, 2) := by decide +kernel
theorem d_M_current_89 : decode b_M_current 89 = .ok (.ishr, 1) := by decide +kernel
theorem d_M_current_90 : decode b_M_current 90 = .ok (.iconst 1, 1) := by decide +kernel
theorem d_M_current_91 : decode b_M_current 91 = .ok (.iand, 1) := by decide +kernel
theorem d_M_current_92 : decode b_M_current 92 = .ok (.iconst 1, 1) := by decide +kernel
theorem d_M_current_93 : decode b_M_current 93 = .ok (.if_icmp .ne 72, 3) := by decide +kernel
theorem d_M_current_96 : decode b_M_current 96 = .ok (.lload_n 2, 1) := by decide +kernel
theorem d_M_current_97 : decode b_M_current 97 = .ok (.lconst 1, 1) := by decide +kernel
theorem d_M_current_98 : decode b_M_current 98 = .ok (.iload 6, 2) := by decide +kernel
theorem d_M_current_100 : decode b_M_current 100 = .ok (.lshl, 1) := by decide +kernel
theorem d_M_current_101 : decode b_M_current 101 = .ok (.lor, 1) := by decide +kernel
theorem d_M_current_102 : decode b_M_current 102 = .ok (.lstore_n 2, 1) := by decide +kernel
theorem d_M_current_103 : decode b_M_current 103 = .ok (.aload_n 0, 1) := by decide +kernel
theorem d_M_current_104 : decode b_M_current 104 = .ok (.aload_n 0, 1) := by decide +kernel
theorem d_M_current_105 : decode b_M_current 105 = .ok (.getfield 203, 3) := by decide +kernel
theorem d_M_current_108 : decode b_M_current 108 = .ok (.lload_n 2, 1) := by decide +kernel
theorem d_M_current_109 : decode b_M_current 109 = .ok (.aload_n 0, 1) := by decide +kernel
theorem d_M_current_110 : decode b_M_current 110 = .ok (.getfield 208, 3) := by decide +kernel
theorem d_M_current_113 : decode b_M_current 113 = .ok (.lxor, 1) := by decide +kernel
theorem d_M_current_114 : decode b_M_current 114 = .ok (.iconst 0, 1) := by decide +kernel
theorem d_M_current_115 : decode b_M_current 115 = .ok (.invokevirtual 90, 3) := by decide +kernel
theorem d_M_current_118 : decode b_M_current 118 = .ok (.aload_n 0, 1) := by decide +kernel
theorem d_M_current_119 : decode b_M_current 119 = .ok (.getfield 208, 3) := by decide +kernel
theorem d_M_current_122 : decode b_M_current 122 = .ok (.lxor, 1) := by decide +kernel
theorem d_M_current_123 : decode b_M_current 123 = .ok (.lstore 7, 2) := by decide +kernel
theorem d_M_current_125 : decode b_M_current 125 = .ok (.aload_n 0, 1) := by decide +kernel
theorem d_M_current_126 : decode b_M_current 126 = .ok (.getfield 208, 3) := by decide +kernel
theorem d_M_current_129 : decode b_M_current 129 = .ok (.ldc2_w 206, 3) := by decide +kernel
theorem d_M_current_132 : decode b_M_current 132 = .ok (.lxor, 1) := by decide +kernel
theorem d_M_current_133 : decode b_M_current 133 = .ok (.lstore 9, 2) := by decide +kernel
theorem d_M_current_135 : decode b_M_current 135 = .ok (.aload_n 0, 1) := by decide +kernel
theorem d_M_current_136 : decode b_M_current 136 = .ok (.aload_n 0, 1) := by decide +kernel
theorem d_M_current_137 : decode b_M_current 137 = .ok (.aload_n 0, 1) := by decide +kernel
theorem d_M_current_138 : decode b_M_current 138 = .ok (.getfield 203, 3) := by decide +kernel
theorem d_M_current_141 : decode b_M_current 141 = .ok (.ldc2_w 206, 3) := by decide +kernel
theorem d_M_current_144 : decode b_M_current 144 = .ok (.lxor, 1) := by decide +kernel
theorem d_M_current_145 : decode b_M_current 145 = .ok (.lload_n 2, 1) := by decide +kernel
theorem d_M_current_146 : decode b_M_current 146 = .ok (.lload 9, 2) := by decide +kernel
theorem d_M_current_148 : decode b_M_current 148 = .ok (.lxor, 1) := by decide +kernel
theorem d_M_current_149 : decode b_M_current 149 = .ok (.iconst 0, 1) := by decide +kernel
theorem d_M_current_150 : decode b_M_current 150 = .ok (.invokevirtual 90, 3) := by decide +kernel
theorem d_M_current_153 : decode b_M_current 153 = .ok (.lload 9, 2) := by decide +kernel
theorem d_M_current_155 : decode b_M_current 155 = .ok (.lxor, 1) := by decide +kernel
theorem d_M_current_156 : decode b_M_current 156 = .ok (.putfield 203, 3) := by decide +kernel
theorem d_M_current_159 : decode b_M_current 159 = .ok (.aload_n 0, 1) := by decide +kernel
theorem d_M_current_160 : decode b_M_current 160 = .ok (.lload 7, 2) := by decide +kernel
theorem d_M_current_162 : decode b_M_current 162 = .ok (.putfield 208, 3) := by decide +kernel
theorem d_M_current_165 : decode b_M_current 165 = .ok (.iinc 6 (-1), 3) := by decide +kernel
theorem d_M_current_168 : decode b_M_current 168 = .ok (.goto (-92), 3) := by decide +kernel
theorem d_M_current_171 : decode b_M_current 171 = .ok (.return_, 1) := by decide +kernel
set_option maxRecDepth 100000 in
set_option maxHeartbeats 4000000 in
theorem c_M_current (l : Launch) (G : Gt) (zm zmp zm1 zm2 zmx zmh zmt zmu zme zma zmb zmk zmc zmd zmi zmo zmf zmg zmn : Nat) (th ys : Int32) (yl yr : Int64) (yv : Nat → Int64) (yt yu ye : Nat → Int32) (ya yb : Nat → Int64) (yk : Nat → Int32) (yc yd yi : Nat → Int64) (yo : Nat → Int32) (yf yg yn : Nat → Int64) (yp yq : Int64) (yw : Int32) (yx : Int64) (t : Int32) (ht : vp_in t 8) : CtV l G y_M_current b_M_current 11 none rm_M_current E0 [.ref zm, .int t] [ob zm 5 [.ref zmp, .ref zm1, .ref zm2, .ref zmx, .int th, .ref zmh, .ref zmt, .int ys, .long yl, .long yr, .ref zmu, .ref zme, .ref zma, .ref zmb, .ref zmk, .ref zmc, .ref zmd, .ref zmi, .ref zmo, .ref zmf, .ref zmg, .ref zmn, .long yp, .long yq, .int yw, .long yx], aI G zmp 32 tb_perm, aI G zm1 56 tb_c1, aI G zm2 48 tb_c2, aI G zmx 512 tb_box, aJ G zmh 6 yv, aZ G zmt 6 yt, aI G zmu 16 yu, aZ G zme 16 ye, aJ G zma 16 ya, aJ G zmb 16 yb, aZ G zmk 8 yk, aJ G zmc 8 yc, aJ G zmd 8 yd, aJ G zmi 8 yi, aI G zmo 8 yo, aJ G zmf 5 yf, aJ G zmg 8 yg, aJ G zmn 16 yn] (fun (_ : Unit) => True) (fun _ => [ob zm 5 [.ref zmp, .ref zm1, .ref zm2, .ref zmx, .int th, .ref zmh, .ref zmt, .int ys, .long yl, .long yr, .ref zmu, .ref zme, .ref zma, .ref zmb, .ref zmk, .ref zmc, .ref zmd, .ref zmi, .ref zmo, .ref zmf, .ref zmg, .ref zmn, .long (g_M_current_zm_22 yc yd yi yo yn t), .long (g_M_current_zm_23 yc yd yi yo yn t), .int yw, .long yx], aI G zmp 32 tb_perm, aI G zm1 56 tb_c1, aI G zm2 48 tb_c2, aI G zmx 512 tb_box, aJ G zmh 6 yv, aZ G zmt 6 yt, aI G zmu 16 yu, aZ G zme 16 ye, aJ G zma 16 ya, aJ G zmb 16 yb, aZ G zmk 8 yk, aJ G zmc 8 yc, aJ G zmd 8 yd, aJ G zmi 8 yi, aI G zmo 8 yo, aJ G zmf 5 yf, aJ G zmg 8 yg, aJ G zmn 16 (g_M_current_zmn yc yd yi yo yn t)]) 0 0 := by
  refine Ct.of (Qp := fun A => va_Qv _ (qB G A _) A) Stb_0 (by decide) (Nat.le_of_ble_eq_true rfl) ?_
  intro p e s m args below meth c A X hE hr hlk hini
  refine pv_eql (ll2 := [(0, .ref zm), (1, .int t)]) rfl ?_
  refine pv_aload_n X 0 d_M_current_0 rfl ?_
  refine pv_get X 0 17 u_M_in m_591 rfl rfl (by decide) ⟨rfl, rfl, rfl⟩ rfl d_M_current_1 ?_
  refine pv_iload_n X 1 d_M_current_4 rfl ?_
  refine pv_lald X 14 rfl ht d_M_current_5 ?_
  refine pv_bipush X 21 d_M_current_6 (by decide) ?_
  refine pv_lshl X d_M_current_8 ?_
  refine pv_topl (mkG (yi t.toNatClampNeg)) rfl ?_
  refine pv_lstore_n (ll2 := [(2, .long (mkG (yi t.toNatClampNeg))), (0, .ref zm), (1, .int t)]) X d_M_current_9 (by decide) rfl ?_
  refine pv_ldc2_w X m_809 d_M_current_10 ?_
  refine pv_lload_n X 0 d_M_current_13 rfl ?_
  refine pv_bipush X 16 d_M_current_14 (by decide) ?_
  refine pv_lushr X d_M_current_16 ?_
  refine pv_lor X d_M_current_17 ?_
  refine pv_topl (mkF (yi t.toNatClampNeg)) rfl ?_
  refine pv_lstore (ll2 := [(4, .long (mkF (yi t.toNatClampNeg))), (2, .long (mkG (yi t.toNatClampNeg))), (0, .ref zm), (1, .int t)]) X d_M_current_18 (by decide) rfl ?_
  refine pv_aload_n X 2 d_M_current_20 rfl ?_
  refine pv_aload_n X 2 d_M_current_21 rfl ?_
  refine pv_aload_n X 2 d_M_current_22 rfl ?_
  refine pv_get X 0 15 u_M_in m_589 rfl rfl (by decide) ⟨rfl, rfl, rfl⟩ rfl d_M_current_23 ?_
  refine pv_iload_n X 3 d_M_current_26 rfl ?_
  refine pv_lald X 12 rfl ht d_M_current_27 ?_
  refine pv_aload_n X 2 d_M_current_28 rfl ?_
  refine pv_get X 0 16 u_M_in m_590 rfl rfl (by decide) ⟨rfl, rfl, rfl⟩ rfl d_M_current_29 ?_
  refine pv_iload_n X 3 d_M_current_32 rfl ?_
  refine pv_lald X 13 rfl ht d_M_current_33 ?_
  refine pv_lload X 0 d_M_current_34 rfl ?_
  refine pv_calllE X (Cut.all _) (rn_V X (c_M_sealBlock l G zm zmp zm1 zm2 zmx zmh zmt zmu zme zma zmb zmk zmc zmd zmi zmo zmf zmg zmn th ys yl yr yv yt yu ye ya yb yk yc yd yi yo yf yg yn yp yq yw yx (yc t.toNatClampNeg) (yd t.toNatClampNeg) (mkF (yi t.toNatClampNeg)) ) trivial mf_M_sealBlock m_682 m_684 ms_14 rfl 0 rfl rfl rfl (by decide) (by decide) rfl (Nat.le_of_ble_eq_true rfl) d_M_current_36) (fun x1 => ?_)
  refine pv_eqw (ws2 := [ob zm 5 [.ref zmp, .ref zm1, .ref zm2, .ref zmx, .int th, .ref zmh, .ref zmt, .int ys, .long yl, .long yr, .ref zmu, .ref zme, .ref zma, .ref zmb, .ref zmk, .ref zmc, .ref zmd, .ref zmi, .ref zmo, .ref zmf, .ref zmg, .ref zmn, .long yp, .long yq, .int yw, .long yx], aI G zmp 32 tb_perm, aI G zm1 56 tb_c1, aI G zm2 48 tb_c2, aI G zmx 512 tb_box, aJ G zmh 6 yv, aZ G zmt 6 yt, aI G zmu 16 yu, aZ G zme 16 ye, aJ G zma 16 ya, aJ G zmb 16 yb, aZ G zmk 8 yk, aJ G zmc 8 yc, aJ G zmd 8 yd, aJ G zmi 8 yi, aI G zmo 8 yo, aJ G zmf 5 yf, aJ G zmg 8 yg, aJ G zmn 16 (g_M_sealBlock_zmn yn (yc t.toNatClampNeg) (yd t.toNatClampNeg))]) rfl ?_
  refine pv_put X (ty := .long) (ws2 := [ob zm 5 [.ref zmp, .ref zm1, .ref zm2, .ref zmx, .int th, .ref zmh, .ref zmt, .int ys, .long yl, .long yr, .ref zmu, .ref zme, .ref zma, .ref zmb, .ref zmk, .ref zmc, .ref zmd, .ref zmi, .ref zmo, .ref zmf, .ref zmg, .ref zmn, .long (f_M_sealBlock (yc t.toNatClampNeg) (yd t.toNatClampNeg) (mkF (yi t.toNatClampNeg))), .long yq, .int yw, .long yx], aI G zmp 32 tb_perm, aI G zm1 56 tb_c1, aI G zm2 48 tb_c2, aI G zmx 512 tb_box, aJ G zmh 6 yv, aZ G zmt 6 yt, aI G zmu 16 yu, aZ G zme 16 ye, aJ G zma 16 ya, aJ G zmb 16 yb, aZ G zmk 8 yk, aJ G zmc 8 yc, aJ G zmd 8 yd, aJ G zmi 8 yi, aI G zmo 8 yo, aJ G zmf 5 yf, aJ G zmg 8 yg, aJ G zmn 16 (g_M_sealBlock_zmn yn (yc t.toNatClampNeg) (yd t.toNatClampNeg))]) 0 22 ty_M ty_M_ok n_M u_M_in m_596 rfl rfl (by decide) ⟨rfl, rfl, rfl⟩ rfl (by decide +kernel) rfl rfl (Nat.le_of_ble_eq_true rfl) rfl d_M_current_39 ?_
  refine pv_aload_n X 2 d_M_current_42 rfl ?_
  refine pv_aload_n X 2 d_M_current_43 rfl ?_
  refine pv_aload_n X 2 d_M_current_44 rfl ?_
  refine pv_get X 0 15 u_M_in m_589 rfl rfl (by decide) ⟨rfl, rfl, rfl⟩ rfl d_M_current_45 ?_
  refine pv_iload_n X 3 d_M_current_48 rfl ?_
  refine pv_lald X 12 rfl ht d_M_current_49 ?_
  refine pv_ldc2_w X m_810 d_M_current_50 ?_
  refine pv_lxor X d_M_current_53 ?_
  refine pv_aload_n X 2 d_M_current_54 rfl ?_
  refine pv_get X 0 16 u_M_in m_590 rfl rfl (by decide) ⟨rfl, rfl, rfl⟩ rfl d_M_current_55 ?_
  refine pv_iload_n X 3 d_M_current_58 rfl ?_
  refine pv_lald X 13 rfl ht d_M_current_59 ?_
  refine pv_ldc2_w X m_810 d_M_current_60 ?_
  refine pv_lxor X d_M_current_63 ?_
  refine pv_lload X 0 d_M_current_64 rfl ?_
  refine pv_calllE X (Cut.all _) (rn_V X (c_M_sealBlock l G zm zmp zm1 zm2 zmx zmh zmt zmu zme zma zmb zmk zmc zmd zmi zmo zmf zmg zmn th ys yl yr yv yt yu ye ya yb yk yc yd yi yo yf yg (g_M_sealBlock_zmn yn (yc t.toNatClampNeg) (yd t.toNatClampNeg)) (f_M_sealBlock (yc t.toNatClampNeg) (yd t.toNatClampNeg) (mkF (yi t.toNatClampNeg))) yq yw yx ((yc t.toNatClampNeg) ^^^ (-4557430892032688128 : Int64)) ((yd t.toNatClampNeg) ^^^ (-4557430892032688128 : Int64)) (mkF (yi t.toNatClampNeg)) ) trivial mf_M_sealBlock m_682 m_684 ms_14 rfl 0 rfl rfl rfl (by decide) (by decide) rfl (Nat.le_of_ble_eq_true rfl) d_M_current_66) (fun x2 => ?_)
  refine pv_eqw (ws2 := [ob zm 5 [.ref zmp, .ref zm1, .ref zm2, .ref zmx, .int th, .ref zmh, .ref zmt, .int ys, .long yl, .long yr, .ref zmu, .ref zme, .ref zma, .ref zmb, .ref zmk, .ref zmc, .ref zmd, .ref zmi, .ref zmo, .ref zmf, .ref zmg, .ref zmn, .long (f_M_sealBlock (yc t.toNatClampNeg) (yd t.toNatClampNeg) (mkF (yi t.toNatClampNeg))), .long yq, .int yw, .long yx], aI G zmp 32 tb_perm, aI G zm1 56 tb_c1, aI G zm2 48 tb_c2, aI G zmx 512 tb_box, aJ G zmh 6 yv, aZ G zmt 6 yt, aI G zmu 16 yu, aZ G zme 16 ye, aJ G zma 16 ya, aJ G zmb 16 yb, aZ G zmk 8 yk, aJ G zmc 8 yc, aJ G zmd 8 yd, aJ G zmi 8 yi, aI G zmo 8 yo, aJ G zmf 5 yf, aJ G zmg 8 yg, aJ G zmn 16 (g_M_sealBlock_zmn (g_M_sealBlock_zmn yn (yc t.toNatClampNeg) (yd t.toNatClampNeg)) ((yc t.toNatClampNeg) ^^^ (-4557430892032688128 : Int64)) ((yd t.toNatClampNeg) ^^^ (-4557430892032688128 : Int64)))]) rfl ?_
  refine pv_put X (ty := .long) (ws2 := [ob zm 5 [.ref zmp, .ref zm1, .ref zm2, .ref zmx, .int th, .ref zmh, .ref zmt, .int ys, .long yl, .long yr, .ref zmu, .ref zme, .ref zma, .ref zmb, .ref zmk, .ref zmc, .ref zmd, .ref zmi, .ref zmo, .ref zmf, .ref zmg, .ref zmn, .long (f_M_sealBlock (yc t.toNatClampNeg) (yd t.toNatClampNeg) (mkF (yi t.toNatClampNeg))), .long (f_M_sealBlock ((yc t.toNatClampNeg) ^^^ (-4557430892032688128 : Int64)) ((yd t.toNatClampNeg) ^^^ (-4557430892032688128 : Int64)) (mkF (yi t.toNatClampNeg))), .int yw, .long yx], aI G zmp 32 tb_perm, aI G zm1 56 tb_c1, aI G zm2 48 tb_c2, aI G zmx 512 tb_box, aJ G zmh 6 yv, aZ G zmt 6 yt, aI G zmu 16 yu, aZ G zme 16 ye, aJ G zma 16 ya, aJ G zmb 16 yb, aZ G zmk 8 yk, aJ G zmc 8 yc, aJ G zmd 8 yd, aJ G zmi 8 yi, aI G zmo 8 yo, aJ G zmf 5 yf, aJ G zmg 8 yg, aJ G zmn 16 (g_M_sealBlock_zmn (g_M_sealBlock_zmn yn (yc t.toNatClampNeg) (yd t.toNatClampNeg)) ((yc t.toNatClampNeg) ^^^ (-4557430892032688128 : Int64)) ((yd t.toNatClampNeg) ^^^ (-4557430892032688128 : Int64)))]) 0 23 ty_M ty_M_ok n_M u_M_in m_597 rfl rfl (by decide) ⟨rfl, rfl, rfl⟩ rfl (by decide +kernel) rfl rfl (Nat.le_of_ble_eq_true rfl) rfl d_M_current_69 ?_
  refine pv_bipush X 20 d_M_current_72 (by decide) ?_
  refine pv_istore (ll2 := [(6, .int 20), (4, .long (mkF (yi t.toNatClampNeg))), (2, .long (mkG (yi t.toNatClampNeg))), (0, .ref zm), (1, .int t)]) X d_M_current_74 (by decide) rfl ?_
  refine pv_lpick (ll2 := [(6, .int (bI 0)), (2, .long ((ck (yo t.toNatClampNeg) (mkG (yi t.toNatClampNeg)) (f_M_sealBlock (yc t.toNatClampNeg) (yd t.toNatClampNeg) (mkF (yi t.toNatClampNeg))) (f_M_sealBlock ((yc t.toNatClampNeg) ^^^ (-4557430892032688128 : Int64)) ((yd t.toNatClampNeg) ^^^ (-4557430892032688128 : Int64)) (mkF (yi t.toNatClampNeg))) (g_M_sealBlock_zmn (g_M_sealBlock_zmn yn (yc t.toNatClampNeg) (yd t.toNatClampNeg)) ((yc t.toNatClampNeg) ^^^ (-4557430892032688128 : Int64)) ((yd t.toNatClampNeg) ^^^ (-4557430892032688128 : Int64))) 0).1)), (0, .ref zm), (1, .int t)]) [0, 2, 3, 4] rfl ?_
  refine pv_eqw (ws2 := [ob zm 5 [.ref zmp, .ref zm1, .ref zm2, .ref zmx, .int th, .ref zmh, .ref zmt, .int ys, .long yl, .long yr, .ref zmu, .ref zme, .ref zma, .ref zmb, .ref zmk, .ref zmc, .ref zmd, .ref zmi, .ref zmo, .ref zmf, .ref zmg, .ref zmn, .long ((ck (yo t.toNatClampNeg) (mkG (yi t.toNatClampNeg)) (f_M_sealBlock (yc t.toNatClampNeg) (yd t.toNatClampNeg) (mkF (yi t.toNatClampNeg))) (f_M_sealBlock ((yc t.toNatClampNeg) ^^^ (-4557430892032688128 : Int64)) ((yd t.toNatClampNeg) ^^^ (-4557430892032688128 : Int64)) (mkF (yi t.toNatClampNeg))) (g_M_sealBlock_zmn (g_M_sealBlock_zmn yn (yc t.toNatClampNeg) (yd t.toNatClampNeg)) ((yc t.toNatClampNeg) ^^^ (-4557430892032688128 : Int64)) ((yd t.toNatClampNeg) ^^^ (-4557430892032688128 : Int64))) 0).2.1), .long ((ck (yo t.toNatClampNeg) (mkG (yi t.toNatClampNeg)) (f_M_sealBlock (yc t.toNatClampNeg) (yd t.toNatClampNeg) (mkF (yi t.toNatClampNeg))) (f_M_sealBlock ((yc t.toNatClampNeg) ^^^ (-4557430892032688128 : Int64)) ((yd t.toNatClampNeg) ^^^ (-4557430892032688128 : Int64)) (mkF (yi t.toNatClampNeg))) (g_M_sealBlock_zmn (g_M_sealBlock_zmn yn (yc t.toNatClampNeg) (yd t.toNatClampNeg)) ((yc t.toNatClampNeg) ^^^ (-4557430892032688128 : Int64)) ((yd t.toNatClampNeg) ^^^ (-4557430892032688128 : Int64))) 0).2.2.1), .int yw, .long yx], aI G zmp 32 tb_perm, aI G zm1 56 tb_c1, aI G zm2 48 tb_c2, aI G zmx 512 tb_box, aJ G zmh 6 yv, aZ G zmt 6 yt, aI G zmu 16 yu, aZ G zme 16 ye, aJ G zma 16 ya, aJ G zmb 16 yb, aZ G zmk 8 yk, aJ G zmc 8 yc, aJ G zmd 8 yd, aJ G zmi 8 yi, aI G zmo 8 yo, aJ G zmf 5 yf, aJ G zmg 8 yg, aJ G zmn 16 ((ck (yo t.toNatClampNeg) (mkG (yi t.toNatClampNeg)) (f_M_sealBlock (yc t.toNatClampNeg) (yd t.toNatClampNeg) (mkF (yi t.toNatClampNeg))) (f_M_sealBlock ((yc t.toNatClampNeg) ^^^ (-4557430892032688128 : Int64)) ((yd t.toNatClampNeg) ^^^ (-4557430892032688128 : Int64)) (mkF (yi t.toNatClampNeg))) (g_M_sealBlock_zmn (g_M_sealBlock_zmn yn (yc t.toNatClampNeg) (yd t.toNatClampNeg)) ((yc t.toNatClampNeg) ^^^ (-4557430892032688128 : Int64)) ((yd t.toNatClampNeg) ^^^ (-4557430892032688128 : Int64))) 0).2.2.2)]) rfl ?_
  refine pv_loop 21 (fun i => True) (fun i => [ob zm 5 [.ref zmp, .ref zm1, .ref zm2, .ref zmx, .int th, .ref zmh, .ref zmt, .int ys, .long yl, .long yr, .ref zmu, .ref zme, .ref zma, .ref zmb, .ref zmk, .ref zmc, .ref zmd, .ref zmi, .ref zmo, .ref zmf, .ref zmg, .ref zmn, .long ((ck (yo t.toNatClampNeg) (mkG (yi t.toNatClampNeg)) (f_M_sealBlock (yc t.toNatClampNeg) (yd t.toNatClampNeg) (mkF (yi t.toNatClampNeg))) (f_M_sealBlock ((yc t.toNatClampNeg) ^^^ (-4557430892032688128 : Int64)) ((yd t.toNatClampNeg) ^^^ (-4557430892032688128 : Int64)) (mkF (yi t.toNatClampNeg))) (g_M_sealBlock_zmn (g_M_sealBlock_zmn yn (yc t.toNatClampNeg) (yd t.toNatClampNeg)) ((yc t.toNatClampNeg) ^^^ (-4557430892032688128 : Int64)) ((yd t.toNatClampNeg) ^^^ (-4557430892032688128 : Int64))) i).2.1), .long ((ck (yo t.toNatClampNeg) (mkG (yi t.toNatClampNeg)) (f_M_sealBlock (yc t.toNatClampNeg) (yd t.toNatClampNeg) (mkF (yi t.toNatClampNeg))) (f_M_sealBlock ((yc t.toNatClampNeg) ^^^ (-4557430892032688128 : Int64)) ((yd t.toNatClampNeg) ^^^ (-4557430892032688128 : Int64)) (mkF (yi t.toNatClampNeg))) (g_M_sealBlock_zmn (g_M_sealBlock_zmn yn (yc t.toNatClampNeg) (yd t.toNatClampNeg)) ((yc t.toNatClampNeg) ^^^ (-4557430892032688128 : Int64)) ((yd t.toNatClampNeg) ^^^ (-4557430892032688128 : Int64))) i).2.2.1), .int yw, .long yx], aI G zmp 32 tb_perm, aI G zm1 56 tb_c1, aI G zm2 48 tb_c2, aI G zmx 512 tb_box, aJ G zmh 6 yv, aZ G zmt 6 yt, aI G zmu 16 yu, aZ G zme 16 ye, aJ G zma 16 ya, aJ G zmb 16 yb, aZ G zmk 8 yk, aJ G zmc 8 yc, aJ G zmd 8 yd, aJ G zmi 8 yi, aI G zmo 8 yo, aJ G zmf 5 yf, aJ G zmg 8 yg, aJ G zmn 16 ((ck (yo t.toNatClampNeg) (mkG (yi t.toNatClampNeg)) (f_M_sealBlock (yc t.toNatClampNeg) (yd t.toNatClampNeg) (mkF (yi t.toNatClampNeg))) (f_M_sealBlock ((yc t.toNatClampNeg) ^^^ (-4557430892032688128 : Int64)) ((yd t.toNatClampNeg) ^^^ (-4557430892032688128 : Int64)) (mkF (yi t.toNatClampNeg))) (g_M_sealBlock_zmn (g_M_sealBlock_zmn yn (yc t.toNatClampNeg) (yd t.toNatClampNeg)) ((yc t.toNatClampNeg) ^^^ (-4557430892032688128 : Int64)) ((yd t.toNatClampNeg) ^^^ (-4557430892032688128 : Int64))) i).2.2.2)]) (fun i => [(6, .int (bI i)), (2, .long ((ck (yo t.toNatClampNeg) (mkG (yi t.toNatClampNeg)) (f_M_sealBlock (yc t.toNatClampNeg) (yd t.toNatClampNeg) (mkF (yi t.toNatClampNeg))) (f_M_sealBlock ((yc t.toNatClampNeg) ^^^ (-4557430892032688128 : Int64)) ((yd t.toNatClampNeg) ^^^ (-4557430892032688128 : Int64)) (mkF (yi t.toNatClampNeg))) (g_M_sealBlock_zmn (g_M_sealBlock_zmn yn (yc t.toNatClampNeg) (yd t.toNatClampNeg)) ((yc t.toNatClampNeg) ^^^ (-4557430892032688128 : Int64)) ((yd t.toNatClampNeg) ^^^ (-4557430892032688128 : Int64))) i).1)), (0, .ref zm), (1, .int t)]) 0 (by omega) trivial (fun hI_i => ?_) (fun i h_i hI_i ih_i => ?_)
  · skip
    refine pv_iload X 0 d_M_current_76 rfl ?_
    refine pv_if_lt X 171 d_M_current_78 rfl (fun _ => ?_) (fun h => absurd (by decide) h)
    exact pv_vret X hr hlk () trivial (by simp only [g_M_current_zm_22, g_M_current_zm_23, g_M_current_zmn]) d_M_current_171
  · skip
    refine pv_iload X 0 d_M_current_76 rfl ?_
    refine pv_if_lt X 171 d_M_current_78 rfl (fun h => absurd h (bI_nn i h_i)) (fun _ => ?_)
    refine pv_aload_n X 2 d_M_current_81 rfl ?_
    refine pv_get X 0 18 u_M_in m_592 rfl rfl (by decide) ⟨rfl, rfl, rfl⟩ rfl d_M_current_82 ?_
    refine pv_iload_n X 3 d_M_current_85 rfl ?_
    refine pv_iald X 15 rfl ht d_M_current_86 ?_
    refine pv_iload X 0 d_M_current_87 rfl ?_
    refine pv_ishr X d_M_current_89 ?_
    refine pv_iconst X 1 d_M_current_90 (by decide) ?_
    refine pv_iand X d_M_current_91 ?_
    refine pv_iconst X 1 d_M_current_92 (by decide) ?_
    refine pv_icmp_ne X 165 d_M_current_93 rfl (fun h3 => ?_) (fun h3n => ?_)
    · skip
      refine pv_lpick (ll2 := [(6, .int (bI i)), (2, .long ((ck (yo t.toNatClampNeg) (mkG (yi t.toNatClampNeg)) (f_M_sealBlock (yc t.toNatClampNeg) (yd t.toNatClampNeg) (mkF (yi t.toNatClampNeg))) (f_M_sealBlock ((yc t.toNatClampNeg) ^^^ (-4557430892032688128 : Int64)) ((yd t.toNatClampNeg) ^^^ (-4557430892032688128 : Int64)) (mkF (yi t.toNatClampNeg))) (g_M_sealBlock_zmn (g_M_sealBlock_zmn yn (yc t.toNatClampNeg) (yd t.toNatClampNeg)) ((yc t.toNatClampNeg) ^^^ (-4557430892032688128 : Int64)) ((yd t.toNatClampNeg) ^^^ (-4557430892032688128 : Int64))) i).1)), (0, .ref zm), (1, .int t)]) [0, 1, 2, 3] rfl ?_
      refine pv_eql (ll2 := [(6, .int (bI i)), (2, .long ((ck (yo t.toNatClampNeg) (mkG (yi t.toNatClampNeg)) (f_M_sealBlock (yc t.toNatClampNeg) (yd t.toNatClampNeg) (mkF (yi t.toNatClampNeg))) (f_M_sealBlock ((yc t.toNatClampNeg) ^^^ (-4557430892032688128 : Int64)) ((yd t.toNatClampNeg) ^^^ (-4557430892032688128 : Int64)) (mkF (yi t.toNatClampNeg))) (g_M_sealBlock_zmn (g_M_sealBlock_zmn yn (yc t.toNatClampNeg) (yd t.toNatClampNeg)) ((yc t.toNatClampNeg) ^^^ (-4557430892032688128 : Int64)) ((yd t.toNatClampNeg) ^^^ (-4557430892032688128 : Int64))) (i + 1)).1)), (0, .ref zm), (1, .int t)]) (by simp only [ck, if_neg h3]) ?_
      refine pv_eqw (ws2 := [ob zm 5 [.ref zmp, .ref zm1, .ref zm2, .ref zmx, .int th, .ref zmh, .ref zmt, .int ys, .long yl, .long yr, .ref zmu, .ref zme, .ref zma, .ref zmb, .ref zmk, .ref zmc, .ref zmd, .ref zmi, .ref zmo, .ref zmf, .ref zmg, .ref zmn, .long ((ck (yo t.toNatClampNeg) (mkG (yi t.toNatClampNeg)) (f_M_sealBlock (yc t.toNatClampNeg) (yd t.toNatClampNeg) (mkF (yi t.toNatClampNeg))) (f_M_sealBlock ((yc t.toNatClampNeg) ^^^ (-4557430892032688128 : Int64)) ((yd t.toNatClampNeg) ^^^ (-4557430892032688128 : Int64)) (mkF (yi t.toNatClampNeg))) (g_M_sealBlock_zmn (g_M_sealBlock_zmn yn (yc t.toNatClampNeg) (yd t.toNatClampNeg)) ((yc t.toNatClampNeg) ^^^ (-4557430892032688128 : Int64)) ((yd t.toNatClampNeg) ^^^ (-4557430892032688128 : Int64))) (i + 1)).2.1), .long ((ck (yo t.toNatClampNeg) (mkG (yi t.toNatClampNeg)) (f_M_sealBlock (yc t.toNatClampNeg) (yd t.toNatClampNeg) (mkF (yi t.toNatClampNeg))) (f_M_sealBlock ((yc t.toNatClampNeg) ^^^ (-4557430892032688128 : Int64)) ((yd t.toNatClampNeg) ^^^ (-4557430892032688128 : Int64)) (mkF (yi t.toNatClampNeg))) (g_M_sealBlock_zmn (g_M_sealBlock_zmn yn (yc t.toNatClampNeg) (yd t.toNatClampNeg)) ((yc t.toNatClampNeg) ^^^ (-4557430892032688128 : Int64)) ((yd t.toNatClampNeg) ^^^ (-4557430892032688128 : Int64))) (i + 1)).2.2.1), .int yw, .long yx], aI G zmp 32 tb_perm, aI G zm1 56 tb_c1, aI G zm2 48 tb_c2, aI G zmx 512 tb_box, aJ G zmh 6 yv, aZ G zmt 6 yt, aI G zmu 16 yu, aZ G zme 16 ye, aJ G zma 16 ya, aJ G zmb 16 yb, aZ G zmk 8 yk, aJ G zmc 8 yc, aJ G zmd 8 yd, aJ G zmi 8 yi, aI G zmo 8 yo, aJ G zmf 5 yf, aJ G zmg 8 yg, aJ G zmn 16 ((ck (yo t.toNatClampNeg) (mkG (yi t.toNatClampNeg)) (f_M_sealBlock (yc t.toNatClampNeg) (yd t.toNatClampNeg) (mkF (yi t.toNatClampNeg))) (f_M_sealBlock ((yc t.toNatClampNeg) ^^^ (-4557430892032688128 : Int64)) ((yd t.toNatClampNeg) ^^^ (-4557430892032688128 : Int64)) (mkF (yi t.toNatClampNeg))) (g_M_sealBlock_zmn (g_M_sealBlock_zmn yn (yc t.toNatClampNeg) (yd t.toNatClampNeg)) ((yc t.toNatClampNeg) ^^^ (-4557430892032688128 : Int64)) ((yd t.toNatClampNeg) ^^^ (-4557430892032688128 : Int64))) (i + 1)).2.2.2)]) (by simp only [ck, if_neg h3]) ?_
      refine pv_iinc (ll2 := [(6, .int (bI (i + 1))), (2, .long ((ck (yo t.toNatClampNeg) (mkG (yi t.toNatClampNeg)) (f_M_sealBlock (yc t.toNatClampNeg) (yd t.toNatClampNeg) (mkF (yi t.toNatClampNeg))) (f_M_sealBlock ((yc t.toNatClampNeg) ^^^ (-4557430892032688128 : Int64)) ((yd t.toNatClampNeg) ^^^ (-4557430892032688128 : Int64)) (mkF (yi t.toNatClampNeg))) (g_M_sealBlock_zmn (g_M_sealBlock_zmn yn (yc t.toNatClampNeg) (yd t.toNatClampNeg)) ((yc t.toNatClampNeg) ^^^ (-4557430892032688128 : Int64)) ((yd t.toNatClampNeg) ^^^ (-4557430892032688128 : Int64))) (i + 1)).1)), (0, .ref zm), (1, .int t)]) X 0 (bI (i + 1)) d_M_current_165 rfl (bI_s i h_i) (by decide) rfl ?_
      refine pv_goto X 76 d_M_current_168 rfl ?_
      refine pv_lpick (ll2 := [(6, .int (bI (i + 1))), (2, .long ((ck (yo t.toNatClampNeg) (mkG (yi t.toNatClampNeg)) (f_M_sealBlock (yc t.toNatClampNeg) (yd t.toNatClampNeg) (mkF (yi t.toNatClampNeg))) (f_M_sealBlock ((yc t.toNatClampNeg) ^^^ (-4557430892032688128 : Int64)) ((yd t.toNatClampNeg) ^^^ (-4557430892032688128 : Int64)) (mkF (yi t.toNatClampNeg))) (g_M_sealBlock_zmn (g_M_sealBlock_zmn yn (yc t.toNatClampNeg) (yd t.toNatClampNeg)) ((yc t.toNatClampNeg) ^^^ (-4557430892032688128 : Int64)) ((yd t.toNatClampNeg) ^^^ (-4557430892032688128 : Int64))) (i + 1)).1)), (0, .ref zm), (1, .int t)]) [0, 1, 2, 3] rfl ?_
      refine pv_eqw (ws2 := [ob zm 5 [.ref zmp, .ref zm1, .ref zm2, .ref zmx, .int th, .ref zmh, .ref zmt, .int ys, .long yl, .long yr, .ref zmu, .ref zme, .ref zma, .ref zmb, .ref zmk, .ref zmc, .ref zmd, .ref zmi, .ref zmo, .ref zmf, .ref zmg, .ref zmn, .long ((ck (yo t.toNatClampNeg) (mkG (yi t.toNatClampNeg)) (f_M_sealBlock (yc t.toNatClampNeg) (yd t.toNatClampNeg) (mkF (yi t.toNatClampNeg))) (f_M_sealBlock ((yc t.toNatClampNeg) ^^^ (-4557430892032688128 : Int64)) ((yd t.toNatClampNeg) ^^^ (-4557430892032688128 : Int64)) (mkF (yi t.toNatClampNeg))) (g_M_sealBlock_zmn (g_M_sealBlock_zmn yn (yc t.toNatClampNeg) (yd t.toNatClampNeg)) ((yc t.toNatClampNeg) ^^^ (-4557430892032688128 : Int64)) ((yd t.toNatClampNeg) ^^^ (-4557430892032688128 : Int64))) (i + 1)).2.1), .long ((ck (yo t.toNatClampNeg) (mkG (yi t.toNatClampNeg)) (f_M_sealBlock (yc t.toNatClampNeg) (yd t.toNatClampNeg) (mkF (yi t.toNatClampNeg))) (f_M_sealBlock ((yc t.toNatClampNeg) ^^^ (-4557430892032688128 : Int64)) ((yd t.toNatClampNeg) ^^^ (-4557430892032688128 : Int64)) (mkF (yi t.toNatClampNeg))) (g_M_sealBlock_zmn (g_M_sealBlock_zmn yn (yc t.toNatClampNeg) (yd t.toNatClampNeg)) ((yc t.toNatClampNeg) ^^^ (-4557430892032688128 : Int64)) ((yd t.toNatClampNeg) ^^^ (-4557430892032688128 : Int64))) (i + 1)).2.2.1), .int yw, .long yx], aI G zmp 32 tb_perm, aI G zm1 56 tb_c1, aI G zm2 48 tb_c2, aI G zmx 512 tb_box, aJ G zmh 6 yv, aZ G zmt 6 yt, aI G zmu 16 yu, aZ G zme 16 ye, aJ G zma 16 ya, aJ G zmb 16 yb, aZ G zmk 8 yk, aJ G zmc 8 yc, aJ G zmd 8 yd, aJ G zmi 8 yi, aI G zmo 8 yo, aJ G zmf 5 yf, aJ G zmg 8 yg, aJ G zmn 16 ((ck (yo t.toNatClampNeg) (mkG (yi t.toNatClampNeg)) (f_M_sealBlock (yc t.toNatClampNeg) (yd t.toNatClampNeg) (mkF (yi t.toNatClampNeg))) (f_M_sealBlock ((yc t.toNatClampNeg) ^^^ (-4557430892032688128 : Int64)) ((yd t.toNatClampNeg) ^^^ (-4557430892032688128 : Int64)) (mkF (yi t.toNatClampNeg))) (g_M_sealBlock_zmn (g_M_sealBlock_zmn yn (yc t.toNatClampNeg) (yd t.toNatClampNeg)) ((yc t.toNatClampNeg) ^^^ (-4557430892032688128 : Int64)) ((yd t.toNatClampNeg) ^^^ (-4557430892032688128 : Int64))) (i + 1)).2.2.2)]) rfl ?_
      exact ih_i trivial
    · skip
      refine pv_lload_n X 1 d_M_current_96 rfl ?_
      refine pv_lconst X 1 d_M_current_97 (by decide) ?_
      refine pv_iload X 0 d_M_current_98 rfl ?_
      refine pv_lshl X d_M_current_100 ?_
      refine pv_lor X d_M_current_101 ?_
      refine pv_lstore_n (ll2 := [(2, .long (((ck (yo t.toNatClampNeg) (mkG (yi t.toNatClampNeg)) (f_M_sealBlock (yc t.toNatClampNeg) (yd t.toNatClampNeg) (mkF (yi t.toNatClampNeg))) (f_M_sealBlock ((yc t.toNatClampNeg) ^^^ (-4557430892032688128 : Int64)) ((yd t.toNatClampNeg) ^^^ (-4557430892032688128 : Int64)) (mkF (yi t.toNatClampNeg))) (g_M_sealBlock_zmn (g_M_sealBlock_zmn yn (yc t.toNatClampNeg) (yd t.toNatClampNeg)) ((yc t.toNatClampNeg) ^^^ (-4557430892032688128 : Int64)) ((yd t.toNatClampNeg) ^^^ (-4557430892032688128 : Int64))) i).1) ||| ((1 : Int64) <<< ((bI i).toInt64 &&& 63)))), (6, .int (bI i)), (0, .ref zm), (1, .int t)]) X d_M_current_102 (by decide) rfl ?_
      refine pv_aload_n X 2 d_M_current_103 rfl ?_
      refine pv_aload_n X 2 d_M_current_104 rfl ?_
      refine pv_get X 0 22 u_M_in m_596 rfl rfl (by decide) ⟨rfl, rfl, rfl⟩ rfl d_M_current_105 ?_
      refine pv_lload_n X 0 d_M_current_108 rfl ?_
      refine pv_aload_n X 2 d_M_current_109 rfl ?_
      refine pv_get X 0 23 u_M_in m_597 rfl rfl (by decide) ⟨rfl, rfl, rfl⟩ rfl d_M_current_110 ?_
      refine pv_lxor X d_M_current_113 ?_
      refine pv_iconst X 0 d_M_current_114 (by decide) ?_
      refine pv_calllE X (Cut.all _) (rn_V X (c_M_des0 l G zm zmp zm1 zm2 zmx zmh zmt zmu zme zma zmb zmk zmc zmd zmi zmo zmf zmg zmn th ys yl yr yv yt yu ye ya yb yk yc yd yi yo yf yg ((ck (yo t.toNatClampNeg) (mkG (yi t.toNatClampNeg)) (f_M_sealBlock (yc t.toNatClampNeg) (yd t.toNatClampNeg) (mkF (yi t.toNatClampNeg))) (f_M_sealBlock ((yc t.toNatClampNeg) ^^^ (-4557430892032688128 : Int64)) ((yd t.toNatClampNeg) ^^^ (-4557430892032688128 : Int64)) (mkF (yi t.toNatClampNeg))) (g_M_sealBlock_zmn (g_M_sealBlock_zmn yn (yc t.toNatClampNeg) (yd t.toNatClampNeg)) ((yc t.toNatClampNeg) ^^^ (-4557430892032688128 : Int64)) ((yd t.toNatClampNeg) ^^^ (-4557430892032688128 : Int64))) i).2.2.2) ((ck (yo t.toNatClampNeg) (mkG (yi t.toNatClampNeg)) (f_M_sealBlock (yc t.toNatClampNeg) (yd t.toNatClampNeg) (mkF (yi t.toNatClampNeg))) (f_M_sealBlock ((yc t.toNatClampNeg) ^^^ (-4557430892032688128 : Int64)) ((yd t.toNatClampNeg) ^^^ (-4557430892032688128 : Int64)) (mkF (yi t.toNatClampNeg))) (g_M_sealBlock_zmn (g_M_sealBlock_zmn yn (yc t.toNatClampNeg) (yd t.toNatClampNeg)) ((yc t.toNatClampNeg) ^^^ (-4557430892032688128 : Int64)) ((yd t.toNatClampNeg) ^^^ (-4557430892032688128 : Int64))) i).2.1) ((ck (yo t.toNatClampNeg) (mkG (yi t.toNatClampNeg)) (f_M_sealBlock (yc t.toNatClampNeg) (yd t.toNatClampNeg) (mkF (yi t.toNatClampNeg))) (f_M_sealBlock ((yc t.toNatClampNeg) ^^^ (-4557430892032688128 : Int64)) ((yd t.toNatClampNeg) ^^^ (-4557430892032688128 : Int64)) (mkF (yi t.toNatClampNeg))) (g_M_sealBlock_zmn (g_M_sealBlock_zmn yn (yc t.toNatClampNeg) (yd t.toNatClampNeg)) ((yc t.toNatClampNeg) ^^^ (-4557430892032688128 : Int64)) ((yd t.toNatClampNeg) ^^^ (-4557430892032688128 : Int64))) i).2.2.1) yw yx ((ck (yo t.toNatClampNeg) (mkG (yi t.toNatClampNeg)) (f_M_sealBlock (yc t.toNatClampNeg) (yd t.toNatClampNeg) (mkF (yi t.toNatClampNeg))) (f_M_sealBlock ((yc t.toNatClampNeg) ^^^ (-4557430892032688128 : Int64)) ((yd t.toNatClampNeg) ^^^ (-4557430892032688128 : Int64)) (mkF (yi t.toNatClampNeg))) (g_M_sealBlock_zmn (g_M_sealBlock_zmn yn (yc t.toNatClampNeg) (yd t.toNatClampNeg)) ((yc t.toNatClampNeg) ^^^ (-4557430892032688128 : Int64)) ((yd t.toNatClampNeg) ^^^ (-4557430892032688128 : Int64))) i).2.1) ((((ck (yo t.toNatClampNeg) (mkG (yi t.toNatClampNeg)) (f_M_sealBlock (yc t.toNatClampNeg) (yd t.toNatClampNeg) (mkF (yi t.toNatClampNeg))) (f_M_sealBlock ((yc t.toNatClampNeg) ^^^ (-4557430892032688128 : Int64)) ((yd t.toNatClampNeg) ^^^ (-4557430892032688128 : Int64)) (mkF (yi t.toNatClampNeg))) (g_M_sealBlock_zmn (g_M_sealBlock_zmn yn (yc t.toNatClampNeg) (yd t.toNatClampNeg)) ((yc t.toNatClampNeg) ^^^ (-4557430892032688128 : Int64)) ((yd t.toNatClampNeg) ^^^ (-4557430892032688128 : Int64))) i).1) ||| ((1 : Int64) <<< ((bI i).toInt64 &&& 63))) ^^^ ((ck (yo t.toNatClampNeg) (mkG (yi t.toNatClampNeg)) (f_M_sealBlock (yc t.toNatClampNeg) (yd t.toNatClampNeg) (mkF (yi t.toNatClampNeg))) (f_M_sealBlock ((yc t.toNatClampNeg) ^^^ (-4557430892032688128 : Int64)) ((yd t.toNatClampNeg) ^^^ (-4557430892032688128 : Int64)) (mkF (yi t.toNatClampNeg))) (g_M_sealBlock_zmn (g_M_sealBlock_zmn yn (yc t.toNatClampNeg) (yd t.toNatClampNeg)) ((yc t.toNatClampNeg) ^^^ (-4557430892032688128 : Int64)) ((yd t.toNatClampNeg) ^^^ (-4557430892032688128 : Int64))) i).2.2.1)) ) trivial mf_M_des m_686 m_688 ms_15 rfl 0 rfl rfl rfl (by decide) (by decide) rfl (Nat.le_of_ble_eq_true rfl) d_M_current_115) (fun x4 => ?_)
      refine pv_eqw (ws2 := [ob zm 5 [.ref zmp, .ref zm1, .ref zm2, .ref zmx, .int th, .ref zmh, .ref zmt, .int ys, .long yl, .long yr, .ref zmu, .ref zme, .ref zma, .ref zmb, .ref zmk, .ref zmc, .ref zmd, .ref zmi, .ref zmo, .ref zmf, .ref zmg, .ref zmn, .long ((ck (yo t.toNatClampNeg) (mkG (yi t.toNatClampNeg)) (f_M_sealBlock (yc t.toNatClampNeg) (yd t.toNatClampNeg) (mkF (yi t.toNatClampNeg))) (f_M_sealBlock ((yc t.toNatClampNeg) ^^^ (-4557430892032688128 : Int64)) ((yd t.toNatClampNeg) ^^^ (-4557430892032688128 : Int64)) (mkF (yi t.toNatClampNeg))) (g_M_sealBlock_zmn (g_M_sealBlock_zmn yn (yc t.toNatClampNeg) (yd t.toNatClampNeg)) ((yc t.toNatClampNeg) ^^^ (-4557430892032688128 : Int64)) ((yd t.toNatClampNeg) ^^^ (-4557430892032688128 : Int64))) i).2.1), .long ((ck (yo t.toNatClampNeg) (mkG (yi t.toNatClampNeg)) (f_M_sealBlock (yc t.toNatClampNeg) (yd t.toNatClampNeg) (mkF (yi t.toNatClampNeg))) (f_M_sealBlock ((yc t.toNatClampNeg) ^^^ (-4557430892032688128 : Int64)) ((yd t.toNatClampNeg) ^^^ (-4557430892032688128 : Int64)) (mkF (yi t.toNatClampNeg))) (g_M_sealBlock_zmn (g_M_sealBlock_zmn yn (yc t.toNatClampNeg) (yd t.toNatClampNeg)) ((yc t.toNatClampNeg) ^^^ (-4557430892032688128 : Int64)) ((yd t.toNatClampNeg) ^^^ (-4557430892032688128 : Int64))) i).2.2.1), .int yw, .long yx], aI G zmp 32 tb_perm, aI G zm1 56 tb_c1, aI G zm2 48 tb_c2, aI G zmx 512 tb_box, aJ G zmh 6 yv, aZ G zmt 6 yt, aI G zmu 16 yu, aZ G zme 16 ye, aJ G zma 16 ya, aJ G zmb 16 yb, aZ G zmk 8 yk, aJ G zmc 8 yc, aJ G zmd 8 yd, aJ G zmi 8 yi, aI G zmo 8 yo, aJ G zmf 5 yf, aJ G zmg 8 yg, aJ G zmn 16 (rnd ((ck (yo t.toNatClampNeg) (mkG (yi t.toNatClampNeg)) (f_M_sealBlock (yc t.toNatClampNeg) (yd t.toNatClampNeg) (mkF (yi t.toNatClampNeg))) (f_M_sealBlock ((yc t.toNatClampNeg) ^^^ (-4557430892032688128 : Int64)) ((yd t.toNatClampNeg) ^^^ (-4557430892032688128 : Int64)) (mkF (yi t.toNatClampNeg))) (g_M_sealBlock_zmn (g_M_sealBlock_zmn yn (yc t.toNatClampNeg) (yd t.toNatClampNeg)) ((yc t.toNatClampNeg) ^^^ (-4557430892032688128 : Int64)) ((yd t.toNatClampNeg) ^^^ (-4557430892032688128 : Int64))) i).2.1) ((ck (yo t.toNatClampNeg) (mkG (yi t.toNatClampNeg)) (f_M_sealBlock (yc t.toNatClampNeg) (yd t.toNatClampNeg) (mkF (yi t.toNatClampNeg))) (f_M_sealBlock ((yc t.toNatClampNeg) ^^^ (-4557430892032688128 : Int64)) ((yd t.toNatClampNeg) ^^^ (-4557430892032688128 : Int64)) (mkF (yi t.toNatClampNeg))) (g_M_sealBlock_zmn (g_M_sealBlock_zmn yn (yc t.toNatClampNeg) (yd t.toNatClampNeg)) ((yc t.toNatClampNeg) ^^^ (-4557430892032688128 : Int64)) ((yd t.toNatClampNeg) ^^^ (-4557430892032688128 : Int64))) i).2.2.2) 16)]) rfl ?_
      refine pv_aload_n X 2 d_M_current_118 rfl ?_
      refine pv_get X 0 23 u_M_in m_597 rfl rfl (by decide) ⟨rfl, rfl, rfl⟩ rfl d_M_current_119 ?_
      refine pv_lxor X d_M_current_122 ?_
      refine pv_lstore (ll2 := [(7, .long ((menc ((ck (yo t.toNatClampNeg) (mkG (yi t.toNatClampNeg)) (f_M_sealBlock (yc t.toNatClampNeg) (yd t.toNatClampNeg) (mkF (yi t.toNatClampNeg))) (f_M_sealBlock ((yc t.toNatClampNeg) ^^^ (-4557430892032688128 : Int64)) ((yd t.toNatClampNeg) ^^^ (-4557430892032688128 : Int64)) (mkF (yi t.toNatClampNeg))) (g_M_sealBlock_zmn (g_M_sealBlock_zmn yn (yc t.toNatClampNeg) (yd t.toNatClampNeg)) ((yc t.toNatClampNeg) ^^^ (-4557430892032688128 : Int64)) ((yd t.toNatClampNeg) ^^^ (-4557430892032688128 : Int64))) i).2.1) ((((ck (yo t.toNatClampNeg) (mkG (yi t.toNatClampNeg)) (f_M_sealBlock (yc t.toNatClampNeg) (yd t.toNatClampNeg) (mkF (yi t.toNatClampNeg))) (f_M_sealBlock ((yc t.toNatClampNeg) ^^^ (-4557430892032688128 : Int64)) ((yd t.toNatClampNeg) ^^^ (-4557430892032688128 : Int64)) (mkF (yi t.toNatClampNeg))) (g_M_sealBlock_zmn (g_M_sealBlock_zmn yn (yc t.toNatClampNeg) (yd t.toNatClampNeg)) ((yc t.toNatClampNeg) ^^^ (-4557430892032688128 : Int64)) ((yd t.toNatClampNeg) ^^^ (-4557430892032688128 : Int64))) i).1) ||| ((1 : Int64) <<< ((bI i).toInt64 &&& 63))) ^^^ ((ck (yo t.toNatClampNeg) (mkG (yi t.toNatClampNeg)) (f_M_sealBlock (yc t.toNatClampNeg) (yd t.toNatClampNeg) (mkF (yi t.toNatClampNeg))) (f_M_sealBlock ((yc t.toNatClampNeg) ^^^ (-4557430892032688128 : Int64)) ((yd t.toNatClampNeg) ^^^ (-4557430892032688128 : Int64)) (mkF (yi t.toNatClampNeg))) (g_M_sealBlock_zmn (g_M_sealBlock_zmn yn (yc t.toNatClampNeg) (yd t.toNatClampNeg)) ((yc t.toNatClampNeg) ^^^ (-4557430892032688128 : Int64)) ((yd t.toNatClampNeg) ^^^ (-4557430892032688128 : Int64))) i).2.2.1))) ^^^ ((ck (yo t.toNatClampNeg) (mkG (yi t.toNatClampNeg)) (f_M_sealBlock (yc t.toNatClampNeg) (yd t.toNatClampNeg) (mkF (yi t.toNatClampNeg))) (f_M_sealBlock ((yc t.toNatClampNeg) ^^^ (-4557430892032688128 : Int64)) ((yd t.toNatClampNeg) ^^^ (-4557430892032688128 : Int64)) (mkF (yi t.toNatClampNeg))) (g_M_sealBlock_zmn (g_M_sealBlock_zmn yn (yc t.toNatClampNeg) (yd t.toNatClampNeg)) ((yc t.toNatClampNeg) ^^^ (-4557430892032688128 : Int64)) ((yd t.toNatClampNeg) ^^^ (-4557430892032688128 : Int64))) i).2.2.1))), (2, .long (((ck (yo t.toNatClampNeg) (mkG (yi t.toNatClampNeg)) (f_M_sealBlock (yc t.toNatClampNeg) (yd t.toNatClampNeg) (mkF (yi t.toNatClampNeg))) (f_M_sealBlock ((yc t.toNatClampNeg) ^^^ (-4557430892032688128 : Int64)) ((yd t.toNatClampNeg) ^^^ (-4557430892032688128 : Int64)) (mkF (yi t.toNatClampNeg))) (g_M_sealBlock_zmn (g_M_sealBlock_zmn yn (yc t.toNatClampNeg) (yd t.toNatClampNeg)) ((yc t.toNatClampNeg) ^^^ (-4557430892032688128 : Int64)) ((yd t.toNatClampNeg) ^^^ (-4557430892032688128 : Int64))) i).1) ||| ((1 : Int64) <<< ((bI i).toInt64 &&& 63)))), (6, .int (bI i)), (0, .ref zm), (1, .int t)]) X d_M_current_123 (by decide) rfl ?_
      refine pv_aload_n X 3 d_M_current_125 rfl ?_
      refine pv_get X 0 23 u_M_in m_597 rfl rfl (by decide) ⟨rfl, rfl, rfl⟩ rfl d_M_current_126 ?_
      refine pv_ldc2_w X m_810 d_M_current_129 ?_
      refine pv_lxor X d_M_current_132 ?_
      refine pv_lstore (ll2 := [(9, .long (((ck (yo t.toNatClampNeg) (mkG (yi t.toNatClampNeg)) (f_M_sealBlock (yc t.toNatClampNeg) (yd t.toNatClampNeg) (mkF (yi t.toNatClampNeg))) (f_M_sealBlock ((yc t.toNatClampNeg) ^^^ (-4557430892032688128 : Int64)) ((yd t.toNatClampNeg) ^^^ (-4557430892032688128 : Int64)) (mkF (yi t.toNatClampNeg))) (g_M_sealBlock_zmn (g_M_sealBlock_zmn yn (yc t.toNatClampNeg) (yd t.toNatClampNeg)) ((yc t.toNatClampNeg) ^^^ (-4557430892032688128 : Int64)) ((yd t.toNatClampNeg) ^^^ (-4557430892032688128 : Int64))) i).2.2.1) ^^^ (-4557430892032688128 : Int64))), (7, .long ((menc ((ck (yo t.toNatClampNeg) (mkG (yi t.toNatClampNeg)) (f_M_sealBlock (yc t.toNatClampNeg) (yd t.toNatClampNeg) (mkF (yi t.toNatClampNeg))) (f_M_sealBlock ((yc t.toNatClampNeg) ^^^ (-4557430892032688128 : Int64)) ((yd t.toNatClampNeg) ^^^ (-4557430892032688128 : Int64)) (mkF (yi t.toNatClampNeg))) (g_M_sealBlock_zmn (g_M_sealBlock_zmn yn (yc t.toNatClampNeg) (yd t.toNatClampNeg)) ((yc t.toNatClampNeg) ^^^ (-4557430892032688128 : Int64)) ((yd t.toNatClampNeg) ^^^ (-4557430892032688128 : Int64))) i).2.1) ((((ck (yo t.toNatClampNeg) (mkG (yi t.toNatClampNeg)) (f_M_sealBlock (yc t.toNatClampNeg) (yd t.toNatClampNeg) (mkF (yi t.toNatClampNeg))) (f_M_sealBlock ((yc t.toNatClampNeg) ^^^ (-4557430892032688128 : Int64)) ((yd t.toNatClampNeg) ^^^ (-4557430892032688128 : Int64)) (mkF (yi t.toNatClampNeg))) (g_M_sealBlock_zmn (g_M_sealBlock_zmn yn (yc t.toNatClampNeg) (yd t.toNatClampNeg)) ((yc t.toNatClampNeg) ^^^ (-4557430892032688128 : Int64)) ((yd t.toNatClampNeg) ^^^ (-4557430892032688128 : Int64))) i).1) ||| ((1 : Int64) <<< ((bI i).toInt64 &&& 63))) ^^^ ((ck (yo t.toNatClampNeg) (mkG (yi t.toNatClampNeg)) (f_M_sealBlock (yc t.toNatClampNeg) (yd t.toNatClampNeg) (mkF (yi t.toNatClampNeg))) (f_M_sealBlock ((yc t.toNatClampNeg) ^^^ (-4557430892032688128 : Int64)) ((yd t.toNatClampNeg) ^^^ (-4557430892032688128 : Int64)) (mkF (yi t.toNatClampNeg))) (g_M_sealBlock_zmn (g_M_sealBlock_zmn yn (yc t.toNatClampNeg) (yd t.toNatClampNeg)) ((yc t.toNatClampNeg) ^^^ (-4557430892032688128 : Int64)) ((yd t.toNatClampNeg) ^^^ (-4557430892032688128 : Int64))) i).2.2.1))) ^^^ ((ck (yo t.toNatClampNeg) (mkG (yi t.toNatClampNeg)) (f_M_sealBlock (yc t.toNatClampNeg) (yd t.toNatClampNeg) (mkF (yi t.toNatClampNeg))) (f_M_sealBlock ((yc t.toNatClampNeg) ^^^ (-4557430892032688128 : Int64)) ((yd t.toNatClampNeg) ^^^ (-4557430892032688128 : Int64)) (mkF (yi t.toNatClampNeg))) (g_M_sealBlock_zmn (g_M_sealBlock_zmn yn (yc t.toNatClampNeg) (yd t.toNatClampNeg)) ((yc t.toNatClampNeg) ^^^ (-4557430892032688128 : Int64)) ((yd t.toNatClampNeg) ^^^ (-4557430892032688128 : Int64))) i).2.2.1))), (2, .long (((ck (yo t.toNatClampNeg) (mkG (yi t.toNatClampNeg)) (f_M_sealBlock (yc t.toNatClampNeg) (yd t.toNatClampNeg) (mkF (yi t.toNatClampNeg))) (f_M_sealBlock ((yc t.toNatClampNeg) ^^^ (-4557430892032688128 : Int64)) ((yd t.toNatClampNeg) ^^^ (-4557430892032688128 : Int64)) (mkF (yi t.toNatClampNeg))) (g_M_sealBlock_zmn (g_M_sealBlock_zmn yn (yc t.toNatClampNeg) (yd t.toNatClampNeg)) ((yc t.toNatClampNeg) ^^^ (-4557430892032688128 : Int64)) ((yd t.toNatClampNeg) ^^^ (-4557430892032688128 : Int64))) i).1) ||| ((1 : Int64) <<< ((bI i).toInt64 &&& 63)))), (6, .int (bI i)), (0, .ref zm), (1, .int t)]) X d_M_current_133 (by decide) rfl ?_
      refine pv_aload_n X 4 d_M_current_135 rfl ?_
      refine pv_aload_n X 4 d_M_current_136 rfl ?_
      refine pv_aload_n X 4 d_M_current_137 rfl ?_
      refine pv_get X 0 22 u_M_in m_596 rfl rfl (by decide) ⟨rfl, rfl, rfl⟩ rfl d_M_current_138 ?_
      refine pv_ldc2_w X m_810 d_M_current_141 ?_
      refine pv_lxor X d_M_current_144 ?_
      refine pv_lload_n X 2 d_M_current_145 rfl ?_
      refine pv_lload X 0 d_M_current_146 rfl ?_
      refine pv_lxor X d_M_current_148 ?_
      refine pv_iconst X 0 d_M_current_149 (by decide) ?_
      refine pv_calllE X (Cut.all _) (rn_V X (c_M_des0 l G zm zmp zm1 zm2 zmx zmh zmt zmu zme zma zmb zmk zmc zmd zmi zmo zmf zmg zmn th ys yl yr yv yt yu ye ya yb yk yc yd yi yo yf yg (rnd ((ck (yo t.toNatClampNeg) (mkG (yi t.toNatClampNeg)) (f_M_sealBlock (yc t.toNatClampNeg) (yd t.toNatClampNeg) (mkF (yi t.toNatClampNeg))) (f_M_sealBlock ((yc t.toNatClampNeg) ^^^ (-4557430892032688128 : Int64)) ((yd t.toNatClampNeg) ^^^ (-4557430892032688128 : Int64)) (mkF (yi t.toNatClampNeg))) (g_M_sealBlock_zmn (g_M_sealBlock_zmn yn (yc t.toNatClampNeg) (yd t.toNatClampNeg)) ((yc t.toNatClampNeg) ^^^ (-4557430892032688128 : Int64)) ((yd t.toNatClampNeg) ^^^ (-4557430892032688128 : Int64))) i).2.1) ((ck (yo t.toNatClampNeg) (mkG (yi t.toNatClampNeg)) (f_M_sealBlock (yc t.toNatClampNeg) (yd t.toNatClampNeg) (mkF (yi t.toNatClampNeg))) (f_M_sealBlock ((yc t.toNatClampNeg) ^^^ (-4557430892032688128 : Int64)) ((yd t.toNatClampNeg) ^^^ (-4557430892032688128 : Int64)) (mkF (yi t.toNatClampNeg))) (g_M_sealBlock_zmn (g_M_sealBlock_zmn yn (yc t.toNatClampNeg) (yd t.toNatClampNeg)) ((yc t.toNatClampNeg) ^^^ (-4557430892032688128 : Int64)) ((yd t.toNatClampNeg) ^^^ (-4557430892032688128 : Int64))) i).2.2.2) 16) ((ck (yo t.toNatClampNeg) (mkG (yi t.toNatClampNeg)) (f_M_sealBlock (yc t.toNatClampNeg) (yd t.toNatClampNeg) (mkF (yi t.toNatClampNeg))) (f_M_sealBlock ((yc t.toNatClampNeg) ^^^ (-4557430892032688128 : Int64)) ((yd t.toNatClampNeg) ^^^ (-4557430892032688128 : Int64)) (mkF (yi t.toNatClampNeg))) (g_M_sealBlock_zmn (g_M_sealBlock_zmn yn (yc t.toNatClampNeg) (yd t.toNatClampNeg)) ((yc t.toNatClampNeg) ^^^ (-4557430892032688128 : Int64)) ((yd t.toNatClampNeg) ^^^ (-4557430892032688128 : Int64))) i).2.1) ((ck (yo t.toNatClampNeg) (mkG (yi t.toNatClampNeg)) (f_M_sealBlock (yc t.toNatClampNeg) (yd t.toNatClampNeg) (mkF (yi t.toNatClampNeg))) (f_M_sealBlock ((yc t.toNatClampNeg) ^^^ (-4557430892032688128 : Int64)) ((yd t.toNatClampNeg) ^^^ (-4557430892032688128 : Int64)) (mkF (yi t.toNatClampNeg))) (g_M_sealBlock_zmn (g_M_sealBlock_zmn yn (yc t.toNatClampNeg) (yd t.toNatClampNeg)) ((yc t.toNatClampNeg) ^^^ (-4557430892032688128 : Int64)) ((yd t.toNatClampNeg) ^^^ (-4557430892032688128 : Int64))) i).2.2.1) yw yx (((ck (yo t.toNatClampNeg) (mkG (yi t.toNatClampNeg)) (f_M_sealBlock (yc t.toNatClampNeg) (yd t.toNatClampNeg) (mkF (yi t.toNatClampNeg))) (f_M_sealBlock ((yc t.toNatClampNeg) ^^^ (-4557430892032688128 : Int64)) ((yd t.toNatClampNeg) ^^^ (-4557430892032688128 : Int64)) (mkF (yi t.toNatClampNeg))) (g_M_sealBlock_zmn (g_M_sealBlock_zmn yn (yc t.toNatClampNeg) (yd t.toNatClampNeg)) ((yc t.toNatClampNeg) ^^^ (-4557430892032688128 : Int64)) ((yd t.toNatClampNeg) ^^^ (-4557430892032688128 : Int64))) i).2.1) ^^^ (-4557430892032688128 : Int64)) ((((ck (yo t.toNatClampNeg) (mkG (yi t.toNatClampNeg)) (f_M_sealBlock (yc t.toNatClampNeg) (yd t.toNatClampNeg) (mkF (yi t.toNatClampNeg))) (f_M_sealBlock ((yc t.toNatClampNeg) ^^^ (-4557430892032688128 : Int64)) ((yd t.toNatClampNeg) ^^^ (-4557430892032688128 : Int64)) (mkF (yi t.toNatClampNeg))) (g_M_sealBlock_zmn (g_M_sealBlock_zmn yn (yc t.toNatClampNeg) (yd t.toNatClampNeg)) ((yc t.toNatClampNeg) ^^^ (-4557430892032688128 : Int64)) ((yd t.toNatClampNeg) ^^^ (-4557430892032688128 : Int64))) i).1) ||| ((1 : Int64) <<< ((bI i).toInt64 &&& 63))) ^^^ (((ck (yo t.toNatClampNeg) (mkG (yi t.toNatClampNeg)) (f_M_sealBlock (yc t.toNatClampNeg) (yd t.toNatClampNeg) (mkF (yi t.toNatClampNeg))) (f_M_sealBlock ((yc t.toNatClampNeg) ^^^ (-4557430892032688128 : Int64)) ((yd t.toNatClampNeg) ^^^ (-4557430892032688128 : Int64)) (mkF (yi t.toNatClampNeg))) (g_M_sealBlock_zmn (g_M_sealBlock_zmn yn (yc t.toNatClampNeg) (yd t.toNatClampNeg)) ((yc t.toNatClampNeg) ^^^ (-4557430892032688128 : Int64)) ((yd t.toNatClampNeg) ^^^ (-4557430892032688128 : Int64))) i).2.2.1) ^^^ (-4557430892032688128 : Int64))) ) trivial mf_M_des m_686 m_688 ms_15 rfl 0 rfl rfl rfl (by decide) (by decide) rfl (Nat.le_of_ble_eq_true rfl) d_M_current_150) (fun x5 => ?_)
      refine pv_eqw (ws2 := [ob zm 5 [.ref zmp, .ref zm1, .ref zm2, .ref zmx, .int th, .ref zmh, .ref zmt, .int ys, .long yl, .long yr, .ref zmu, .ref zme, .ref zma, .ref zmb, .ref zmk, .ref zmc, .ref zmd, .ref zmi, .ref zmo, .ref zmf, .ref zmg, .ref zmn, .long ((ck (yo t.toNatClampNeg) (mkG (yi t.toNatClampNeg)) (f_M_sealBlock (yc t.toNatClampNeg) (yd t.toNatClampNeg) (mkF (yi t.toNatClampNeg))) (f_M_sealBlock ((yc t.toNatClampNeg) ^^^ (-4557430892032688128 : Int64)) ((yd t.toNatClampNeg) ^^^ (-4557430892032688128 : Int64)) (mkF (yi t.toNatClampNeg))) (g_M_sealBlock_zmn (g_M_sealBlock_zmn yn (yc t.toNatClampNeg) (yd t.toNatClampNeg)) ((yc t.toNatClampNeg) ^^^ (-4557430892032688128 : Int64)) ((yd t.toNatClampNeg) ^^^ (-4557430892032688128 : Int64))) i).2.1), .long ((ck (yo t.toNatClampNeg) (mkG (yi t.toNatClampNeg)) (f_M_sealBlock (yc t.toNatClampNeg) (yd t.toNatClampNeg) (mkF (yi t.toNatClampNeg))) (f_M_sealBlock ((yc t.toNatClampNeg) ^^^ (-4557430892032688128 : Int64)) ((yd t.toNatClampNeg) ^^^ (-4557430892032688128 : Int64)) (mkF (yi t.toNatClampNeg))) (g_M_sealBlock_zmn (g_M_sealBlock_zmn yn (yc t.toNatClampNeg) (yd t.toNatClampNeg)) ((yc t.toNatClampNeg) ^^^ (-4557430892032688128 : Int64)) ((yd t.toNatClampNeg) ^^^ (-4557430892032688128 : Int64))) i).2.2.1), .int yw, .long yx], aI G zmp 32 tb_perm, aI G zm1 56 tb_c1, aI G zm2 48 tb_c2, aI G zmx 512 tb_box, aJ G zmh 6 yv, aZ G zmt 6 yt, aI G zmu 16 yu, aZ G zme 16 ye, aJ G zma 16 ya, aJ G zmb 16 yb, aZ G zmk 8 yk, aJ G zmc 8 yc, aJ G zmd 8 yd, aJ G zmi 8 yi, aI G zmo 8 yo, aJ G zmf 5 yf, aJ G zmg 8 yg, aJ G zmn 16 (rnd (((ck (yo t.toNatClampNeg) (mkG (yi t.toNatClampNeg)) (f_M_sealBlock (yc t.toNatClampNeg) (yd t.toNatClampNeg) (mkF (yi t.toNatClampNeg))) (f_M_sealBlock ((yc t.toNatClampNeg) ^^^ (-4557430892032688128 : Int64)) ((yd t.toNatClampNeg) ^^^ (-4557430892032688128 : Int64)) (mkF (yi t.toNatClampNeg))) (g_M_sealBlock_zmn (g_M_sealBlock_zmn yn (yc t.toNatClampNeg) (yd t.toNatClampNeg)) ((yc t.toNatClampNeg) ^^^ (-4557430892032688128 : Int64)) ((yd t.toNatClampNeg) ^^^ (-4557430892032688128 : Int64))) i).2.1) ^^^ (-4557430892032688128 : Int64)) (rnd ((ck (yo t.toNatClampNeg) (mkG (yi t.toNatClampNeg)) (f_M_sealBlock (yc t.toNatClampNeg) (yd t.toNatClampNeg) (mkF (yi t.toNatClampNeg))) (f_M_sealBlock ((yc t.toNatClampNeg) ^^^ (-4557430892032688128 : Int64)) ((yd t.toNatClampNeg) ^^^ (-4557430892032688128 : Int64)) (mkF (yi t.toNatClampNeg))) (g_M_sealBlock_zmn (g_M_sealBlock_zmn yn (yc t.toNatClampNeg) (yd t.toNatClampNeg)) ((yc t.toNatClampNeg) ^^^ (-4557430892032688128 : Int64)) ((yd t.toNatClampNeg) ^^^ (-4557430892032688128 : Int64))) i).2.1) ((ck (yo t.toNatClampNeg) (mkG (yi t.toNatClampNeg)) (f_M_sealBlock (yc t.toNatClampNeg) (yd t.toNatClampNeg) (mkF (yi t.toNatClampNeg))) (f_M_sealBlock ((yc t.toNatClampNeg) ^^^ (-4557430892032688128 : Int64)) ((yd t.toNatClampNeg) ^^^ (-4557430892032688128 : Int64)) (mkF (yi t.toNatClampNeg))) (g_M_sealBlock_zmn (g_M_sealBlock_zmn yn (yc t.toNatClampNeg) (yd t.toNatClampNeg)) ((yc t.toNatClampNeg) ^^^ (-4557430892032688128 : Int64)) ((yd t.toNatClampNeg) ^^^ (-4557430892032688128 : Int64))) i).2.2.2) 16) 16)]) rfl ?_
      refine pv_lload X 0 d_M_current_153 rfl ?_
      refine pv_lxor X d_M_current_155 ?_
      refine pv_put X (ty := .long) (ws2 := [ob zm 5 [.ref zmp, .ref zm1, .ref zm2, .ref zmx, .int th, .ref zmh, .ref zmt, .int ys, .long yl, .long yr, .ref zmu, .ref zme, .ref zma, .ref zmb, .ref zmk, .ref zmc, .ref zmd, .ref zmi, .ref zmo, .ref zmf, .ref zmg, .ref zmn, .long ((menc (((ck (yo t.toNatClampNeg) (mkG (yi t.toNatClampNeg)) (f_M_sealBlock (yc t.toNatClampNeg) (yd t.toNatClampNeg) (mkF (yi t.toNatClampNeg))) (f_M_sealBlock ((yc t.toNatClampNeg) ^^^ (-4557430892032688128 : Int64)) ((yd t.toNatClampNeg) ^^^ (-4557430892032688128 : Int64)) (mkF (yi t.toNatClampNeg))) (g_M_sealBlock_zmn (g_M_sealBlock_zmn yn (yc t.toNatClampNeg) (yd t.toNatClampNeg)) ((yc t.toNatClampNeg) ^^^ (-4557430892032688128 : Int64)) ((yd t.toNatClampNeg) ^^^ (-4557430892032688128 : Int64))) i).2.1) ^^^ (-4557430892032688128 : Int64)) ((((ck (yo t.toNatClampNeg) (mkG (yi t.toNatClampNeg)) (f_M_sealBlock (yc t.toNatClampNeg) (yd t.toNatClampNeg) (mkF (yi t.toNatClampNeg))) (f_M_sealBlock ((yc t.toNatClampNeg) ^^^ (-4557430892032688128 : Int64)) ((yd t.toNatClampNeg) ^^^ (-4557430892032688128 : Int64)) (mkF (yi t.toNatClampNeg))) (g_M_sealBlock_zmn (g_M_sealBlock_zmn yn (yc t.toNatClampNeg) (yd t.toNatClampNeg)) ((yc t.toNatClampNeg) ^^^ (-4557430892032688128 : Int64)) ((yd t.toNatClampNeg) ^^^ (-4557430892032688128 : Int64))) i).1) ||| ((1 : Int64) <<< ((bI i).toInt64 &&& 63))) ^^^ (((ck (yo t.toNatClampNeg) (mkG (yi t.toNatClampNeg)) (f_M_sealBlock (yc t.toNatClampNeg) (yd t.toNatClampNeg) (mkF (yi t.toNatClampNeg))) (f_M_sealBlock ((yc t.toNatClampNeg) ^^^ (-4557430892032688128 : Int64)) ((yd t.toNatClampNeg) ^^^ (-4557430892032688128 : Int64)) (mkF (yi t.toNatClampNeg))) (g_M_sealBlock_zmn (g_M_sealBlock_zmn yn (yc t.toNatClampNeg) (yd t.toNatClampNeg)) ((yc t.toNatClampNeg) ^^^ (-4557430892032688128 : Int64)) ((yd t.toNatClampNeg) ^^^ (-4557430892032688128 : Int64))) i).2.2.1) ^^^ (-4557430892032688128 : Int64)))) ^^^ (((ck (yo t.toNatClampNeg) (mkG (yi t.toNatClampNeg)) (f_M_sealBlock (yc t.toNatClampNeg) (yd t.toNatClampNeg) (mkF (yi t.toNatClampNeg))) (f_M_sealBlock ((yc t.toNatClampNeg) ^^^ (-4557430892032688128 : Int64)) ((yd t.toNatClampNeg) ^^^ (-4557430892032688128 : Int64)) (mkF (yi t.toNatClampNeg))) (g_M_sealBlock_zmn (g_M_sealBlock_zmn yn (yc t.toNatClampNeg) (yd t.toNatClampNeg)) ((yc t.toNatClampNeg) ^^^ (-4557430892032688128 : Int64)) ((yd t.toNatClampNeg) ^^^ (-4557430892032688128 : Int64))) i).2.2.1) ^^^ (-4557430892032688128 : Int64))), .long ((ck (yo t.toNatClampNeg) (mkG (yi t.toNatClampNeg)) (f_M_sealBlock (yc t.toNatClampNeg) (yd t.toNatClampNeg) (mkF (yi t.toNatClampNeg))) (f_M_sealBlock ((yc t.toNatClampNeg) ^^^ (-4557430892032688128 : Int64)) ((yd t.toNatClampNeg) ^^^ (-4557430892032688128 : Int64)) (mkF (yi t.toNatClampNeg))) (g_M_sealBlock_zmn (g_M_sealBlock_zmn yn (yc t.toNatClampNeg) (yd t.toNatClampNeg)) ((yc t.toNatClampNeg) ^^^ (-4557430892032688128 : Int64)) ((yd t.toNatClampNeg) ^^^ (-4557430892032688128 : Int64))) i).2.2.1), .int yw, .long yx], aI G zmp 32 tb_perm, aI G zm1 56 tb_c1, aI G zm2 48 tb_c2, aI G zmx 512 tb_box, aJ G zmh 6 yv, aZ G zmt 6 yt, aI G zmu 16 yu, aZ G zme 16 ye, aJ G zma 16 ya, aJ G zmb 16 yb, aZ G zmk 8 yk, aJ G zmc 8 yc, aJ G zmd 8 yd, aJ G zmi 8 yi, aI G zmo 8 yo, aJ G zmf 5 yf, aJ G zmg 8 yg, aJ G zmn 16 (rnd (((ck (yo t.toNatClampNeg) (mkG (yi t.toNatClampNeg)) (f_M_sealBlock (yc t.toNatClampNeg) (yd t.toNatClampNeg) (mkF (yi t.toNatClampNeg))) (f_M_sealBlock ((yc t.toNatClampNeg) ^^^ (-4557430892032688128 : Int64)) ((yd t.toNatClampNeg) ^^^ (-4557430892032688128 : Int64)) (mkF (yi t.toNatClampNeg))) (g_M_sealBlock_zmn (g_M_sealBlock_zmn yn (yc t.toNatClampNeg) (yd t.toNatClampNeg)) ((yc t.toNatClampNeg) ^^^ (-4557430892032688128 : Int64)) ((yd t.toNatClampNeg) ^^^ (-4557430892032688128 : Int64))) i).2.1) ^^^ (-4557430892032688128 : Int64)) (rnd ((ck (yo t.toNatClampNeg) (mkG (yi t.toNatClampNeg)) (f_M_sealBlock (yc t.toNatClampNeg) (yd t.toNatClampNeg) (mkF (yi t.toNatClampNeg))) (f_M_sealBlock ((yc t.toNatClampNeg) ^^^ (-4557430892032688128 : Int64)) ((yd t.toNatClampNeg) ^^^ (-4557430892032688128 : Int64)) (mkF (yi t.toNatClampNeg))) (g_M_sealBlock_zmn (g_M_sealBlock_zmn yn (yc t.toNatClampNeg) (yd t.toNatClampNeg)) ((yc t.toNatClampNeg) ^^^ (-4557430892032688128 : Int64)) ((yd t.toNatClampNeg) ^^^ (-4557430892032688128 : Int64))) i).2.1) ((ck (yo t.toNatClampNeg) (mkG (yi t.toNatClampNeg)) (f_M_sealBlock (yc t.toNatClampNeg) (yd t.toNatClampNeg) (mkF (yi t.toNatClampNeg))) (f_M_sealBlock ((yc t.toNatClampNeg) ^^^ (-4557430892032688128 : Int64)) ((yd t.toNatClampNeg) ^^^ (-4557430892032688128 : Int64)) (mkF (yi t.toNatClampNeg))) (g_M_sealBlock_zmn (g_M_sealBlock_zmn yn (yc t.toNatClampNeg) (yd t.toNatClampNeg)) ((yc t.toNatClampNeg) ^^^ (-4557430892032688128 : Int64)) ((yd t.toNatClampNeg) ^^^ (-4557430892032688128 : Int64))) i).2.2.2) 16) 16)]) 0 22 ty_M ty_M_ok n_M u_M_in m_596 rfl rfl (by decide) ⟨rfl, rfl, rfl⟩ rfl (by decide +kernel) rfl rfl (Nat.le_of_ble_eq_true rfl) rfl d_M_current_156 ?_
      refine pv_aload_n X 4 d_M_current_159 rfl ?_
      refine pv_lload X 1 d_M_current_160 rfl ?_
      refine pv_put X (ty := .long) (ws2 := [ob zm 5 [.ref zmp, .ref zm1, .ref zm2, .ref zmx, .int th, .ref zmh, .ref zmt, .int ys, .long yl, .long yr, .ref zmu, .ref zme, .ref zma, .ref zmb, .ref zmk, .ref zmc, .ref zmd, .ref zmi, .ref zmo, .ref zmf, .ref zmg, .ref zmn, .long ((menc (((ck (yo t.toNatClampNeg) (mkG (yi t.toNatClampNeg)) (f_M_sealBlock (yc t.toNatClampNeg) (yd t.toNatClampNeg) (mkF (yi t.toNatClampNeg))) (f_M_sealBlock ((yc t.toNatClampNeg) ^^^ (-4557430892032688128 : Int64)) ((yd t.toNatClampNeg) ^^^ (-4557430892032688128 : Int64)) (mkF (yi t.toNatClampNeg))) (g_M_sealBlock_zmn (g_M_sealBlock_zmn yn (yc t.toNatClampNeg) (yd t.toNatClampNeg)) ((yc t.toNatClampNeg) ^^^ (-4557430892032688128 : Int64)) ((yd t.toNatClampNeg) ^^^ (-4557430892032688128 : Int64))) i).2.1) ^^^ (-4557430892032688128 : Int64)) ((((ck (yo t.toNatClampNeg) (mkG (yi t.toNatClampNeg)) (f_M_sealBlock (yc t.toNatClampNeg) (yd t.toNatClampNeg) (mkF (yi t.toNatClampNeg))) (f_M_sealBlock ((yc t.toNatClampNeg) ^^^ (-4557430892032688128 : Int64)) ((yd t.toNatClampNeg) ^^^ (-4557430892032688128 : Int64)) (mkF (yi t.toNatClampNeg))) (g_M_sealBlock_zmn (g_M_sealBlock_zmn yn (yc t.toNatClampNeg) (yd t.toNatClampNeg)) ((yc t.toNatClampNeg) ^^^ (-4557430892032688128 : Int64)) ((yd t.toNatClampNeg) ^^^ (-4557430892032688128 : Int64))) i).1) ||| ((1 : Int64) <<< ((bI i).toInt64 &&& 63))) ^^^ (((ck (yo t.toNatClampNeg) (mkG (yi t.toNatClampNeg)) (f_M_sealBlock (yc t.toNatClampNeg) (yd t.toNatClampNeg) (mkF (yi t.toNatClampNeg))) (f_M_sealBlock ((yc t.toNatClampNeg) ^^^ (-4557430892032688128 : Int64)) ((yd t.toNatClampNeg) ^^^ (-4557430892032688128 : Int64)) (mkF (yi t.toNatClampNeg))) (g_M_sealBlock_zmn (g_M_sealBlock_zmn yn (yc t.toNatClampNeg) (yd t.toNatClampNeg)) ((yc t.toNatClampNeg) ^^^ (-4557430892032688128 : Int64)) ((yd t.toNatClampNeg) ^^^ (-4557430892032688128 : Int64))) i).2.2.1) ^^^ (-4557430892032688128 : Int64)))) ^^^ (((ck (yo t.toNatClampNeg) (mkG (yi t.toNatClampNeg)) (f_M_sealBlock (yc t.toNatClampNeg) (yd t.toNatClampNeg) (mkF (yi t.toNatClampNeg))) (f_M_sealBlock ((yc t.toNatClampNeg) ^^^ (-4557430892032688128 : Int64)) ((yd t.toNatClampNeg) ^^^ (-4557430892032688128 : Int64)) (mkF (yi t.toNatClampNeg))) (g_M_sealBlock_zmn (g_M_sealBlock_zmn yn (yc t.toNatClampNeg) (yd t.toNatClampNeg)) ((yc t.toNatClampNeg) ^^^ (-4557430892032688128 : Int64)) ((yd t.toNatClampNeg) ^^^ (-4557430892032688128 : Int64))) i).2.2.1) ^^^ (-4557430892032688128 : Int64))), .long ((menc ((ck (yo t.toNatClampNeg) (mkG (yi t.toNatClampNeg)) (f_M_sealBlock (yc t.toNatClampNeg) (yd t.toNatClampNeg) (mkF (yi t.toNatClampNeg))) (f_M_sealBlock ((yc t.toNatClampNeg) ^^^ (-4557430892032688128 : Int64)) ((yd t.toNatClampNeg) ^^^ (-4557430892032688128 : Int64)) (mkF (yi t.toNatClampNeg))) (g_M_sealBlock_zmn (g_M_sealBlock_zmn yn (yc t.toNatClampNeg) (yd t.toNatClampNeg)) ((yc t.toNatClampNeg) ^^^ (-4557430892032688128 : Int64)) ((yd t.toNatClampNeg) ^^^ (-4557430892032688128 : Int64))) i).2.1) ((((ck (yo t.toNatClampNeg) (mkG (yi t.toNatClampNeg)) (f_M_sealBlock (yc t.toNatClampNeg) (yd t.toNatClampNeg) (mkF (yi t.toNatClampNeg))) (f_M_sealBlock ((yc t.toNatClampNeg) ^^^ (-4557430892032688128 : Int64)) ((yd t.toNatClampNeg) ^^^ (-4557430892032688128 : Int64)) (mkF (yi t.toNatClampNeg))) (g_M_sealBlock_zmn (g_M_sealBlock_zmn yn (yc t.toNatClampNeg) (yd t.toNatClampNeg)) ((yc t.toNatClampNeg) ^^^ (-4557430892032688128 : Int64)) ((yd t.toNatClampNeg) ^^^ (-4557430892032688128 : Int64))) i).1) ||| ((1 : Int64) <<< ((bI i).toInt64 &&& 63))) ^^^ ((ck (yo t.toNatClampNeg) (mkG (yi t.toNatClampNeg)) (f_M_sealBlock (yc t.toNatClampNeg) (yd t.toNatClampNeg) (mkF (yi t.toNatClampNeg))) (f_M_sealBlock ((yc t.toNatClampNeg) ^^^ (-4557430892032688128 : Int64)) ((yd t.toNatClampNeg) ^^^ (-4557430892032688128 : Int64)) (mkF (yi t.toNatClampNeg))) (g_M_sealBlock_zmn (g_M_sealBlock_zmn yn (yc t.toNatClampNeg) (yd t.toNatClampNeg)) ((yc t.toNatClampNeg) ^^^ (-4557430892032688128 : Int64)) ((yd t.toNatClampNeg) ^^^ (-4557430892032688128 : Int64))) i).2.2.1))) ^^^ ((ck (yo t.toNatClampNeg) (mkG (yi t.toNatClampNeg)) (f_M_sealBlock (yc t.toNatClampNeg) (yd t.toNatClampNeg) (mkF (yi t.toNatClampNeg))) (f_M_sealBlock ((yc t.toNatClampNeg) ^^^ (-4557430892032688128 : Int64)) ((yd t.toNatClampNeg) ^^^ (-4557430892032688128 : Int64)) (mkF (yi t.toNatClampNeg))) (g_M_sealBlock_zmn (g_M_sealBlock_zmn yn (yc t.toNatClampNeg) (yd t.toNatClampNeg)) ((yc t.toNatClampNeg) ^^^ (-4557430892032688128 : Int64)) ((yd t.toNatClampNeg) ^^^ (-4557430892032688128 : Int64))) i).2.2.1)), .int yw, .long yx], aI G zmp 32 tb_perm, aI G zm1 56 tb_c1, aI G zm2 48 tb_c2, aI G zmx 512 tb_box, aJ G zmh 6 yv, aZ G zmt 6 yt, aI G zmu 16 yu, aZ G zme 16 ye, aJ G zma 16 ya, aJ G zmb 16 yb, aZ G zmk 8 yk, aJ G zmc 8 yc, aJ G zmd 8 yd, aJ G zmi 8 yi, aI G zmo 8 yo, aJ G zmf 5 yf, aJ G zmg 8 yg, aJ G zmn 16 (rnd (((ck (yo t.toNatClampNeg) (mkG (yi t.toNatClampNeg)) (f_M_sealBlock (yc t.toNatClampNeg) (yd t.toNatClampNeg) (mkF (yi t.toNatClampNeg))) (f_M_sealBlock ((yc t.toNatClampNeg) ^^^ (-4557430892032688128 : Int64)) ((yd t.toNatClampNeg) ^^^ (-4557430892032688128 : Int64)) (mkF (yi t.toNatClampNeg))) (g_M_sealBlock_zmn (g_M_sealBlock_zmn yn (yc t.toNatClampNeg) (yd t.toNatClampNeg)) ((yc t.toNatClampNeg) ^^^ (-4557430892032688128 : Int64)) ((yd t.toNatClampNeg) ^^^ (-4557430892032688128 : Int64))) i).2.1) ^^^ (-4557430892032688128 : Int64)) (rnd ((ck (yo t.toNatClampNeg) (mkG (yi t.toNatClampNeg)) (f_M_sealBlock (yc t.toNatClampNeg) (yd t.toNatClampNeg) (mkF (yi t.toNatClampNeg))) (f_M_sealBlock ((yc t.toNatClampNeg) ^^^ (-4557430892032688128 : Int64)) ((yd t.toNatClampNeg) ^^^ (-4557430892032688128 : Int64)) (mkF (yi t.toNatClampNeg))) (g_M_sealBlock_zmn (g_M_sealBlock_zmn yn (yc t.toNatClampNeg) (yd t.toNatClampNeg)) ((yc t.toNatClampNeg) ^^^ (-4557430892032688128 : Int64)) ((yd t.toNatClampNeg) ^^^ (-4557430892032688128 : Int64))) i).2.1) ((ck (yo t.toNatClampNeg) (mkG (yi t.toNatClampNeg)) (f_M_sealBlock (yc t.toNatClampNeg) (yd t.toNatClampNeg) (mkF (yi t.toNatClampNeg))) (f_M_sealBlock ((yc t.toNatClampNeg) ^^^ (-4557430892032688128 : Int64)) ((yd t.toNatClampNeg) ^^^ (-4557430892032688128 : Int64)) (mkF (yi t.toNatClampNeg))) (g_M_sealBlock_zmn (g_M_sealBlock_zmn yn (yc t.toNatClampNeg) (yd t.toNatClampNeg)) ((yc t.toNatClampNeg) ^^^ (-4557430892032688128 : Int64)) ((yd t.toNatClampNeg) ^^^ (-4557430892032688128 : Int64))) i).2.2.2) 16) 16)]) 0 23 ty_M ty_M_ok n_M u_M_in m_597 rfl rfl (by decide) ⟨rfl, rfl, rfl⟩ rfl (by decide +kernel) rfl rfl (Nat.le_of_ble_eq_true rfl) rfl d_M_current_162 ?_
      refine pv_lpick (ll2 := [(6, .int (bI i)), (2, .long (((ck (yo t.toNatClampNeg) (mkG (yi t.toNatClampNeg)) (f_M_sealBlock (yc t.toNatClampNeg) (yd t.toNatClampNeg) (mkF (yi t.toNatClampNeg))) (f_M_sealBlock ((yc t.toNatClampNeg) ^^^ (-4557430892032688128 : Int64)) ((yd t.toNatClampNeg) ^^^ (-4557430892032688128 : Int64)) (mkF (yi t.toNatClampNeg))) (g_M_sealBlock_zmn (g_M_sealBlock_zmn yn (yc t.toNatClampNeg) (yd t.toNatClampNeg)) ((yc t.toNatClampNeg) ^^^ (-4557430892032688128 : Int64)) ((yd t.toNatClampNeg) ^^^ (-4557430892032688128 : Int64))) i).1) ||| ((1 : Int64) <<< ((bI i).toInt64 &&& 63)))), (0, .ref zm), (1, .int t)]) [3, 2, 4, 5] rfl ?_
      refine pv_eql (ll2 := [(6, .int (bI i)), (2, .long ((ck (yo t.toNatClampNeg) (mkG (yi t.toNatClampNeg)) (f_M_sealBlock (yc t.toNatClampNeg) (yd t.toNatClampNeg) (mkF (yi t.toNatClampNeg))) (f_M_sealBlock ((yc t.toNatClampNeg) ^^^ (-4557430892032688128 : Int64)) ((yd t.toNatClampNeg) ^^^ (-4557430892032688128 : Int64)) (mkF (yi t.toNatClampNeg))) (g_M_sealBlock_zmn (g_M_sealBlock_zmn yn (yc t.toNatClampNeg) (yd t.toNatClampNeg)) ((yc t.toNatClampNeg) ^^^ (-4557430892032688128 : Int64)) ((yd t.toNatClampNeg) ^^^ (-4557430892032688128 : Int64))) (i + 1)).1)), (0, .ref zm), (1, .int t)]) (by simp only [ck, if_pos h3n]) ?_
      refine pv_eqw (ws2 := [ob zm 5 [.ref zmp, .ref zm1, .ref zm2, .ref zmx, .int th, .ref zmh, .ref zmt, .int ys, .long yl, .long yr, .ref zmu, .ref zme, .ref zma, .ref zmb, .ref zmk, .ref zmc, .ref zmd, .ref zmi, .ref zmo, .ref zmf, .ref zmg, .ref zmn, .long ((ck (yo t.toNatClampNeg) (mkG (yi t.toNatClampNeg)) (f_M_sealBlock (yc t.toNatClampNeg) (yd t.toNatClampNeg) (mkF (yi t.toNatClampNeg))) (f_M_sealBlock ((yc t.toNatClampNeg) ^^^ (-4557430892032688128 : Int64)) ((yd t.toNatClampNeg) ^^^ (-4557430892032688128 : Int64)) (mkF (yi t.toNatClampNeg))) (g_M_sealBlock_zmn (g_M_sealBlock_zmn yn (yc t.toNatClampNeg) (yd t.toNatClampNeg)) ((yc t.toNatClampNeg) ^^^ (-4557430892032688128 : Int64)) ((yd t.toNatClampNeg) ^^^ (-4557430892032688128 : Int64))) (i + 1)).2.1), .long ((ck (yo t.toNatClampNeg) (mkG (yi t.toNatClampNeg)) (f_M_sealBlock (yc t.toNatClampNeg) (yd t.toNatClampNeg) (mkF (yi t.toNatClampNeg))) (f_M_sealBlock ((yc t.toNatClampNeg) ^^^ (-4557430892032688128 : Int64)) ((yd t.toNatClampNeg) ^^^ (-4557430892032688128 : Int64)) (mkF (yi t.toNatClampNeg))) (g_M_sealBlock_zmn (g_M_sealBlock_zmn yn (yc t.toNatClampNeg) (yd t.toNatClampNeg)) ((yc t.toNatClampNeg) ^^^ (-4557430892032688128 : Int64)) ((yd t.toNatClampNeg) ^^^ (-4557430892032688128 : Int64))) (i + 1)).2.2.1), .int yw, .long yx], aI G zmp 32 tb_perm, aI G zm1 56 tb_c1, aI G zm2 48 tb_c2, aI G zmx 512 tb_box, aJ G zmh 6 yv, aZ G zmt 6 yt, aI G zmu 16 yu, aZ G zme 16 ye, aJ G zma 16 ya, aJ G zmb 16 yb, aZ G zmk 8 yk, aJ G zmc 8 yc, aJ G zmd 8 yd, aJ G zmi 8 yi, aI G zmo 8 yo, aJ G zmf 5 yf, aJ G zmg 8 yg, aJ G zmn 16 ((ck (yo t.toNatClampNeg) (mkG (yi t.toNatClampNeg)) (f_M_sealBlock (yc t.toNatClampNeg) (yd t.toNatClampNeg) (mkF (yi t.toNatClampNeg))) (f_M_sealBlock ((yc t.toNatClampNeg) ^^^ (-4557430892032688128 : Int64)) ((yd t.toNatClampNeg) ^^^ (-4557430892032688128 : Int64)) (mkF (yi t.toNatClampNeg))) (g_M_sealBlock_zmn (g_M_sealBlock_zmn yn (yc t.toNatClampNeg) (yd t.toNatClampNeg)) ((yc t.toNatClampNeg) ^^^ (-4557430892032688128 : Int64)) ((yd t.toNatClampNeg) ^^^ (-4557430892032688128 : Int64))) (i + 1)).2.2.2)]) (by simp only [ck, if_pos h3n]) ?_
      refine pv_iinc (ll2 := [(6, .int (bI (i + 1))), (2, .long ((ck (yo t.toNatClampNeg) (mkG (yi t.toNatClampNeg)) (f_M_sealBlock (yc t.toNatClampNeg) (yd t.toNatClampNeg) (mkF (yi t.toNatClampNeg))) (f_M_sealBlock ((yc t.toNatClampNeg) ^^^ (-4557430892032688128 : Int64)) ((yd t.toNatClampNeg) ^^^ (-4557430892032688128 : Int64)) (mkF (yi t.toNatClampNeg))) (g_M_sealBlock_zmn (g_M_sealBlock_zmn yn (yc t.toNatClampNeg) (yd t.toNatClampNeg)) ((yc t.toNatClampNeg) ^^^ (-4557430892032688128 : Int64)) ((yd t.toNatClampNeg) ^^^ (-4557430892032688128 : Int64))) (i + 1)).1)), (0, .ref zm), (1, .int t)]) X 0 (bI (i + 1)) d_M_current_165 rfl (bI_s i h_i) (by decide) rfl ?_
      refine pv_goto X 76 d_M_current_168 rfl ?_
      refine pv_lpick (ll2 := [(6, .int (bI (i + 1))), (2, .long ((ck (yo t.toNatClampNeg) (mkG (yi t.toNatClampNeg)) (f_M_sealBlock (yc t.toNatClampNeg) (yd t.toNatClampNeg) (mkF (yi t.toNatClampNeg))) (f_M_sealBlock ((yc t.toNatClampNeg) ^^^ (-4557430892032688128 : Int64)) ((yd t.toNatClampNeg) ^^^ (-4557430892032688128 : Int64)) (mkF (yi t.toNatClampNeg))) (g_M_sealBlock_zmn (g_M_sealBlock_zmn yn (yc t.toNatClampNeg) (yd t.toNatClampNeg)) ((yc t.toNatClampNeg) ^^^ (-4557430892032688128 : Int64)) ((yd t.toNatClampNeg) ^^^ (-4557430892032688128 : Int64))) (i + 1)).1)), (0, .ref zm), (1, .int t)]) [0, 1, 2, 3] rfl ?_
      refine pv_eqw (ws2 := [ob zm 5 [.ref zmp, .ref zm1, .ref zm2, .ref zmx, .int th, .ref zmh, .ref zmt, .int ys, .long yl, .long yr, .ref zmu, .ref zme, .ref zma, .ref zmb, .ref zmk, .ref zmc, .ref zmd, .ref zmi, .ref zmo, .ref zmf, .ref zmg, .ref zmn, .long ((ck (yo t.toNatClampNeg) (mkG (yi t.toNatClampNeg)) (f_M_sealBlock (yc t.toNatClampNeg) (yd t.toNatClampNeg) (mkF (yi t.toNatClampNeg))) (f_M_sealBlock ((yc t.toNatClampNeg) ^^^ (-4557430892032688128 : Int64)) ((yd t.toNatClampNeg) ^^^ (-4557430892032688128 : Int64)) (mkF (yi t.toNatClampNeg))) (g_M_sealBlock_zmn (g_M_sealBlock_zmn yn (yc t.toNatClampNeg) (yd t.toNatClampNeg)) ((yc t.toNatClampNeg) ^^^ (-4557430892032688128 : Int64)) ((yd t.toNatClampNeg) ^^^ (-4557430892032688128 : Int64))) (i + 1)).2.1), .long ((ck (yo t.toNatClampNeg) (mkG (yi t.toNatClampNeg)) (f_M_sealBlock (yc t.toNatClampNeg) (yd t.toNatClampNeg) (mkF (yi t.toNatClampNeg))) (f_M_sealBlock ((yc t.toNatClampNeg) ^^^ (-4557430892032688128 : Int64)) ((yd t.toNatClampNeg) ^^^ (-4557430892032688128 : Int64)) (mkF (yi t.toNatClampNeg))) (g_M_sealBlock_zmn (g_M_sealBlock_zmn yn (yc t.toNatClampNeg) (yd t.toNatClampNeg)) ((yc t.toNatClampNeg) ^^^ (-4557430892032688128 : Int64)) ((yd t.toNatClampNeg) ^^^ (-4557430892032688128 : Int64))) (i + 1)).2.2.1), .int yw, .long yx], aI G zmp 32 tb_perm, aI G zm1 56 tb_c1, aI G zm2 48 tb_c2, aI G zmx 512 tb_box, aJ G zmh 6 yv, aZ G zmt 6 yt, aI G zmu 16 yu, aZ G zme 16 ye, aJ G zma 16 ya, aJ G zmb 16 yb, aZ G zmk 8 yk, aJ G zmc 8 yc, aJ G zmd 8 yd, aJ G zmi 8 yi, aI G zmo 8 yo, aJ G zmf 5 yf, aJ G zmg 8 yg, aJ G zmn 16 ((ck (yo t.toNatClampNeg) (mkG (yi t.toNatClampNeg)) (f_M_sealBlock (yc t.toNatClampNeg) (yd t.toNatClampNeg) (mkF (yi t.toNatClampNeg))) (f_M_sealBlock ((yc t.toNatClampNeg) ^^^ (-4557430892032688128 : Int64)) ((yd t.toNatClampNeg) ^^^ (-4557430892032688128 : Int64)) (mkF (yi t.toNatClampNeg))) (g_M_sealBlock_zmn (g_M_sealBlock_zmn yn (yc t.toNatClampNeg) (yd t.toNatClampNeg)) ((yc t.toNatClampNeg) ^^^ (-4557430892032688128 : Int64)) ((yd t.toNatClampNeg) ^^^ (-4557430892032688128 : Int64))) (i + 1)).2.2.2)]) rfl ?_
      exact ih_i trivial
def f_M_check (ys : Int32) (yu : Nat → Int32) (ya : Nat → Int64) (yb : Nat → Int64) (yk : Nat → Int32) (yc : Nat → Int64) (yd : Nat → Int64) (yi : Nat → Int64) (yo : Nat → Int32) (yn : Nat → Int64) (k : Int32) : Int32 := if ys = 0 then (-1) else (if (f_M_in k.toInt64 (0 : Int64) (23 : Int64)) = 0 then (-2) else (if 16 ≤ k then (if (yk (k - 16).toNatClampNeg) = 0 then (-3) else (f_M_checkOf (g_M_current_zm_22 yc yd yi yo yn (k - 16)) (g_M_current_zm_23 yc yd yi yo yn (k - 16)))) else (if (0 : Int32) ≤ (yu k.toNatClampNeg) then (f_M_checkOf (ya k.toNatClampNeg) (yb k.toNatClampNeg)) else (-3))))
def g_M_check_zm_4  : Int32 := 0
abbrev rm_M_check : Room := { frames := 5, cells := 0, slots := 0, locals := 146 }
theorem mf_M_check : MF y_M_check b_M_check 2 (some .int) 1 := ⟨m_803, m_6, by decide, by decide, by decide +kernel⟩
theorem d_M_check_0 : decode b_M_check 0 = .ok (.aload_n 0, 1) := by decide +kernel
theorem d_M_check_1 : decode b_M_check 1 = .ok (.iconst 0, 1) := by decide +kernel
theorem d_M_check_2 : decode b_M_check 2 = .ok (.putfield 66, 3) := by decide +kernel
theorem d_M_check_5 : decode b_M_check 5 = .ok (.aload_n 0, 1) := by decide +kernel
theorem d_M_check_6 : decode b_M_check 6 = .ok (.getfield 108, 3) := by decide +kernel
theorem d_M_check_9 : decode b_M_check 9 = .ok (.ifCond .ne 5, 3) := by decide +kernel
theorem d_M_check_12 : decode b_M_check 12 = .ok (.iconst (-1), 1) := by decide +kernel
theorem d_M_check_13 : decode b_M_check 13 = .ok (.ireturn, 1) := by decide +kernel
theorem d_M_check_14 : decode b_M_check 14 = .ok (.iload_n 1, 1) := by decide +kernel
theorem d_M_check_15 : decode b_M_check 15 = .ok (.i2l, 1) := by decide +kernel
theorem d_M_check_16 : decode b_M_check 16 = .ok (.lconst 0, 1) := by decide +kernel
theorem d_M_check_17 : decode b_M_check 17 = .ok (.ldc2_w 211, 3) := by decide +kernel
theorem d_M_check_20 : decode b_M_check 20 = .ok (.invokestatic 104, 3) := by decide +kernel
theorem d_M_check_23 : decode b_M_check 23 = .ok (.ifCond .ne 6, 3) := by decide +kernel
theorem d_M_check_26 : decode b_M_check 26 = .ok (.bipush (-2), 2) := by decide +kernel
theorem d_M_check_28 : decode b_M_check 28 = .ok (.ireturn, 1) := by decide +kernel
theorem d_M_check_29 : decode b_M_check 29 = .ok (.iload_n 1, 1) := by decide +kernel
theorem d_M_check_30 : decode b_M_check 30 = .ok (.bipush 16, 2) := by decide +kernel
theorem d_M_check_32 : decode b_M_check 32 = .ok (.if_icmp .ge 15, 3) := by decide +kernel
theorem d_M_check_35 : decode b_M_check 35 = .ok (.aload_n 0, 1) := by decide +kernel
theorem d_M_check_36 : decode b_M_check 36 = .ok (.getfield 30, 3) := by decide +kernel
theorem d_M_check_39 : decode b_M_check 39 = .ok (.iload_n 1, 1) := by decide +kernel
theorem d_M_check_40 : decode b_M_check 40 = .ok (.iaload, 1) := by decide +kernel
theorem d_M_check_41 : decode b_M_check 41 = .ok (.ifCond .ge 21, 3) := by decide +kernel
theorem d_M_check_44 : decode b_M_check 44 = .ok (.goto 15, 3) := by decide +kernel
theorem d_M_check_47 : decode b_M_check 47 = .ok (.aload_n 0, 1) := by decide +kernel
theorem d_M_check_48 : decode b_M_check 48 = .ok (.getfield 42, 3) := by decide +kernel
theorem d_M_check_51 : decode b_M_check 51 = .ok (.iload_n 1, 1) := by decide +kernel
theorem d_M_check_52 : decode b_M_check 52 = .ok (.bipush 16, 2) := by decide +kernel
theorem d_M_check_54 : decode b_M_check 54 = .ok (.isub, 1) := by decide +kernel
theorem d_M_check_55 : decode b_M_check 55 = .ok (.baload, 1) := by decide +kernel
theorem d_M_check_56 : decode b_M_check 56 = .ok (.ifCond .ne 6, 3) := by decide +kernel
theorem d_M_check_59 : decode b_M_check 59 = .ok (.bipush (-3), 2) := by decide +kernel
theorem d_M_check_61 : decode b_M_check 61 = .ok (.ireturn, 1) := by decide +kernel
theorem d_M_check_62 : decode b_M_check 62 = .ok (.iload_n 1, 1) := by decide +kernel
theorem d_M_check_63 : decode b_M_check 63 = .ok (.bipush 16, 2) := by decide +kernel
theorem d_M_check_65 : decode b_M_check 65 = .ok (.if_icmp .ge 20, 3) := by decide +kernel
theorem d_M_check_68 : decode b_M_check 68 = .ok (.aload_n 0, 1) := by decide +kernel
theorem d_M_check_69 : decode b_M_check 69 = .ok (.aload_n 0, 1) := by decide +kernel
theorem d_M_check_70 : decode b_M_check 70 = .ok (.getfield 36, 3) := by decide +kernel
theorem d_M_check_73 : decode b_M_check 73 = .ok (.iload_n 1, 1) := by decide +kernel
theorem d_M_check_74 : decode b_M_check 74 = .ok (.laload, 1) := by decide +kernel
theorem d_M_check_75 : decode b_M_check 75 = .ok (.aload_n 0, 1) := by decide +kernel
theorem d_M_check_76 : decode b_M_check 76 = .ok (.getfield 39, 3) := by decide +kernel
theorem d_M_check_79 : decode b_M_check 79 = .ok (.iload_n 1, 1) := by decide +kernel
theorem d_M_check_80 : decode b_M_check 80 = .ok (.laload, 1) := by decide +kernel
theorem d_M_check_81 : decode b_M_check 81 = .ok (.invokevirtual 127, 3) := by decide +kernel
theorem d_M_check_84 : decode b_M_check 84 = .ok (.ireturn, 1) := by decide +kernel
theorem d_M_check_85 : decode b_M_check 85 = .ok (.aload_n 0, 1) := by decide +kernel
theorem d_M_check_86 : decode b_M_check 86 = .ok (.iload_n 1, 1) := by decide +kernel
theorem d_M_check_87 : decode b_M_check 87 = .ok (.bipush 16, 2) := by decide +kernel
theorem d_M_check_89 : decode b_M_check 89 = .ok (.isub, 1) := by decide +kernel
theorem d_M_check_90 : decode b_M_check 90 = .ok (.invokevirtual 213, 3) := by decide +kernel
theorem d_M_check_93 : decode b_M_check 93 = .ok (.aload_n 0, 1) := by decide +kernel
theorem d_M_check_94 : decode b_M_check 94 = .ok (.aload_n 0, 1) := by decide +kernel
theorem d_M_check_95 : decode b_M_check 95 = .ok (.getfield 203, 3) := by decide +kernel
theorem d_M_check_98 : decode b_M_check 98 = .ok (.aload_n 0, 1) := by decide +kernel
theorem d_M_check_99 : decode b_M_check 99 = .ok (.getfield 208, 3) := by decide +kernel
theorem d_M_check_102 : decode b_M_check 102 = .ok (.invokevirtual 127, 3) := by decide +kernel
theorem d_M_check_105 : decode b_M_check 105 = .ok (.ireturn, 1) := by decide +kernel
set_option maxRecDepth 100000 in
set_option maxHeartbeats 4000000 in
theorem c_M_check (l : Launch) (G : Gt) (zm zmp zm1 zm2 zmx zmh zmt zmu zme zma zmb zmk zmc zmd zmi zmo zmf zmg zmn : Nat) (th ys : Int32) (yl yr : Int64) (yv : Nat → Int64) (yt yu ye : Nat → Int32) (ya yb : Nat → Int64) (yk : Nat → Int32) (yc yd yi : Nat → Int64) (yo : Nat → Int32) (yf yg yn : Nat → Int64) (yp yq : Int64) (yw : Int32) (yx : Int64) (k : Int32) : CtI l G y_M_check b_M_check 2 (some .int) rm_M_check E0 [.ref zm, .int k] [ob zm 5 [.ref zmp, .ref zm1, .ref zm2, .ref zmx, .int th, .ref zmh, .ref zmt, .int ys, .long yl, .long yr, .ref zmu, .ref zme, .ref zma, .ref zmb, .ref zmk, .ref zmc, .ref zmd, .ref zmi, .ref zmo, .ref zmf, .ref zmg, .ref zmn, .long yp, .long yq, .int yw, .long yx], aI G zmp 32 tb_perm, aI G zm1 56 tb_c1, aI G zm2 48 tb_c2, aI G zmx 512 tb_box, aJ G zmh 6 yv, aZ G zmt 6 yt, aI G zmu 16 yu, aZ G zme 16 ye, aJ G zma 16 ya, aJ G zmb 16 yb, aZ G zmk 8 yk, aJ G zmc 8 yc, aJ G zmd 8 yd, aJ G zmi 8 yi, aI G zmo 8 yo, aJ G zmf 5 yf, aJ G zmg 8 yg, aJ G zmn 16 yn] (fun r (_ : (Nat → Int64) × Int64 × Int64) => r = f_M_check ys yu ya yb yk yc yd yi yo yn k) (fun x => [ob zm 5 [.ref zmp, .ref zm1, .ref zm2, .ref zmx, .int g_M_check_zm_4, .ref zmh, .ref zmt, .int ys, .long yl, .long yr, .ref zmu, .ref zme, .ref zma, .ref zmb, .ref zmk, .ref zmc, .ref zmd, .ref zmi, .ref zmo, .ref zmf, .ref zmg, .ref zmn, .long x.2.1, .long x.2.2, .int yw, .long yx], aI G zmp 32 tb_perm, aI G zm1 56 tb_c1, aI G zm2 48 tb_c2, aI G zmx 512 tb_box, aJ G zmh 6 yv, aZ G zmt 6 yt, aI G zmu 16 yu, aZ G zme 16 ye, aJ G zma 16 ya, aJ G zmb 16 yb, aZ G zmk 8 yk, aJ G zmc 8 yc, aJ G zmd 8 yd, aJ G zmi 8 yi, aI G zmo 8 yo, aJ G zmf 5 yf, aJ G zmg 8 yg, aJ G zmn 16 x.1]) 0 0 := by
  refine Ct.of (Qp := fun A => va_Qi _ (qB G A _) A) Stb_0 (by decide) (Nat.le_of_ble_eq_true rfl) ?_
  intro p e s m args below meth c A X hE hr hlk hini
  refine pv_eql (ll2 := [(0, .ref zm), (1, .int k)]) rfl ?_
  refine pv_aload_n X 0 d_M_check_0 rfl ?_
  refine pv_iconst X 0 d_M_check_1 (by decide) ?_
  refine pv_put X (ty := .int) (ws2 := [ob zm 5 [.ref zmp, .ref zm1, .ref zm2, .ref zmx, .int 0, .ref zmh, .ref zmt, .int ys, .long yl, .long yr, .ref zmu, .ref zme, .ref zma, .ref zmb, .ref zmk, .ref zmc, .ref zmd, .ref zmi, .ref zmo, .ref zmf, .ref zmg, .ref zmn, .long yp, .long yq, .int yw, .long yx], aI G zmp 32 tb_perm, aI G zm1 56 tb_c1, aI G zm2 48 tb_c2, aI G zmx 512 tb_box, aJ G zmh 6 yv, aZ G zmt 6 yt, aI G zmu 16 yu, aZ G zme 16 ye, aJ G zma 16 ya, aJ G zmb 16 yb, aZ G zmk 8 yk, aJ G zmc 8 yc, aJ G zmd 8 yd, aJ G zmi 8 yi, aI G zmo 8 yo, aJ G zmf 5 yf, aJ G zmg 8 yg, aJ G zmn 16 yn]) 0 4 ty_M ty_M_ok n_M u_M_in m_578 rfl rfl (by decide) ⟨rfl, rfl, rfl⟩ rfl (by decide +kernel) rfl rfl (Nat.le_of_ble_eq_true rfl) rfl d_M_check_2 ?_
  refine pv_aload_n X 0 d_M_check_5 rfl ?_
  refine pv_get X 0 7 u_M_in m_581 rfl rfl (by decide) ⟨rfl, rfl, rfl⟩ rfl d_M_check_6 ?_
  refine pv_if_ne X 14 d_M_check_9 rfl (fun h1 => ?_) (fun h1n => ?_)
  · skip
    refine pv_iload_n X 1 d_M_check_14 rfl ?_
    refine pv_i2l X d_M_check_15 ?_
    refine pv_lconst X 0 d_M_check_16 (by decide) ?_
    refine pv_ldc2_w X m_804 d_M_check_17 ?_
    refine pv_calli0 X (rn_S X (c_M_in l G k.toInt64 (0 : Int64) (23 : Int64)) trivial mf_M_in m_662 m_663 rfl (by decide) (by decide) rfl (Nat.le_of_ble_eq_true rfl) d_M_check_20) ?_
    refine pv_if_ne X 29 d_M_check_23 rfl (fun h3 => ?_) (fun h3n => ?_)
    · skip
      refine pv_iload_n X 1 d_M_check_29 rfl ?_
      refine pv_bipush X 16 d_M_check_30 (by decide) ?_
      refine pv_icmp_ge X 47 d_M_check_32 rfl (fun h4 => ?_) (fun h4n => ?_)
      · skip
        refine pv_aload_n X 0 d_M_check_47 rfl ?_
        refine pv_get X 0 14 u_M_in m_588 rfl rfl (by decide) ⟨rfl, rfl, rfl⟩ rfl d_M_check_48 ?_
        refine pv_iload_n X 1 d_M_check_51 rfl ?_
        refine pv_bipush X 16 d_M_check_52 (by decide) ?_
        refine pv_isub X d_M_check_54 ?_
        refine pv_zald X 11 rfl (MK_in2 h3 h4) d_M_check_55 ?_
        refine pv_if_ne X 62 d_M_check_56 rfl (fun h5 => ?_) (fun h5n => ?_)
        · skip
          refine pv_iload_n X 1 d_M_check_62 rfl ?_
          refine pv_bipush X 16 d_M_check_63 (by decide) ?_
          refine pv_icmp_ge X 85 d_M_check_65 rfl (fun _ => ?_) (fun h => absurd h4 h)
          refine pv_aload_n X 0 d_M_check_85 rfl ?_
          refine pv_iload_n X 1 d_M_check_86 rfl ?_
          refine pv_bipush X 16 d_M_check_87 (by decide) ?_
          refine pv_isub X d_M_check_89 ?_
          refine pv_callv X (Cut.all _) (rn_V X (c_M_current l G zm zmp zm1 zm2 zmx zmh zmt zmu zme zma zmb zmk zmc zmd zmi zmo zmf zmg zmn 0 ys yl yr yv yt yu ye ya yb yk yc yd yi yo yf yg yn yp yq yw yx (k - 16) (MK_in2 h3 h4)) trivial mf_M_current m_805 m_807 ms_21 rfl 0 rfl rfl rfl (by decide) (by decide) rfl (Nat.le_of_ble_eq_true rfl) d_M_check_90) (fun x6 e6 => ?_)
          refine pv_eqw (ws2 := [ob zm 5 [.ref zmp, .ref zm1, .ref zm2, .ref zmx, .int 0, .ref zmh, .ref zmt, .int ys, .long yl, .long yr, .ref zmu, .ref zme, .ref zma, .ref zmb, .ref zmk, .ref zmc, .ref zmd, .ref zmi, .ref zmo, .ref zmf, .ref zmg, .ref zmn, .long (g_M_current_zm_22 yc yd yi yo yn (k - 16)), .long (g_M_current_zm_23 yc yd yi yo yn (k - 16)), .int yw, .long yx], aI G zmp 32 tb_perm, aI G zm1 56 tb_c1, aI G zm2 48 tb_c2, aI G zmx 512 tb_box, aJ G zmh 6 yv, aZ G zmt 6 yt, aI G zmu 16 yu, aZ G zme 16 ye, aJ G zma 16 ya, aJ G zmb 16 yb, aZ G zmk 8 yk, aJ G zmc 8 yc, aJ G zmd 8 yd, aJ G zmi 8 yi, aI G zmo 8 yo, aJ G zmf 5 yf, aJ G zmg 8 yg, aJ G zmn 16 (g_M_current_zmn yc yd yi yo yn (k - 16))]) rfl ?_
          refine pv_aload_n X 0 d_M_check_93 rfl ?_
          refine pv_aload_n X 0 d_M_check_94 rfl ?_
          refine pv_get X 0 22 u_M_in m_596 rfl rfl (by decide) ⟨rfl, rfl, rfl⟩ rfl d_M_check_95 ?_
          refine pv_aload_n X 0 d_M_check_98 rfl ?_
          refine pv_get X 0 23 u_M_in m_597 rfl rfl (by decide) ⟨rfl, rfl, rfl⟩ rfl d_M_check_99 ?_
          refine pv_calliE X (Cut.all _) (rn_V X (c_M_checkOf l G zm zmp zm1 zm2 zmx zmh zmt zmu zme zma zmb zmk zmc zmd zmi zmo zmf zmg zmn 0 ys yl yr yv yt yu ye ya yb yk yc yd yi yo yf yg (g_M_current_zmn yc yd yi yo yn (k - 16)) (g_M_current_zm_22 yc yd yi yo yn (k - 16)) (g_M_current_zm_23 yc yd yi yo yn (k - 16)) yw yx (g_M_current_zm_22 yc yd yi yo yn (k - 16)) (g_M_current_zm_23 yc yd yi yo yn (k - 16)) ) trivial mf_M_checkOf m_678 m_680 ms_13 rfl 0 rfl rfl rfl (by decide) (by decide) rfl (Nat.le_of_ble_eq_true rfl) d_M_check_102) (fun x7 => ?_)
          refine pv_eqw (ws2 := [ob zm 5 [.ref zmp, .ref zm1, .ref zm2, .ref zmx, .int 0, .ref zmh, .ref zmt, .int ys, .long yl, .long yr, .ref zmu, .ref zme, .ref zma, .ref zmb, .ref zmk, .ref zmc, .ref zmd, .ref zmi, .ref zmo, .ref zmf, .ref zmg, .ref zmn, .long (g_M_current_zm_22 yc yd yi yo yn (k - 16)), .long (g_M_current_zm_23 yc yd yi yo yn (k - 16)), .int yw, .long yx], aI G zmp 32 tb_perm, aI G zm1 56 tb_c1, aI G zm2 48 tb_c2, aI G zmx 512 tb_box, aJ G zmh 6 yv, aZ G zmt 6 yt, aI G zmu 16 yu, aZ G zme 16 ye, aJ G zma 16 ya, aJ G zmb 16 yb, aZ G zmk 8 yk, aJ G zmc 8 yc, aJ G zmd 8 yd, aJ G zmi 8 yi, aI G zmo 8 yo, aJ G zmf 5 yf, aJ G zmg 8 yg, aJ G zmn 16 (g_M_checkOf_zmn (g_M_current_zmn yc yd yi yo yn (k - 16)) (g_M_current_zm_22 yc yd yi yo yn (k - 16)) (g_M_current_zm_23 yc yd yi yo yn (k - 16)))]) rfl ?_
          exact pv_iret X hr hlk (g_M_checkOf_zmn (g_M_current_zmn yc yd yi yo yn (k - 16)) (g_M_current_zm_22 yc yd yi yo yn (k - 16)) (g_M_current_zm_23 yc yd yi yo yn (k - 16)), g_M_current_zm_22 yc yd yi yo yn (k - 16), g_M_current_zm_23 yc yd yi yo yn (k - 16)) (by show _ = f_M_check ys yu ya yb yk yc yd yi yo yn k; simp only [f_M_check, if_neg h1, if_neg h3, if_pos h4, if_neg h5]) (by simp only [g_M_check_zm_4, if_neg h1, if_neg h3, if_pos h4, if_neg h5]) d_M_check_105
        · skip
          refine pv_bipush X (-3) d_M_check_59 (by decide) ?_
          exact pv_iret X hr hlk (yn, yp, yq) (by show _ = f_M_check ys yu ya yb yk yc yd yi yo yn k; simp only [f_M_check, if_neg h1, if_neg h3, if_pos h4, if_pos h5n]) (by simp only [g_M_check_zm_4, if_neg h1, if_neg h3, if_pos h4, if_pos h5n]) d_M_check_61
      · skip
        refine pv_aload_n X 0 d_M_check_35 rfl ?_
        refine pv_get X 0 10 u_M_in m_584 rfl rfl (by decide) ⟨rfl, rfl, rfl⟩ rfl d_M_check_36 ?_
        refine pv_iload_n X 1 d_M_check_39 rfl ?_
        refine pv_iald X 7 rfl (MK_in1 h3 h4n) d_M_check_40 ?_
        refine pv_if_ge X 62 d_M_check_41 rfl (fun h8 => ?_) (fun h8n => ?_)
        · skip
          refine pv_iload_n X 1 d_M_check_62 rfl ?_
          refine pv_bipush X 16 d_M_check_63 (by decide) ?_
          refine pv_icmp_ge X 85 d_M_check_65 rfl (fun h => absurd h h4n) (fun _ => ?_)
          refine pv_aload_n X 0 d_M_check_68 rfl ?_
          refine pv_aload_n X 0 d_M_check_69 rfl ?_
          refine pv_get X 0 12 u_M_in m_586 rfl rfl (by decide) ⟨rfl, rfl, rfl⟩ rfl d_M_check_70 ?_
          refine pv_iload_n X 1 d_M_check_73 rfl ?_
          refine pv_lald X 9 rfl (MK_in1 h3 h4n) d_M_check_74 ?_
          refine pv_aload_n X 0 d_M_check_75 rfl ?_
          refine pv_get X 0 13 u_M_in m_587 rfl rfl (by decide) ⟨rfl, rfl, rfl⟩ rfl d_M_check_76 ?_
          refine pv_iload_n X 1 d_M_check_79 rfl ?_
          refine pv_lald X 10 rfl (MK_in1 h3 h4n) d_M_check_80 ?_
          refine pv_calliE X (Cut.all _) (rn_V X (c_M_checkOf l G zm zmp zm1 zm2 zmx zmh zmt zmu zme zma zmb zmk zmc zmd zmi zmo zmf zmg zmn 0 ys yl yr yv yt yu ye ya yb yk yc yd yi yo yf yg yn yp yq yw yx (ya k.toNatClampNeg) (yb k.toNatClampNeg) ) trivial mf_M_checkOf m_678 m_680 ms_13 rfl 0 rfl rfl rfl (by decide) (by decide) rfl (Nat.le_of_ble_eq_true rfl) d_M_check_81) (fun x9 => ?_)
          refine pv_eqw (ws2 := [ob zm 5 [.ref zmp, .ref zm1, .ref zm2, .ref zmx, .int 0, .ref zmh, .ref zmt, .int ys, .long yl, .long yr, .ref zmu, .ref zme, .ref zma, .ref zmb, .ref zmk, .ref zmc, .ref zmd, .ref zmi, .ref zmo, .ref zmf, .ref zmg, .ref zmn, .long yp, .long yq, .int yw, .long yx], aI G zmp 32 tb_perm, aI G zm1 56 tb_c1, aI G zm2 48 tb_c2, aI G zmx 512 tb_box, aJ G zmh 6 yv, aZ G zmt 6 yt, aI G zmu 16 yu, aZ G zme 16 ye, aJ G zma 16 ya, aJ G zmb 16 yb, aZ G zmk 8 yk, aJ G zmc 8 yc, aJ G zmd 8 yd, aJ G zmi 8 yi, aI G zmo 8 yo, aJ G zmf 5 yf, aJ G zmg 8 yg, aJ G zmn 16 (g_M_checkOf_zmn yn (ya k.toNatClampNeg) (yb k.toNatClampNeg))]) rfl ?_
          exact pv_iret X hr hlk (g_M_checkOf_zmn yn (ya k.toNatClampNeg) (yb k.toNatClampNeg), yp, yq) (by show _ = f_M_check ys yu ya yb yk yc yd yi yo yn k; simp only [f_M_check, if_neg h1, if_neg h3, if_neg h4n, if_pos h8]) (by simp only [g_M_check_zm_4, if_neg h1, if_neg h3, if_neg h4n, if_pos h8]) d_M_check_84
        · skip
          refine pv_goto X 59 d_M_check_44 rfl ?_
          refine pv_bipush X (-3) d_M_check_59 (by decide) ?_
          exact pv_iret X hr hlk (yn, yp, yq) (by show _ = f_M_check ys yu ya yb yk yc yd yi yo yn k; simp only [f_M_check, if_neg h1, if_neg h3, if_neg h4n, if_neg h8n]) (by simp only [g_M_check_zm_4, if_neg h1, if_neg h3, if_neg h4n, if_neg h8n]) d_M_check_61
    · skip
      refine pv_bipush X (-2) d_M_check_26 (by decide) ?_
      exact pv_iret X hr hlk (yn, yp, yq) (by show _ = f_M_check ys yu ya yb yk yc yd yi yo yn k; simp only [f_M_check, if_neg h1, if_pos h3n]) (by simp only [g_M_check_zm_4, if_neg h1, if_pos h3n]) d_M_check_28
  · skip
    refine pv_iconst X (-1) d_M_check_12 (by decide) ?_
    exact pv_iret X hr hlk (yn, yp, yq) (by show _ = f_M_check ys yu ya yb yk yc yd yi yo yn k; simp only [f_M_check, if_pos h1n]) (by simp only [g_M_check_zm_4, if_pos h1n]) d_M_check_13
def f_M_isThere (yu : Nat → Int32) (yk : Nat → Int32) (k : Int32) : Int32 := if 16 ≤ k then (yk (k - 16).toNatClampNeg) else (if (yu k.toNatClampNeg) < 0 then 0 else 1)
abbrev rm_M_isThere : Room := { frames := 0, cells := 0, slots := 0, locals := 0 }
theorem mf_M_isThere : MF y_M_isThere b_M_isThere 2 (some .boolean) 1 := ⟨m_828, m_6, by decide, by decide, by decide +kernel⟩
theorem d_M_isThere_0 : decode b_M_isThere 0 = .ok (.iload_n 1, 1) := by decide +kernel
theorem d_M_isThere_1 : decode b_M_isThere 1 = .ok (.bipush 16, 2) := by decide +kernel
theorem d_M_isThere_3 : decode b_M_isThere 3 = .ok (.if_icmp .ge 20, 3) := by decide +kernel
theorem d_M_isThere_6 : decode b_M_isThere 6 = .ok (.aload_n 0, 1) := by decide +kernel
theorem d_M_isThere_7 : decode b_M_isThere 7 = .ok (.getfield 30, 3) := by decide +kernel
theorem d_M_isThere_10 : decode b_M_isThere 10 = .ok (.iload_n 1, 1) := by decide +kernel
theorem d_M_isThere_11 : decode b_M_isThere 11 = .ok (.iaload, 1) := by decide +kernel
theorem d_M_isThere_12 : decode b_M_isThere 12 = .ok (.ifCond .lt 7, 3) := by decide +kernel
theorem d_M_isThere_15 : decode b_M_isThere 15 = .ok (.iconst 1, 1) := by decide +kernel
theorem d_M_isThere_16 : decode b_M_isThere 16 = .ok (.goto 16, 3) := by decide +kernel
theorem d_M_isThere_19 : decode b_M_isThere 19 = .ok (.iconst 0, 1) := by decide +kernel
theorem d_M_isThere_20 : decode b_M_isThere 20 = .ok (.goto 12, 3) := by decide +kernel
theorem d_M_isThere_23 : decode b_M_isThere 23 = .ok (.aload_n 0, 1) := by decide +kernel
theorem d_M_isThere_24 : decode b_M_isThere 24 = .ok (.getfield 42, 3) := by decide +kernel
theorem d_M_isThere_27 : decode b_M_isThere 27 = .ok (.iload_n 1, 1) := by decide +kernel
theorem d_M_isThere_28 : decode b_M_isThere 28 = .ok (.bipush 16, 2) := by decide +kernel
theorem d_M_isThere_30 : decode b_M_isThere 30 = .ok (.isub, 1) := by decide +kernel
theorem d_M_isThere_31 : decode b_M_isThere 31 = .ok (.baload, 1) := by decide +kernel
theorem d_M_isThere_32 : decode b_M_isThere 32 = .ok (.ireturn, 1) := by decide +kernel
set_option maxRecDepth 100000 in
set_option maxHeartbeats 4000000 in
theorem c_M_isThere (l : Launch) (G : Gt) (zm zmp zm1 zm2 zmx zmh zmt zmu zme zma zmb zmk zmc zmd zmi zmo zmf zmg zmn : Nat) (th ys : Int32) (yl yr : Int64) (yv : Nat → Int64) (yt yu ye : Nat → Int32) (ya yb : Nat → Int64) (yk : Nat → Int32) (yc yd yi : Nat → Int64) (yo : Nat → Int32) (yf yg yn : Nat → Int64) (yp yq : Int64) (yw : Int32) (yx : Int64) (k : Int32) (hk : ¬ f_M_in k.toInt64 0 23 = 0) (hyk : ∀ j, Bo (yk j)) : CtI l G y_M_isThere b_M_isThere 2 (some .boolean) rm_M_isThere E0 [.ref zm, .int k] [ob zm 5 [.ref zmp, .ref zm1, .ref zm2, .ref zmx, .int th, .ref zmh, .ref zmt, .int ys, .long yl, .long yr, .ref zmu, .ref zme, .ref zma, .ref zmb, .ref zmk, .ref zmc, .ref zmd, .ref zmi, .ref zmo, .ref zmf, .ref zmg, .ref zmn, .long yp, .long yq, .int yw, .long yx], aI G zmp 32 tb_perm, aI G zm1 56 tb_c1, aI G zm2 48 tb_c2, aI G zmx 512 tb_box, aJ G zmh 6 yv, aZ G zmt 6 yt, aI G zmu 16 yu, aZ G zme 16 ye, aJ G zma 16 ya, aJ G zmb 16 yb, aZ G zmk 8 yk, aJ G zmc 8 yc, aJ G zmd 8 yd, aJ G zmi 8 yi, aI G zmo 8 yo, aJ G zmf 5 yf, aJ G zmg 8 yg, aJ G zmn 16 yn] (fun r (_ : Unit) => r = f_M_isThere yu yk k) (fun _ => [ob zm 5 [.ref zmp, .ref zm1, .ref zm2, .ref zmx, .int th, .ref zmh, .ref zmt, .int ys, .long yl, .long yr, .ref zmu, .ref zme, .ref zma, .ref zmb, .ref zmk, .ref zmc, .ref zmd, .ref zmi, .ref zmo, .ref zmf, .ref zmg, .ref zmn, .long yp, .long yq, .int yw, .long yx], aI G zmp 32 tb_perm, aI G zm1 56 tb_c1, aI G zm2 48 tb_c2, aI G zmx 512 tb_box, aJ G zmh 6 yv, aZ G zmt 6 yt, aI G zmu 16 yu, aZ G zme 16 ye, aJ G zma 16 ya, aJ G zmb 16 yb, aZ G zmk 8 yk, aJ G zmc 8 yc, aJ G zmd 8 yd, aJ G zmi 8 yi, aI G zmo 8 yo, aJ G zmf 5 yf, aJ G zmg 8 yg, aJ G zmn 16 yn]) 0 0 := by
  refine Ct.of (Qp := fun A => va_Qi _ (qB G A _) A) Stb_0 (by decide) (Nat.le_of_ble_eq_true rfl) ?_
  intro p e s m args below meth c A X hE hr hlk hini
  refine pv_eql (ll2 := [(0, .ref zm), (1, .int k)]) rfl ?_
  refine pv_iload_n X 1 d_M_isThere_0 rfl ?_
  refine pv_bipush X 16 d_M_isThere_1 (by decide) ?_
  refine pv_icmp_ge X 23 d_M_isThere_3 rfl (fun h1 => ?_) (fun h1n => ?_)
  · skip
    refine pv_aload_n X 0 d_M_isThere_23 rfl ?_
    refine pv_get X 0 14 u_M_in m_588 rfl rfl (by decide) ⟨rfl, rfl, rfl⟩ rfl d_M_isThere_24 ?_
    refine pv_iload_n X 1 d_M_isThere_27 rfl ?_
    refine pv_bipush X 16 d_M_isThere_28 (by decide) ?_
    refine pv_isub X d_M_isThere_30 ?_
    refine pv_zald X 11 rfl (MK_in2 hk h1) d_M_isThere_31 ?_
    exact pv_zret X hr hlk (by first | exact bo_0.nar | exact bo_1.nar | exact (hyk _).nar) () (by show _ = f_M_isThere yu yk k; simp only [f_M_isThere, if_pos h1]) rfl d_M_isThere_32
  · skip
    refine pv_aload_n X 0 d_M_isThere_6 rfl ?_
    refine pv_get X 0 10 u_M_in m_584 rfl rfl (by decide) ⟨rfl, rfl, rfl⟩ rfl d_M_isThere_7 ?_
    refine pv_iload_n X 1 d_M_isThere_10 rfl ?_
    refine pv_iald X 7 rfl (MK_in1 hk h1n) d_M_isThere_11 ?_
    refine pv_if_lt X 19 d_M_isThere_12 rfl (fun h2 => ?_) (fun h2n => ?_)
    · skip
      refine pv_iconst X 0 d_M_isThere_19 (by decide) ?_
      refine pv_goto X 32 d_M_isThere_20 rfl ?_
      exact pv_zret X hr hlk (by first | exact bo_0.nar | exact bo_1.nar | exact (hyk _).nar) () (by show _ = f_M_isThere yu yk k; simp only [f_M_isThere, if_neg h1n, if_pos h2]) rfl d_M_isThere_32
    · skip
      refine pv_iconst X 1 d_M_isThere_15 (by decide) ?_
      refine pv_goto X 32 d_M_isThere_16 rfl ?_
      exact pv_zret X hr hlk (by first | exact bo_0.nar | exact bo_1.nar | exact (hyk _).nar) () (by show _ = f_M_isThere yu yk k; simp only [f_M_isThere, if_neg h1n, if_neg h2n]) rfl d_M_isThere_32
def f_M_isPinKey (yu : Nat → Int32) (k : Int32) : Int32 := if 15 < k then 1 else (if (yu k.toNatClampNeg) = 0 then 1 else 0)
theorem bo_M_isPinKey {yu : Nat → Int32} {k : Int32} : Bo (f_M_isPinKey yu k) := by
  unfold f_M_isPinKey
  repeat (first | with_reducible exact bo_0 | with_reducible exact bo_1 | split)
abbrev rm_M_isPinKey : Room := { frames := 0, cells := 0, slots := 0, locals := 0 }
theorem mf_M_isPinKey : MF y_M_isPinKey b_M_isPinKey 2 (some .boolean) 1 := ⟨m_832, m_6, by decide, by decide, by decide +kernel⟩
theorem d_M_isPinKey_0 : decode b_M_isPinKey 0 = .ok (.iload_n 1, 1) := by decide +kernel
theorem d_M_isPinKey_1 : decode b_M_isPinKey 1 = .ok (.bipush 15, 2) := by decide +kernel
theorem d_M_isPinKey_3 : decode b_M_isPinKey 3 = .ok (.if_icmp .gt 12, 3) := by decide +kernel
theorem d_M_isPinKey_6 : decode b_M_isPinKey 6 = .ok (.aload_n 0, 1) := by decide +kernel
theorem d_M_isPinKey_7 : decode b_M_isPinKey 7 = .ok (.getfield 30, 3) := by decide +kernel
theorem d_M_isPinKey_10 : decode b_M_isPinKey 10 = .ok (.iload_n 1, 1) := by decide +kernel
theorem d_M_isPinKey_11 : decode b_M_isPinKey 11 = .ok (.iaload, 1) := by decide +kernel
theorem d_M_isPinKey_12 : decode b_M_isPinKey 12 = .ok (.ifCond .ne 7, 3) := by decide +kernel
theorem d_M_isPinKey_15 : decode b_M_isPinKey 15 = .ok (.iconst 1, 1) := by decide +kernel
theorem d_M_isPinKey_16 : decode b_M_isPinKey 16 = .ok (.goto 4, 3) := by decide +kernel
theorem d_M_isPinKey_19 : decode b_M_isPinKey 19 = .ok (.iconst 0, 1) := by decide +kernel
theorem d_M_isPinKey_20 : decode b_M_isPinKey 20 = .ok (.ireturn, 1) := by decide +kernel
set_option maxRecDepth 100000 in
set_option maxHeartbeats 4000000 in
theorem c_M_isPinKey (l : Launch) (G : Gt) (zm zmp zm1 zm2 zmx zmh zmt zmu zme zma zmb zmk zmc zmd zmi zmo zmf zmg zmn : Nat) (th ys : Int32) (yl yr : Int64) (yv : Nat → Int64) (yt yu ye : Nat → Int32) (ya yb : Nat → Int64) (yk : Nat → Int32) (yc yd yi : Nat → Int64) (yo : Nat → Int32) (yf yg yn : Nat → Int64) (yp yq : Int64) (yw : Int32) (yx : Int64) (k : Int32) (hk : ¬ f_M_in k.toInt64 0 23 = 0) : CtI l G y_M_isPinKey b_M_isPinKey 2 (some .boolean) rm_M_isPinKey E0 [.ref zm, .int k] [ob zm 5 [.ref zmp, .ref zm1, .ref zm2, .ref zmx, .int th, .ref zmh, .ref zmt, .int ys, .long yl, .long yr, .ref zmu, .ref zme, .ref zma, .ref zmb, .ref zmk, .ref zmc, .ref zmd, .ref zmi, .ref zmo, .ref zmf, .ref zmg, .ref zmn, .long yp, .long yq, .int yw, .long yx], aI G zmp 32 tb_perm, aI G zm1 56 tb_c1, aI G zm2 48 tb_c2, aI G zmx 512 tb_box, aJ G zmh 6 yv, aZ G zmt 6 yt, aI G zmu 16 yu, aZ G zme 16 ye, aJ G zma 16 ya, aJ G zmb 16 yb, aZ G zmk 8 yk, aJ G zmc 8 yc, aJ G zmd 8 yd, aJ G zmi 8 yi, aI G zmo 8 yo, aJ G zmf 5 yf, aJ G zmg 8 yg, aJ G zmn 16 yn] (fun r (_ : Unit) => r = f_M_isPinKey yu k) (fun _ => [ob zm 5 [.ref zmp, .ref zm1, .ref zm2, .ref zmx, .int th, .ref zmh, .ref zmt, .int ys, .long yl, .long yr, .ref zmu, .ref zme, .ref zma, .ref zmb, .ref zmk, .ref zmc, .ref zmd, .ref zmi, .ref zmo, .ref zmf, .ref zmg, .ref zmn, .long yp, .long yq, .int yw, .long yx], aI G zmp 32 tb_perm, aI G zm1 56 tb_c1, aI G zm2 48 tb_c2, aI G zmx 512 tb_box, aJ G zmh 6 yv, aZ G zmt 6 yt, aI G zmu 16 yu, aZ G zme 16 ye, aJ G zma 16 ya, aJ G zmb 16 yb, aZ G zmk 8 yk, aJ G zmc 8 yc, aJ G zmd 8 yd, aJ G zmi 8 yi, aI G zmo 8 yo, aJ G zmf 5 yf, aJ G zmg 8 yg, aJ G zmn 16 yn]) 0 0 := by
  refine Ct.of (Qp := fun A => va_Qi _ (qB G A _) A) Stb_0 (by decide) (Nat.le_of_ble_eq_true rfl) ?_
  intro p e s m args below meth c A X hE hr hlk hini
  refine pv_eql (ll2 := [(0, .ref zm), (1, .int k)]) rfl ?_
  refine pv_iload_n X 1 d_M_isPinKey_0 rfl ?_
  refine pv_bipush X 15 d_M_isPinKey_1 (by decide) ?_
  refine pv_icmp_gt X 15 d_M_isPinKey_3 rfl (fun h1 => ?_) (fun h1n => ?_)
  · skip
    refine pv_iconst X 1 d_M_isPinKey_15 (by decide) ?_
    refine pv_goto X 20 d_M_isPinKey_16 rfl ?_
    exact pv_zret X hr hlk rfl () (by show _ = f_M_isPinKey yu k; simp only [f_M_isPinKey, if_pos h1]) rfl d_M_isPinKey_20
  · skip
    refine pv_aload_n X 0 d_M_isPinKey_6 rfl ?_
    refine pv_get X 0 10 u_M_in m_584 rfl rfl (by decide) ⟨rfl, rfl, rfl⟩ rfl d_M_isPinKey_7 ?_
    refine pv_iload_n X 1 d_M_isPinKey_10 rfl ?_
    refine pv_iald X 7 rfl (MK_in3 hk h1n) d_M_isPinKey_11 ?_
    refine pv_if_ne X 19 d_M_isPinKey_12 rfl (fun h2 => ?_) (fun h2n => ?_)
    · skip
      refine pv_iconst X 0 d_M_isPinKey_19 (by decide) ?_
      exact pv_zret X hr hlk rfl () (by show _ = f_M_isPinKey yu k; simp only [f_M_isPinKey, if_neg h1n, if_neg h2]) rfl d_M_isPinKey_20
    · skip
      refine pv_iconst X 1 d_M_isPinKey_15 (by decide) ?_
      refine pv_goto X 20 d_M_isPinKey_16 rfl ?_
      exact pv_zret X hr hlk rfl () (by show _ = f_M_isPinKey yu k; simp only [f_M_isPinKey, if_neg h1n, if_pos h2n]) rfl d_M_isPinKey_20
def g_M_pinKey_zm_22 (ya : Nat → Int64) (yc : Nat → Int64) (yd : Nat → Int64) (yi : Nat → Int64) (yo : Nat → Int32) (yn : Nat → Int64) (k : Int32) : Int64 := if 16 ≤ k then ((g_M_current_zm_22 yc yd yi yo yn (k - 16)) ^^^ (255 : Int64)) else (ya k.toNatClampNeg)
def g_M_pinKey_zm_23 (yb : Nat → Int64) (yc : Nat → Int64) (yd : Nat → Int64) (yi : Nat → Int64) (yo : Nat → Int32) (yn : Nat → Int64) (k : Int32) : Int64 := if 16 ≤ k then ((g_M_current_zm_23 yc yd yi yo yn (k - 16)) ^^^ (255 : Int64)) else (yb k.toNatClampNeg)
def g_M_pinKey_zmn (yc : Nat → Int64) (yd : Nat → Int64) (yi : Nat → Int64) (yo : Nat → Int32) (yn : Nat → Int64) (k : Int32) : Nat → Int64 := if 16 ≤ k then (g_M_current_zmn yc yd yi yo yn (k - 16)) else yn
abbrev rm_M_pinKey : Room := { frames := 5, cells := 0, slots := 0, locals := 146 }
theorem mf_M_pinKey : MF y_M_pinKey b_M_pinKey 2 none 1 := ⟨m_836, m_6, by decide, by decide, by decide +kernel⟩
theorem d_M_pinKey_0 : decode b_M_pinKey 0 = .ok (.iload_n 1, 1) := by decide +kernel
theorem d_M_pinKey_1 : decode b_M_pinKey 1 = .ok (.bipush 16, 2) := by decide +kernel
theorem d_M_pinKey_3 : decode b_M_pinKey 3 = .ok (.if_icmp .ge 24, 3) := by decide +kernel
theorem d_M_pinKey_6 : decode b_M_pinKey 6 = .ok (.aload_n 0, 1) := by decide +kernel
theorem d_M_pinKey_7 : decode b_M_pinKey 7 = .ok (.aload_n 0, 1) := by decide +kernel
theorem d_M_pinKey_8 : decode b_M_pinKey 8 = .ok (.getfield 36, 3) := by decide +kernel
theorem d_M_pinKey_11 : decode b_M_pinKey 11 = .ok (.iload_n 1, 1) := by decide +kernel
theorem d_M_pinKey_12 : decode b_M_pinKey 12 = .ok (.laload, 1) := by decide +kernel
theorem d_M_pinKey_13 : decode b_M_pinKey 13 = .ok (.putfield 203, 3) := by decide +kernel
theorem d_M_pinKey_16 : decode b_M_pinKey 16 = .ok (.aload_n 0, 1) := by decide +kernel
theorem d_M_pinKey_17 : decode b_M_pinKey 17 = .ok (.aload_n 0, 1) := by decide +kernel
theorem d_M_pinKey_18 : decode b_M_pinKey 18 = .ok (.getfield 39, 3) := by decide +kernel
theorem d_M_pinKey_21 : decode b_M_pinKey 21 = .ok (.iload_n 1, 1) := by decide +kernel
theorem d_M_pinKey_22 : decode b_M_pinKey 22 = .ok (.laload, 1) := by decide +kernel
theorem d_M_pinKey_23 : decode b_M_pinKey 23 = .ok (.putfield 208, 3) := by decide +kernel
theorem d_M_pinKey_26 : decode b_M_pinKey 26 = .ok (.return_, 1) := by decide +kernel
theorem d_M_pinKey_27 : decode b_M_pinKey 27 = .ok (.aload_n 0, 1) := by decide +kernel
theorem d_M_pinKey_28 : decode b_M_pinKey 28 = .ok (.iload_n 1, 1) := by decide +kernel
theorem d_M_pinKey_29 : decode b_M_pinKey 29 = .ok (.bipush 16, 2) := by decide +kernel
theorem d_M_pinKey_31 : decode b_M_pinKey 31 = .ok (.isub, 1) := by decide +kernel
theorem d_M_pinKey_32 : decode b_M_pinKey 32 = .ok (.invokevirtual 213, 3) := by decide +kernel
theorem d_M_pinKey_35 : decode b_M_pinKey 35 = .ok (.aload_n 0, 1) := by decide +kernel
theorem d_M_pinKey_36 : decode b_M_pinKey 36 = .ok (.dup, 1) := by decide +kernel
theorem d_M_pinKey_37 : decode b_M_pinKey 37 = .ok (.getfield 203, 3) := by decide +kernel
theorem d_M_pinKey_40 : decode b_M_pinKey 40 = .ok (.ldc2_w 94, 3) := by decide +kernel
theorem d_M_pinKey_43 : decode b_M_pinKey 43 = .ok (.lxor, 1) := by decide +kernel
theorem d_M_pinKey_44 : decode b_M_pinKey 44 = .ok (.putfield 203, 3) := by decide +kernel
theorem d_M_pinKey_47 : decode b_M_pinKey 47 = .ok (.aload_n 0, 1) := by decide +kernel
theorem d_M_pinKey_48 : decode b_M_pinKey 48 = .ok (.dup, 1) := by decide +kernel
theorem d_M_pinKey_49 : decode b_M_pinKey 49 = .ok (.getfield 208, 3) := by decide +kernel
theorem d_M_pinKey_52 : decode b_M_pinKey 52 = .ok (.ldc2_w 94, 3) := by decide +kernel
theorem d_M_pinKey_55 : decode b_M_pinKey 55 = .ok (.lxor, 1) := by decide +kernel
theorem d_M_pinKey_56 : decode b_M_pinKey 56 = .ok (.putfield 208, 3) := by decide +kernel
theorem d_M_pinKey_59 : decode b_M_pinKey 59 = .ok (.return_, 1) := by decide +kernel
set_option maxRecDepth 100000 in
set_option maxHeartbeats 4000000 in
theorem c_M_pinKey (l : Launch) (G : Gt) (zm zmp zm1 zm2 zmx zmh zmt zmu zme zma zmb zmk zmc zmd zmi zmo zmf zmg zmn : Nat) (th ys : Int32) (yl yr : Int64) (yv : Nat → Int64) (yt yu ye : Nat → Int32) (ya yb : Nat → Int64) (yk : Nat → Int32) (yc yd yi : Nat → Int64) (yo : Nat → Int32) (yf yg yn : Nat → Int64) (yp yq : Int64) (yw : Int32) (yx : Int64) (k : Int32) (hk : ¬ f_M_in k.toInt64 0 23 = 0) : CtV l G y_M_pinKey b_M_pinKey 2 none rm_M_pinKey E0 [.ref zm, .int k] [ob zm 5 [.ref zmp, .ref zm1, .ref zm2, .ref zmx, .int th, .ref zmh, .ref zmt, .int ys, .long yl, .long yr, .ref zmu, .ref zme, .ref zma, .ref zmb, .ref zmk, .ref zmc, .ref zmd, .ref zmi, .ref zmo, .ref zmf, .ref zmg, .ref zmn, .long yp, .long yq, .int yw, .long yx], aI G zmp 32 tb_perm, aI G zm1 56 tb_c1, aI G zm2 48 tb_c2, aI G zmx 512 tb_box, aJ G zmh 6 yv, aZ G zmt 6 yt, aI G zmu 16 yu, aZ G zme 16 ye, aJ G zma 16 ya, aJ G zmb 16 yb, aZ G zmk 8 yk, aJ G zmc 8 yc, aJ G zmd 8 yd, aJ G zmi 8 yi, aI G zmo 8 yo, aJ G zmf 5 yf, aJ G zmg 8 yg, aJ G zmn 16 yn] (fun (_ : Unit) => True) (fun _ => [ob zm 5 [.ref zmp, .ref zm1, .ref zm2, .ref zmx, .int th, .ref zmh, .ref zmt, .int ys, .long yl, .long yr, .ref zmu, .ref zme, .ref zma, .ref zmb, .ref zmk, .ref zmc, .ref zmd, .ref zmi, .ref zmo, .ref zmf, .ref zmg, .ref zmn, .long (g_M_pinKey_zm_22 ya yc yd yi yo yn k), .long (g_M_pinKey_zm_23 yb yc yd yi yo yn k), .int yw, .long yx], aI G zmp 32 tb_perm, aI G zm1 56 tb_c1, aI G zm2 48 tb_c2, aI G zmx 512 tb_box, aJ G zmh 6 yv, aZ G zmt 6 yt, aI G zmu 16 yu, aZ G zme 16 ye, aJ G zma 16 ya, aJ G zmb 16 yb, aZ G zmk 8 yk, aJ G zmc 8 yc, aJ G zmd 8 yd, aJ G zmi 8 yi, aI G zmo 8 yo, aJ G zmf 5 yf, aJ G zmg 8 yg, aJ G zmn 16 (g_M_pinKey_zmn yc yd yi yo yn k)]) 0 0 := by
  refine Ct.of (Qp := fun A => va_Qv _ (qB G A _) A) Stb_0 (by decide) (Nat.le_of_ble_eq_true rfl) ?_
  intro p e s m args below meth c A X hE hr hlk hini
  refine pv_eql (ll2 := [(0, .ref zm), (1, .int k)]) rfl ?_
  refine pv_iload_n X 1 d_M_pinKey_0 rfl ?_
  refine pv_bipush X 16 d_M_pinKey_1 (by decide) ?_
  refine pv_icmp_ge X 27 d_M_pinKey_3 rfl (fun h1 => ?_) (fun h1n => ?_)
  · skip
    refine pv_aload_n X 0 d_M_pinKey_27 rfl ?_
    refine pv_iload_n X 1 d_M_pinKey_28 rfl ?_
    refine pv_bipush X 16 d_M_pinKey_29 (by decide) ?_
    refine pv_isub X d_M_pinKey_31 ?_
    refine pv_callv X (Cut.all _) (rn_V X (c_M_current l G zm zmp zm1 zm2 zmx zmh zmt zmu zme zma zmb zmk zmc zmd zmi zmo zmf zmg zmn th ys yl yr yv yt yu ye ya yb yk yc yd yi yo yf yg yn yp yq yw yx (k - 16) (MK_in2 hk h1)) trivial mf_M_current m_805 m_807 ms_21 rfl 0 rfl rfl rfl (by decide) (by decide) rfl (Nat.le_of_ble_eq_true rfl) d_M_pinKey_32) (fun x2 e2 => ?_)
    refine pv_eqw (ws2 := [ob zm 5 [.ref zmp, .ref zm1, .ref zm2, .ref zmx, .int th, .ref zmh, .ref zmt, .int ys, .long yl, .long yr, .ref zmu, .ref zme, .ref zma, .ref zmb, .ref zmk, .ref zmc, .ref zmd, .ref zmi, .ref zmo, .ref zmf, .ref zmg, .ref zmn, .long (g_M_current_zm_22 yc yd yi yo yn (k - 16)), .long (g_M_current_zm_23 yc yd yi yo yn (k - 16)), .int yw, .long yx], aI G zmp 32 tb_perm, aI G zm1 56 tb_c1, aI G zm2 48 tb_c2, aI G zmx 512 tb_box, aJ G zmh 6 yv, aZ G zmt 6 yt, aI G zmu 16 yu, aZ G zme 16 ye, aJ G zma 16 ya, aJ G zmb 16 yb, aZ G zmk 8 yk, aJ G zmc 8 yc, aJ G zmd 8 yd, aJ G zmi 8 yi, aI G zmo 8 yo, aJ G zmf 5 yf, aJ G zmg 8 yg, aJ G zmn 16 (g_M_current_zmn yc yd yi yo yn (k - 16))]) rfl ?_
    refine pv_aload_n X 0 d_M_pinKey_35 rfl ?_
    refine pv_dup X d_M_pinKey_36 rfl ?_
    refine pv_get X 0 22 u_M_in m_596 rfl rfl (by decide) ⟨rfl, rfl, rfl⟩ rfl d_M_pinKey_37 ?_
    refine pv_ldc2_w X m_676 d_M_pinKey_40 ?_
    refine pv_lxor X d_M_pinKey_43 ?_
    refine pv_put X (ty := .long) (ws2 := [ob zm 5 [.ref zmp, .ref zm1, .ref zm2, .ref zmx, .int th, .ref zmh, .ref zmt, .int ys, .long yl, .long yr, .ref zmu, .ref zme, .ref zma, .ref zmb, .ref zmk, .ref zmc, .ref zmd, .ref zmi, .ref zmo, .ref zmf, .ref zmg, .ref zmn, .long ((g_M_current_zm_22 yc yd yi yo yn (k - 16)) ^^^ (255 : Int64)), .long (g_M_current_zm_23 yc yd yi yo yn (k - 16)), .int yw, .long yx], aI G zmp 32 tb_perm, aI G zm1 56 tb_c1, aI G zm2 48 tb_c2, aI G zmx 512 tb_box, aJ G zmh 6 yv, aZ G zmt 6 yt, aI G zmu 16 yu, aZ G zme 16 ye, aJ G zma 16 ya, aJ G zmb 16 yb, aZ G zmk 8 yk, aJ G zmc 8 yc, aJ G zmd 8 yd, aJ G zmi 8 yi, aI G zmo 8 yo, aJ G zmf 5 yf, aJ G zmg 8 yg, aJ G zmn 16 (g_M_current_zmn yc yd yi yo yn (k - 16))]) 0 22 ty_M ty_M_ok n_M u_M_in m_596 rfl rfl (by decide) ⟨rfl, rfl, rfl⟩ rfl (by decide +kernel) rfl rfl (Nat.le_of_ble_eq_true rfl) rfl d_M_pinKey_44 ?_
    refine pv_aload_n X 0 d_M_pinKey_47 rfl ?_
    refine pv_dup X d_M_pinKey_48 rfl ?_
    refine pv_get X 0 23 u_M_in m_597 rfl rfl (by decide) ⟨rfl, rfl, rfl⟩ rfl d_M_pinKey_49 ?_
    refine pv_ldc2_w X m_676 d_M_pinKey_52 ?_
    refine pv_lxor X d_M_pinKey_55 ?_
    refine pv_put X (ty := .long) (ws2 := [ob zm 5 [.ref zmp, .ref zm1, .ref zm2, .ref zmx, .int th, .ref zmh, .ref zmt, .int ys, .long yl, .long yr, .ref zmu, .ref zme, .ref zma, .ref zmb, .ref zmk, .ref zmc, .ref zmd, .ref zmi, .ref zmo, .ref zmf, .ref zmg, .ref zmn, .long ((g_M_current_zm_22 yc yd yi yo yn (k - 16)) ^^^ (255 : Int64)), .long ((g_M_current_zm_23 yc yd yi yo yn (k - 16)) ^^^ (255 : Int64)), .int yw, .long yx], aI G zmp 32 tb_perm, aI G zm1 56 tb_c1, aI G zm2 48 tb_c2, aI G zmx 512 tb_box, aJ G zmh 6 yv, aZ G zmt 6 yt, aI G zmu 16 yu, aZ G zme 16 ye, aJ G zma 16 ya, aJ G zmb 16 yb, aZ G zmk 8 yk, aJ G zmc 8 yc, aJ G zmd 8 yd, aJ G zmi 8 yi, aI G zmo 8 yo, aJ G zmf 5 yf, aJ G zmg 8 yg, aJ G zmn 16 (g_M_current_zmn yc yd yi yo yn (k - 16))]) 0 23 ty_M ty_M_ok n_M u_M_in m_597 rfl rfl (by decide) ⟨rfl, rfl, rfl⟩ rfl (by decide +kernel) rfl rfl (Nat.le_of_ble_eq_true rfl) rfl d_M_pinKey_56 ?_
    exact pv_vret X hr hlk () trivial (by simp only [g_M_pinKey_zm_22, g_M_pinKey_zm_23, g_M_pinKey_zmn, if_pos h1]) d_M_pinKey_59
  · skip
    refine pv_aload_n X 0 d_M_pinKey_6 rfl ?_
    refine pv_aload_n X 0 d_M_pinKey_7 rfl ?_
    refine pv_get X 0 12 u_M_in m_586 rfl rfl (by decide) ⟨rfl, rfl, rfl⟩ rfl d_M_pinKey_8 ?_
    refine pv_iload_n X 1 d_M_pinKey_11 rfl ?_
    refine pv_lald X 9 rfl (MK_in1 hk h1n) d_M_pinKey_12 ?_
    refine pv_put X (ty := .long) (ws2 := [ob zm 5 [.ref zmp, .ref zm1, .ref zm2, .ref zmx, .int th, .ref zmh, .ref zmt, .int ys, .long yl, .long yr, .ref zmu, .ref zme, .ref zma, .ref zmb, .ref zmk, .ref zmc, .ref zmd, .ref zmi, .ref zmo, .ref zmf, .ref zmg, .ref zmn, .long (ya k.toNatClampNeg), .long yq, .int yw, .long yx], aI G zmp 32 tb_perm, aI G zm1 56 tb_c1, aI G zm2 48 tb_c2, aI G zmx 512 tb_box, aJ G zmh 6 yv, aZ G zmt 6 yt, aI G zmu 16 yu, aZ G zme 16 ye, aJ G zma 16 ya, aJ G zmb 16 yb, aZ G zmk 8 yk, aJ G zmc 8 yc, aJ G zmd 8 yd, aJ G zmi 8 yi, aI G zmo 8 yo, aJ G zmf 5 yf, aJ G zmg 8 yg, aJ G zmn 16 yn]) 0 22 ty_M ty_M_ok n_M u_M_in m_596 rfl rfl (by decide) ⟨rfl, rfl, rfl⟩ rfl (by decide +kernel) rfl rfl (Nat.le_of_ble_eq_true rfl) rfl d_M_pinKey_13 ?_
    refine pv_aload_n X 0 d_M_pinKey_16 rfl ?_
    refine pv_aload_n X 0 d_M_pinKey_17 rfl ?_
    refine pv_get X 0 13 u_M_in m_587 rfl rfl (by decide) ⟨rfl, rfl, rfl⟩ rfl d_M_pinKey_18 ?_
    refine pv_iload_n X 1 d_M_pinKey_21 rfl ?_
    refine pv_lald X 10 rfl (MK_in1 hk h1n) d_M_pinKey_22 ?_
    refine pv_put X (ty := .long) (ws2 := [ob zm 5 [.ref zmp, .ref zm1, .ref zm2, .ref zmx, .int th, .ref zmh, .ref zmt, .int ys, .long yl, .long yr, .ref zmu, .ref zme, .ref zma, .ref zmb, .ref zmk, .ref zmc, .ref zmd, .ref zmi, .ref zmo, .ref zmf, .ref zmg, .ref zmn, .long (ya k.toNatClampNeg), .long (yb k.toNatClampNeg), .int yw, .long yx], aI G zmp 32 tb_perm, aI G zm1 56 tb_c1, aI G zm2 48 tb_c2, aI G zmx 512 tb_box, aJ G zmh 6 yv, aZ G zmt 6 yt, aI G zmu 16 yu, aZ G zme 16 ye, aJ G zma 16 ya, aJ G zmb 16 yb, aZ G zmk 8 yk, aJ G zmc 8 yc, aJ G zmd 8 yd, aJ G zmi 8 yi, aI G zmo 8 yo, aJ G zmf 5 yf, aJ G zmg 8 yg, aJ G zmn 16 yn]) 0 23 ty_M ty_M_ok n_M u_M_in m_597 rfl rfl (by decide) ⟨rfl, rfl, rfl⟩ rfl (by decide +kernel) rfl rfl (Nat.le_of_ble_eq_true rfl) rfl d_M_pinKey_23 ?_
    exact pv_vret X hr hlk () trivial (by simp only [g_M_pinKey_zm_22, g_M_pinKey_zm_23, g_M_pinKey_zmn, if_neg h1n]) d_M_pinKey_26
def mrb (f : Int32) (b a : Int64) : Int64 := if f = 1 then b else b ^^^ f_M_accountPart a
def mlow (f : Int32) : Int32 := if f = 0 then 15 else 10
def f_M_reads (b : Int64) (f : Int32) (a : Int64) : Int32 := if f = 1 then (if (lg_cmp (((mrb f b a).toUInt64 >>> ((60 : Int32).toInt64.toUInt64 &&& Int64.toUInt64 63)).toInt64) f.toInt64) = 0 then (if (f_M_in ((((((mrb f b a).toUInt64 >>> ((56 : Int32).toInt64.toUInt64 &&& Int64.toUInt64 63)).toInt64) &&& (15 : Int64)).toInt32).toInt64) (4 : Int64) (12 : Int64)) = 0 then 0 else (if (f_M_areDigits ((((mrb f b a).toUInt64 >>> ((4 * (14 - (((((mrb f b a).toUInt64 >>> ((56 : Int32).toInt64.toUInt64 &&& Int64.toUInt64 63)).toInt64) &&& (15 : Int64)).toInt32))).toInt64.toUInt64 &&& Int64.toUInt64 63)).toInt64) &&& (((1 : Int64) <<< ((4 * (((((mrb f b a).toUInt64 >>> ((56 : Int32).toInt64.toUInt64 &&& Int64.toUInt64 63)).toInt64) &&& (15 : Int64)).toInt32)).toInt64 &&& 63)) - (1 : Int64))) 0 (((((mrb f b a).toUInt64 >>> ((56 : Int32).toInt64.toUInt64 &&& Int64.toUInt64 63)).toInt64) &&& (15 : Int64)).toInt32) 0 9) = 0 then 0 else 1)) else 0) else (if (lg_cmp (((mrb f b a).toUInt64 >>> ((60 : Int32).toInt64.toUInt64 &&& Int64.toUInt64 63)).toInt64) f.toInt64) = 0 then (if (f_M_in ((((((mrb f b a).toUInt64 >>> ((56 : Int32).toInt64.toUInt64 &&& Int64.toUInt64 63)).toInt64) &&& (15 : Int64)).toInt32).toInt64) (4 : Int64) (12 : Int64)) = 0 then 0 else (if (f_M_areDigits ((((mrb f b a).toUInt64 >>> ((4 * (14 - (((((mrb f b a).toUInt64 >>> ((56 : Int32).toInt64.toUInt64 &&& Int64.toUInt64 63)).toInt64) &&& (15 : Int64)).toInt32))).toInt64.toUInt64 &&& Int64.toUInt64 63)).toInt64) &&& (((1 : Int64) <<< ((4 * (((((mrb f b a).toUInt64 >>> ((56 : Int32).toInt64.toUInt64 &&& Int64.toUInt64 63)).toInt64) &&& (15 : Int64)).toInt32)).toInt64 &&& 63)) - (1 : Int64))) 0 (((((mrb f b a).toUInt64 >>> ((56 : Int32).toInt64.toUInt64 &&& Int64.toUInt64 63)).toInt64) &&& (15 : Int64)).toInt32) 0 9) = 0 then 0 else (if f = 0 then (if (f_M_areDigits (mrb f b a) 0 (14 - (((((mrb f b a).toUInt64 >>> ((56 : Int32).toInt64.toUInt64 &&& Int64.toUInt64 63)).toInt64) &&& (15 : Int64)).toInt32)) (mlow f) 15) = 0 then 0 else 1) else (if (f_M_areDigits (mrb f b a) 0 (14 - (((((mrb f b a).toUInt64 >>> ((56 : Int32).toInt64.toUInt64 &&& Int64.toUInt64 63)).toInt64) &&& (15 : Int64)).toInt32)) (mlow f) 15) = 0 then 0 else 1)))) else 0)
theorem bo_M_reads {b : Int64} {f : Int32} {a : Int64} : Bo (f_M_reads b f a) := by
  unfold f_M_reads
  repeat (first | with_reducible exact bo_0 | with_reducible exact bo_1 | split)
def g_M_reads_zm_24 (yw : Int32) (b : Int64) (f : Int32) (a : Int64) : Int32 := if f = 1 then (if (lg_cmp (((mrb f b a).toUInt64 >>> ((60 : Int32).toInt64.toUInt64 &&& Int64.toUInt64 63)).toInt64) f.toInt64) = 0 then (if (f_M_in ((((((mrb f b a).toUInt64 >>> ((56 : Int32).toInt64.toUInt64 &&& Int64.toUInt64 63)).toInt64) &&& (15 : Int64)).toInt32).toInt64) (4 : Int64) (12 : Int64)) = 0 then yw else (((((mrb f b a).toUInt64 >>> ((56 : Int32).toInt64.toUInt64 &&& Int64.toUInt64 63)).toInt64) &&& (15 : Int64)).toInt32)) else yw) else (if (lg_cmp (((mrb f b a).toUInt64 >>> ((60 : Int32).toInt64.toUInt64 &&& Int64.toUInt64 63)).toInt64) f.toInt64) = 0 then (if (f_M_in ((((((mrb f b a).toUInt64 >>> ((56 : Int32).toInt64.toUInt64 &&& Int64.toUInt64 63)).toInt64) &&& (15 : Int64)).toInt32).toInt64) (4 : Int64) (12 : Int64)) = 0 then yw else (((((mrb f b a).toUInt64 >>> ((56 : Int32).toInt64.toUInt64 &&& Int64.toUInt64 63)).toInt64) &&& (15 : Int64)).toInt32)) else yw)
def g_M_reads_zm_25 (yx : Int64) (b : Int64) (f : Int32) (a : Int64) : Int64 := if f = 1 then (if (lg_cmp (((mrb f b a).toUInt64 >>> ((60 : Int32).toInt64.toUInt64 &&& Int64.toUInt64 63)).toInt64) f.toInt64) = 0 then (if (f_M_in ((((((mrb f b a).toUInt64 >>> ((56 : Int32).toInt64.toUInt64 &&& Int64.toUInt64 63)).toInt64) &&& (15 : Int64)).toInt32).toInt64) (4 : Int64) (12 : Int64)) = 0 then yx else ((((mrb f b a).toUInt64 >>> ((4 * (14 - (((((mrb f b a).toUInt64 >>> ((56 : Int32).toInt64.toUInt64 &&& Int64.toUInt64 63)).toInt64) &&& (15 : Int64)).toInt32))).toInt64.toUInt64 &&& Int64.toUInt64 63)).toInt64) &&& (((1 : Int64) <<< ((4 * (((((mrb f b a).toUInt64 >>> ((56 : Int32).toInt64.toUInt64 &&& Int64.toUInt64 63)).toInt64) &&& (15 : Int64)).toInt32)).toInt64 &&& 63)) - (1 : Int64)))) else yx) else (if (lg_cmp (((mrb f b a).toUInt64 >>> ((60 : Int32).toInt64.toUInt64 &&& Int64.toUInt64 63)).toInt64) f.toInt64) = 0 then (if (f_M_in ((((((mrb f b a).toUInt64 >>> ((56 : Int32).toInt64.toUInt64 &&& Int64.toUInt64 63)).toInt64) &&& (15 : Int64)).toInt32).toInt64) (4 : Int64) (12 : Int64)) = 0 then yx else ((((mrb f b a).toUInt64 >>> ((4 * (14 - (((((mrb f b a).toUInt64 >>> ((56 : Int32).toInt64.toUInt64 &&& Int64.toUInt64 63)).toInt64) &&& (15 : Int64)).toInt32))).toInt64.toUInt64 &&& Int64.toUInt64 63)).toInt64) &&& (((1 : Int64) <<< ((4 * (((((mrb f b a).toUInt64 >>> ((56 : Int32).toInt64.toUInt64 &&& Int64.toUInt64 63)).toInt64) &&& (15 : Int64)).toInt32)).toInt64 &&& 63)) - (1 : Int64)))) else yx)
abbrev rm_M_reads : Room := { frames := 2, cells := 0, slots := 0, locals := 52 }
theorem mf_M_reads : MF y_M_reads b_M_reads 10 (some .boolean) 3 := ⟨m_850, m_6, by decide, by decide, by decide +kernel⟩
theorem d_M_reads_0 : decode b_M_reads 0 = .ok (.iload_n 3, 1) := by decide +kernel
theorem d_M_reads_1 : decode b_M_reads 1 = .ok (.iconst 1, 1) := by decide +kernel
theorem d_M_reads_2 : decode b_M_reads 2 = .ok (.if_icmp .ne 7, 3) := by decide +kernel
theorem d_M_reads_5 : decode b_M_reads 5 = .ok (.lload_n 1, 1) := by decide +kernel
theorem d_M_reads_6 : decode b_M_reads 6 = .ok (.goto 10, 3) := by decide +kernel
theorem d_M_reads_9 : decode b_M_reads 9 = .ok (.lload_n 1, 1) := by decide +kernel
theorem d_M_reads_10 : decode b_M_reads 10 = .ok (.lload 4, 2) := by decide +kernel
theorem d_M_reads_12 : decode b_M_reads 12 = .ok (.invokestatic 221, 3) := by decide +kernel
theorem d_M_reads_15 : decode b_M_reads 15 = .ok (.lxor, 1) := by decide +kernel
theorem d_M_reads_16 : decode b_M_reads 16 = .ok (.lstore 6, 2) := by decide +kernel
theorem d_M_reads_18 : decode b_M_reads 18 = .ok (.lload 6, 2) := by decide +kernel
theorem d_M_reads_20 : decode b_M_reads 20 = .ok (.bipush 56, 2) := by decide +kernel
theorem d_M_reads_22 : decode b_M_reads 22 = .ok (.lushr, 1) := by decide +kernel
theorem d_M_reads_23 : decode b_M_reads 23 = .ok (.ldc2_w 135, 3) := by decide +kernel
theorem d_M_reads_26 : decode b_M_reads 26 = .ok (.land, 1) := by decide +kernel
theorem d_M_reads_27 : decode b_M_reads 27 = .ok (.l2i, 1) := by decide +kernel
theorem d_M_reads_28 : decode b_M_reads 28 = .ok (.istore 8, 2) := by decide +kernel
theorem d_M_reads_30 : decode b_M_reads 30 = .ok (.lload 6, 2) := by decide +kernel
theorem d_M_reads_32 : decode b_M_reads 32 = .ok (.bipush 60, 2) := by decide +kernel
theorem d_M_reads_34 : decode b_M_reads 34 = .ok (.lushr, 1) := by decide +kernel
theorem d_M_reads_35 : decode b_M_reads 35 = .ok (.iload_n 3, 1) := by decide +kernel
theorem d_M_reads_36 : decode b_M_reads 36 = .ok (.i2l, 1) := by decide +kernel
theorem d_M_reads_37 : decode b_M_reads 37 = .ok (.lcmp, 1) := by decide +kernel
theorem d_M_reads_38 : decode b_M_reads 38 = .ok (.ifCond .ne 18, 3) := by decide +kernel
theorem d_M_reads_41 : decode b_M_reads 41 = .ok (.iload 8, 2) := by decide +kernel
theorem d_M_reads_43 : decode b_M_reads 43 = .ok (.i2l, 1) := by decide +kernel
theorem d_M_reads_44 : decode b_M_reads 44 = .ok (.ldc2_w 131, 3) := by decide +kernel
theorem d_M_reads_47 : decode b_M_reads 47 = .ok (.ldc2_w 224, 3) := by decide +kernel
theorem d_M_reads_50 : decode b_M_reads 50 = .ok (.invokestatic 104, 3) := by decide +kernel
theorem d_M_reads_53 : decode b_M_reads 53 = .ok (.ifCond .ne 5, 3) := by decide +kernel
theorem d_M_reads_56 : decode b_M_reads 56 = .ok (.iconst 0, 1) := by decide +kernel
theorem d_M_reads_57 : decode b_M_reads 57 = .ok (.ireturn, 1) := by decide +kernel
theorem d_M_reads_58 : decode b_M_reads 58 = .ok (.bipush 14, 2) := by decide +kernel
theorem d_M_reads_60 : decode b_M_reads 60 = .ok (.iload 8, 2) := by decide +kernel
theorem d_M_reads_62 : decode b_M_reads 62 = .ok (.isub, 1) := by decide +kernel
theorem d_M_reads_63 : decode b_M_reads 63 = .ok (.istore 9, 2) := by decide +kernel
theorem d_M_reads_65 : decode b_M_reads 65 = .ok (.aload_n 0, 1) := by decide +kernel
theorem d_M_reads_66 : decode b_M_reads 66 = .ok (.iload 8, 2) := by decide +kernel
theorem d_M_reads_68 : decode b_M_reads 68 = .ok (.putfield 226, 3) := by decide +kernel
theorem d_M_reads_71 : decode b_M_reads 71 = .ok (.aload_n 0, 1) := by decide +kernel
theorem d_M_reads_72 : decode b_M_reads 72 = .ok (.lload 6, 2) := by decide +kernel
theorem d_M_reads_74 : decode b_M_reads 74 = .ok (.iconst 4, 1) := by decide +kernel
theorem d_M_reads_75 : decode b_M_reads 75 = .ok (.iload 9, 2) := by decide +kernel
theorem d_M_reads_77 : decode b_M_reads 77 = .ok (.imul, 1) := by decide +kernel
theorem d_M_reads_78 : decode b_M_reads 78 = .ok (.lushr, 1) := by decide +kernel
theorem d_M_reads_79 : decode b_M_reads 79 = .ok (.lconst 1, 1) := by decide +kernel
theorem d_M_reads_80 : decode b_M_reads 80 = .ok (.iconst 4, 1) := by decide +kernel
theorem d_M_reads_81 : decode b_M_reads 81 = .ok (.iload 8, 2) := by decide +kernel
theorem d_M_reads_83 : decode b_M_reads 83 = .ok (.imul, 1) := by decide +kernel
theorem d_M_reads_84 : decode b_M_reads 84 = .ok (.lshl, 1) := by decide +kernel
theorem d_M_reads_85 : decode b_M_reads 85 = .ok (.lconst 1, 1) := by decide +kernel
theorem d_M_reads_86 : decode b_M_reads 86 = .ok (.lsub, 1) := by decide +kernel
theorem d_M_reads_87 : decode b_M_reads 87 = .ok (.land, 1) := by decide +kernel
theorem d_M_reads_88 : decode b_M_reads 88 = .ok (.putfield 229, 3) := by decide +kernel
theorem d_M_reads_91 : decode b_M_reads 91 = .ok (.aload_n 0, 1) := by decide +kernel
theorem d_M_reads_92 : decode b_M_reads 92 = .ok (.getfield 229, 3) := by decide +kernel
theorem d_M_reads_95 : decode b_M_reads 95 = .ok (.iconst 0, 1) := by decide +kernel
theorem d_M_reads_96 : decode b_M_reads 96 = .ok (.iload 8, 2) := by decide +kernel
theorem d_M_reads_98 : decode b_M_reads 98 = .ok (.iconst 0, 1) := by decide +kernel
theorem d_M_reads_99 : decode b_M_reads 99 = .ok (.bipush 9, 2) := by decide +kernel
theorem d_M_reads_101 : decode b_M_reads 101 = .ok (.invokestatic 217, 3) := by decide +kernel
theorem d_M_reads_104 : decode b_M_reads 104 = .ok (.ifCond .ne 5, 3) := by decide +kernel
theorem d_M_reads_107 : decode b_M_reads 107 = .ok (.iconst 0, 1) := by decide +kernel
theorem d_M_reads_108 : decode b_M_reads 108 = .ok (.ireturn, 1) := by decide +kernel
theorem d_M_reads_109 : decode b_M_reads 109 = .ok (.iload_n 3, 1) := by decide +kernel
theorem d_M_reads_110 : decode b_M_reads 110 = .ok (.iconst 1, 1) := by decide +kernel
theorem d_M_reads_111 : decode b_M_reads 111 = .ok (.if_icmp .eq 27, 3) := by decide +kernel
theorem d_M_reads_114 : decode b_M_reads 114 = .ok (.lload 6, 2) := by decide +kernel
theorem d_M_reads_116 : decode b_M_reads 116 = .ok (.iconst 0, 1) := by decide +kernel
theorem d_M_reads_117 : decode b_M_reads 117 = .ok (.iload 9, 2) := by decide +kernel
theorem d_M_reads_119 : decode b_M_reads 119 = .ok (.iload_n 3, 1) := by decide +kernel
theorem d_M_reads_120 : decode b_M_reads 120 = .ok (.ifCond .ne 8, 3) := by decide +kernel
theorem d_M_reads_123 : decode b_M_reads 123 = .ok (.bipush 15, 2) := by decide +kernel
theorem d_M_reads_125 : decode b_M_reads 125 = .ok (.goto 5, 3) := by decide +kernel
theorem d_M_reads_128 : decode b_M_reads 128 = .ok (.bipush 10, 2) := by decide +kernel
theorem d_M_reads_130 : decode b_M_reads 130 = .ok (.bipush 15, 2) := by decide +kernel
theorem d_M_reads_132 : decode b_M_reads 132 = .ok (.invokestatic 217, 3) := by decide +kernel
theorem d_M_reads_135 : decode b_M_reads 135 = .ok (.ifCond .eq 7, 3) := by decide +kernel
theorem d_M_reads_138 : decode b_M_reads 138 = .ok (.iconst 1, 1) := by decide +kernel
theorem d_M_reads_139 : decode b_M_reads 139 = .ok (.goto 4, 3) := by decide +kernel
theorem d_M_reads_142 : decode b_M_reads 142 = .ok (.iconst 0, 1) := by decide +kernel
theorem d_M_reads_143 : decode b_M_reads 143 = .ok (.ireturn, 1) := by decide +kernel
set_option maxRecDepth 100000 in
set_option maxHeartbeats 4000000 in
theorem c_M_reads (l : Launch) (G : Gt) (zm zmp zm1 zm2 zmx zmh zmt zmu zme zma zmb zmk zmc zmd zmi zmo zmf zmg zmn : Nat) (th ys : Int32) (yl yr : Int64) (yv : Nat → Int64) (yt yu ye : Nat → Int32) (ya yb : Nat → Int64) (yk : Nat → Int32) (yc yd yi : Nat → Int64) (yo : Nat → Int32) (yf yg yn : Nat → Int64) (yp yq : Int64) (yw : Int32) (yx : Int64) (b : Int64) (f : Int32) (a : Int64) : CtI l G y_M_reads b_M_reads 10 (some .boolean) rm_M_reads E0 [.ref zm, .long b, .int f, .long a] [ob zm 5 [.ref zmp, .ref zm1, .ref zm2, .ref zmx, .int th, .ref zmh, .ref zmt, .int ys, .long yl, .long yr, .ref zmu, .ref zme, .ref zma, .ref zmb, .ref zmk, .ref zmc, .ref zmd, .ref zmi, .ref zmo, .ref zmf, .ref zmg, .ref zmn, .long yp, .long yq, .int yw, .long yx], aI G zmp 32 tb_perm, aI G zm1 56 tb_c1, aI G zm2 48 tb_c2, aI G zmx 512 tb_box, aJ G zmh 6 yv, aZ G zmt 6 yt, aI G zmu 16 yu, aZ G zme 16 ye, aJ G zma 16 ya, aJ G zmb 16 yb, aZ G zmk 8 yk, aJ G zmc 8 yc, aJ G zmd 8 yd, aJ G zmi 8 yi, aI G zmo 8 yo, aJ G zmf 5 yf, aJ G zmg 8 yg, aJ G zmn 16 yn] (fun r (_ : Unit) => r = f_M_reads b f a) (fun _ => [ob zm 5 [.ref zmp, .ref zm1, .ref zm2, .ref zmx, .int th, .ref zmh, .ref zmt, .int ys, .long yl, .long yr, .ref zmu, .ref zme, .ref zma, .ref zmb, .ref zmk, .ref zmc, .ref zmd, .ref zmi, .ref zmo, .ref zmf, .ref zmg, .ref zmn, .long yp, .long yq, .int (g_M_reads_zm_24 yw b f a), .long (g_M_reads_zm_25 yx b f a)], aI G zmp 32 tb_perm, aI G zm1 56 tb_c1, aI G zm2 48 tb_c2, aI G zmx 512 tb_box, aJ G zmh 6 yv, aZ G zmt 6 yt, aI G zmu 16 yu, aZ G zme 16 ye, aJ G zma 16 ya, aJ G zmb 16 yb, aZ G zmk 8 yk, aJ G zmc 8 yc, aJ G zmd 8 yd, aJ G zmi 8 yi, aI G zmo 8 yo, aJ G zmf 5 yf, aJ G zmg 8 yg, aJ G zmn 16 yn]) 0 0 := by
  refine Ct.of (Qp := fun A => va_Qi _ (qB G A _) A) Stb_0 (by decide) (Nat.le_of_ble_eq_true rfl) ?_
  intro p e s m args below meth c A X hE hr hlk hini
  refine pv_eql (ll2 := [(0, .ref zm), (1, .long b), (3, .int f), (4, .long a)]) rfl ?_
  refine pv_iload_n X 2 d_M_reads_0 rfl ?_
  refine pv_iconst X 1 d_M_reads_1 (by decide) ?_
  refine pv_icmp_ne X 9 d_M_reads_2 rfl (fun h1 => ?_) (fun h1n => ?_)
  · skip
    refine pv_lload_n X 1 d_M_reads_9 rfl ?_
    refine pv_lload X 3 d_M_reads_10 rfl ?_
    refine pv_calll0 X (rn_S X (c_M_accountPart l G a) trivial mf_M_accountPart m_840 m_841 rfl (by decide) (by decide) rfl (Nat.le_of_ble_eq_true rfl) d_M_reads_12) ?_
    refine pv_lxor X d_M_reads_15 ?_
    refine pv_topl (mrb f b a) (by unfold mrb; rw [if_neg h1]) ?_
    refine pv_lstore (ll2 := [(6, .long (mrb f b a)), (0, .ref zm), (1, .long b), (3, .int f), (4, .long a)]) X d_M_reads_16 (by decide) rfl ?_
    refine pv_lload X 0 d_M_reads_18 rfl ?_
    refine pv_bipush X 56 d_M_reads_20 (by decide) ?_
    refine pv_lushr X d_M_reads_22 ?_
    refine pv_ldc2_w X m_727 d_M_reads_23 ?_
    refine pv_land X d_M_reads_26 ?_
    refine pv_l2i X d_M_reads_27 ?_
    refine pv_istore (ll2 := [(8, .int (((((mrb f b a).toUInt64 >>> ((56 : Int32).toInt64.toUInt64 &&& Int64.toUInt64 63)).toInt64) &&& (15 : Int64)).toInt32)), (6, .long (mrb f b a)), (0, .ref zm), (1, .long b), (3, .int f), (4, .long a)]) X d_M_reads_28 (by decide) rfl ?_
    refine pv_lload X 1 d_M_reads_30 rfl ?_
    refine pv_bipush X 60 d_M_reads_32 (by decide) ?_
    refine pv_lushr X d_M_reads_34 ?_
    refine pv_iload_n X 4 d_M_reads_35 rfl ?_
    refine pv_i2l X d_M_reads_36 ?_
    refine pv_lcmp X d_M_reads_37 ?_
    refine pv_if_ne X 56 d_M_reads_38 rfl (fun h3 => ?_) (fun h3n => ?_)
    · skip
      refine pv_iconst X 0 d_M_reads_56 (by decide) ?_
      exact pv_zret X hr hlk rfl () (by show _ = f_M_reads b f a; simp only [f_M_reads, if_neg h1, if_neg h3]) (by simp only [g_M_reads_zm_24, g_M_reads_zm_25, if_neg h1, if_neg h3]) d_M_reads_57
    · skip
      refine pv_iload X 0 d_M_reads_41 rfl ?_
      refine pv_i2l X d_M_reads_43 ?_
      refine pv_ldc2_w X m_710 d_M_reads_44 ?_
      refine pv_ldc2_w X m_818 d_M_reads_47 ?_
      refine pv_calli0 X (rn_S X (c_M_in l G ((((((mrb f b a).toUInt64 >>> ((56 : Int32).toInt64.toUInt64 &&& Int64.toUInt64 63)).toInt64) &&& (15 : Int64)).toInt32).toInt64) (4 : Int64) (12 : Int64)) trivial mf_M_in m_662 m_663 rfl (by decide) (by decide) rfl (Nat.le_of_ble_eq_true rfl) d_M_reads_50) ?_
      refine pv_if_ne X 58 d_M_reads_53 rfl (fun h5 => ?_) (fun h5n => ?_)
      · skip
        refine pv_bipush X 14 d_M_reads_58 (by decide) ?_
        refine pv_iload X 0 d_M_reads_60 rfl ?_
        refine pv_isub X d_M_reads_62 ?_
        refine pv_istore (ll2 := [(9, .int (14 - (((((mrb f b a).toUInt64 >>> ((56 : Int32).toInt64.toUInt64 &&& Int64.toUInt64 63)).toInt64) &&& (15 : Int64)).toInt32))), (8, .int (((((mrb f b a).toUInt64 >>> ((56 : Int32).toInt64.toUInt64 &&& Int64.toUInt64 63)).toInt64) &&& (15 : Int64)).toInt32)), (6, .long (mrb f b a)), (0, .ref zm), (1, .long b), (3, .int f), (4, .long a)]) X d_M_reads_63 (by decide) rfl ?_
        refine pv_aload_n X 3 d_M_reads_65 rfl ?_
        refine pv_iload X 1 d_M_reads_66 rfl ?_
        refine pv_put X (ty := .int) (ws2 := [ob zm 5 [.ref zmp, .ref zm1, .ref zm2, .ref zmx, .int th, .ref zmh, .ref zmt, .int ys, .long yl, .long yr, .ref zmu, .ref zme, .ref zma, .ref zmb, .ref zmk, .ref zmc, .ref zmd, .ref zmi, .ref zmo, .ref zmf, .ref zmg, .ref zmn, .long yp, .long yq, .int (((((mrb f b a).toUInt64 >>> ((56 : Int32).toInt64.toUInt64 &&& Int64.toUInt64 63)).toInt64) &&& (15 : Int64)).toInt32), .long yx], aI G zmp 32 tb_perm, aI G zm1 56 tb_c1, aI G zm2 48 tb_c2, aI G zmx 512 tb_box, aJ G zmh 6 yv, aZ G zmt 6 yt, aI G zmu 16 yu, aZ G zme 16 ye, aJ G zma 16 ya, aJ G zmb 16 yb, aZ G zmk 8 yk, aJ G zmc 8 yc, aJ G zmd 8 yd, aJ G zmi 8 yi, aI G zmo 8 yo, aJ G zmf 5 yf, aJ G zmg 8 yg, aJ G zmn 16 yn]) 0 24 ty_M ty_M_ok n_M u_M_in m_598 rfl rfl (by decide) ⟨rfl, rfl, rfl⟩ rfl (by decide +kernel) rfl rfl (Nat.le_of_ble_eq_true rfl) rfl d_M_reads_68 ?_
        refine pv_aload_n X 3 d_M_reads_71 rfl ?_
        refine pv_lload X 2 d_M_reads_72 rfl ?_
        refine pv_iconst X 4 d_M_reads_74 (by decide) ?_
        refine pv_iload X 0 d_M_reads_75 rfl ?_
        refine pv_imul X d_M_reads_77 ?_
        refine pv_lushr X d_M_reads_78 ?_
        refine pv_lconst X 1 d_M_reads_79 (by decide) ?_
        refine pv_iconst X 4 d_M_reads_80 (by decide) ?_
        refine pv_iload X 1 d_M_reads_81 rfl ?_
        refine pv_imul X d_M_reads_83 ?_
        refine pv_lshl X d_M_reads_84 ?_
        refine pv_lconst X 1 d_M_reads_85 (by decide) ?_
        refine pv_lsub X d_M_reads_86 ?_
        refine pv_land X d_M_reads_87 ?_
        refine pv_put X (ty := .long) (ws2 := [ob zm 5 [.ref zmp, .ref zm1, .ref zm2, .ref zmx, .int th, .ref zmh, .ref zmt, .int ys, .long yl, .long yr, .ref zmu, .ref zme, .ref zma, .ref zmb, .ref zmk, .ref zmc, .ref zmd, .ref zmi, .ref zmo, .ref zmf, .ref zmg, .ref zmn, .long yp, .long yq, .int (((((mrb f b a).toUInt64 >>> ((56 : Int32).toInt64.toUInt64 &&& Int64.toUInt64 63)).toInt64) &&& (15 : Int64)).toInt32), .long ((((mrb f b a).toUInt64 >>> ((4 * (14 - (((((mrb f b a).toUInt64 >>> ((56 : Int32).toInt64.toUInt64 &&& Int64.toUInt64 63)).toInt64) &&& (15 : Int64)).toInt32))).toInt64.toUInt64 &&& Int64.toUInt64 63)).toInt64) &&& (((1 : Int64) <<< ((4 * (((((mrb f b a).toUInt64 >>> ((56 : Int32).toInt64.toUInt64 &&& Int64.toUInt64 63)).toInt64) &&& (15 : Int64)).toInt32)).toInt64 &&& 63)) - (1 : Int64)))], aI G zmp 32 tb_perm, aI G zm1 56 tb_c1, aI G zm2 48 tb_c2, aI G zmx 512 tb_box, aJ G zmh 6 yv, aZ G zmt 6 yt, aI G zmu 16 yu, aZ G zme 16 ye, aJ G zma 16 ya, aJ G zmb 16 yb, aZ G zmk 8 yk, aJ G zmc 8 yc, aJ G zmd 8 yd, aJ G zmi 8 yi, aI G zmo 8 yo, aJ G zmf 5 yf, aJ G zmg 8 yg, aJ G zmn 16 yn]) 0 25 ty_M ty_M_ok n_M u_M_in m_599 rfl rfl (by decide) ⟨rfl, rfl, rfl⟩ rfl (by decide +kernel) rfl rfl (Nat.le_of_ble_eq_true rfl) rfl d_M_reads_88 ?_
        refine pv_aload_n X 3 d_M_reads_91 rfl ?_
        refine pv_get X 0 25 u_M_in m_599 rfl rfl (by decide) ⟨rfl, rfl, rfl⟩ rfl d_M_reads_92 ?_
        refine pv_iconst X 0 d_M_reads_95 (by decide) ?_
        refine pv_iload X 1 d_M_reads_96 rfl ?_
        refine pv_iconst X 0 d_M_reads_98 (by decide) ?_
        refine pv_bipush X 9 d_M_reads_99 (by decide) ?_
        refine pv_calli0 X (rn_S X (c_M_areDigits l G ((((mrb f b a).toUInt64 >>> ((4 * (14 - (((((mrb f b a).toUInt64 >>> ((56 : Int32).toInt64.toUInt64 &&& Int64.toUInt64 63)).toInt64) &&& (15 : Int64)).toInt32))).toInt64.toUInt64 &&& Int64.toUInt64 63)).toInt64) &&& (((1 : Int64) <<< ((4 * (((((mrb f b a).toUInt64 >>> ((56 : Int32).toInt64.toUInt64 &&& Int64.toUInt64 63)).toInt64) &&& (15 : Int64)).toInt32)).toInt64 &&& 63)) - (1 : Int64))) 0 (((((mrb f b a).toUInt64 >>> ((56 : Int32).toInt64.toUInt64 &&& Int64.toUInt64 63)).toInt64) &&& (15 : Int64)).toInt32) 0 9 rfl) trivial mf_M_areDigits m_822 m_823 rfl (by decide) (by decide) rfl (Nat.le_of_ble_eq_true rfl) d_M_reads_101) ?_
        refine pv_if_ne X 109 d_M_reads_104 rfl (fun h7 => ?_) (fun h7n => ?_)
        · skip
          refine pv_iload_n X 5 d_M_reads_109 rfl ?_
          refine pv_iconst X 1 d_M_reads_110 (by decide) ?_
          refine pv_icmp_eq X 138 d_M_reads_111 rfl (fun h => absurd h h1) (fun _ => ?_)
          refine pv_lload X 2 d_M_reads_114 rfl ?_
          refine pv_iconst X 0 d_M_reads_116 (by decide) ?_
          refine pv_iload X 0 d_M_reads_117 rfl ?_
          refine pv_iload_n X 5 d_M_reads_119 rfl ?_
          refine pv_if_ne X 128 d_M_reads_120 rfl (fun h8 => ?_) (fun h8n => ?_)
          · skip
            refine pv_bipush X 10 d_M_reads_128 (by decide) ?_
            refine pv_topi (mlow f) (by unfold mlow; rw [if_neg h8]) ?_
            refine pv_bipush X 15 d_M_reads_130 (by decide) ?_
            refine pv_calli0 X (rn_S X (c_M_areDigits l G (mrb f b a) 0 (14 - (((((mrb f b a).toUInt64 >>> ((56 : Int32).toInt64.toUInt64 &&& Int64.toUInt64 63)).toInt64) &&& (15 : Int64)).toInt32)) (mlow f) 15 rfl) trivial mf_M_areDigits m_822 m_823 rfl (by decide) (by decide) rfl (Nat.le_of_ble_eq_true rfl) d_M_reads_132) ?_
            refine pv_if_eq X 142 d_M_reads_135 rfl (fun h10 => ?_) (fun h10n => ?_)
            · skip
              refine pv_iconst X 0 d_M_reads_142 (by decide) ?_
              exact pv_zret X hr hlk rfl () (by show _ = f_M_reads b f a; simp only [f_M_reads, if_neg h1, if_pos h3n, if_neg h5, if_neg h7, if_neg h8, if_pos h10]) (by simp only [g_M_reads_zm_24, g_M_reads_zm_25, if_neg h1, if_pos h3n, if_neg h5, if_neg h7, if_neg h8, if_pos h10]) d_M_reads_143
            · skip
              refine pv_iconst X 1 d_M_reads_138 (by decide) ?_
              refine pv_goto X 143 d_M_reads_139 rfl ?_
              exact pv_zret X hr hlk rfl () (by show _ = f_M_reads b f a; simp only [f_M_reads, if_neg h1, if_pos h3n, if_neg h5, if_neg h7, if_neg h8, if_neg h10n]) (by simp only [g_M_reads_zm_24, g_M_reads_zm_25, if_neg h1, if_pos h3n, if_neg h5, if_neg h7, if_neg h8, if_neg h10n]) d_M_reads_143
          · skip
            refine pv_bipush X 15 d_M_reads_123 (by decide) ?_
            refine pv_goto X 130 d_M_reads_125 rfl ?_
            refine pv_topi (mlow f) (by unfold mlow; rw [if_pos h8n]) ?_
            refine pv_bipush X 15 d_M_reads_130 (by decide) ?_
            refine pv_calli0 X (rn_S X (c_M_areDigits l G (mrb f b a) 0 (14 - (((((mrb f b a).toUInt64 >>> ((56 : Int32).toInt64.toUInt64 &&& Int64.toUInt64 63)).toInt64) &&& (15 : Int64)).toInt32)) (mlow f) 15 rfl) trivial mf_M_areDigits m_822 m_823 rfl (by decide) (by decide) rfl (Nat.le_of_ble_eq_true rfl) d_M_reads_132) ?_
            refine pv_if_eq X 142 d_M_reads_135 rfl (fun h12 => ?_) (fun h12n => ?_)
            · skip
              refine pv_iconst X 0 d_M_reads_142 (by decide) ?_
              exact pv_zret X hr hlk rfl () (by show _ = f_M_reads b f a; simp only [f_M_reads, if_neg h1, if_pos h3n, if_neg h5, if_neg h7, if_pos h8n, if_pos h12]) (by simp only [g_M_reads_zm_24, g_M_reads_zm_25, if_neg h1, if_pos h3n, if_neg h5, if_neg h7, if_pos h8n, if_pos h12]) d_M_reads_143
            · skip
              refine pv_iconst X 1 d_M_reads_138 (by decide) ?_
              refine pv_goto X 143 d_M_reads_139 rfl ?_
              exact pv_zret X hr hlk rfl () (by show _ = f_M_reads b f a; simp only [f_M_reads, if_neg h1, if_pos h3n, if_neg h5, if_neg h7, if_pos h8n, if_neg h12n]) (by simp only [g_M_reads_zm_24, g_M_reads_zm_25, if_neg h1, if_pos h3n, if_neg h5, if_neg h7, if_pos h8n, if_neg h12n]) d_M_reads_143
        · skip
          refine pv_iconst X 0 d_M_reads_107 (by decide) ?_
          exact pv_zret X hr hlk rfl () (by show _ = f_M_reads b f a; simp only [f_M_reads, if_neg h1, if_pos h3n, if_neg h5, if_pos h7n]) (by simp only [g_M_reads_zm_24, g_M_reads_zm_25, if_neg h1, if_pos h3n, if_neg h5, if_pos h7n]) d_M_reads_108
      · skip
        refine pv_iconst X 0 d_M_reads_56 (by decide) ?_
        exact pv_zret X hr hlk rfl () (by show _ = f_M_reads b f a; simp only [f_M_reads, if_neg h1, if_pos h3n, if_pos h5n]) (by simp only [g_M_reads_zm_24, g_M_reads_zm_25, if_neg h1, if_pos h3n, if_pos h5n]) d_M_reads_57
  · skip
    refine pv_lload_n X 1 d_M_reads_5 rfl ?_
    refine pv_goto X 16 d_M_reads_6 rfl ?_
    refine pv_topl (mrb f b a) (by unfold mrb; rw [if_pos h1n]) ?_
    refine pv_lstore (ll2 := [(6, .long (mrb f b a)), (0, .ref zm), (1, .long b), (3, .int f), (4, .long a)]) X d_M_reads_16 (by decide) rfl ?_
    refine pv_lload X 0 d_M_reads_18 rfl ?_
    refine pv_bipush X 56 d_M_reads_20 (by decide) ?_
    refine pv_lushr X d_M_reads_22 ?_
    refine pv_ldc2_w X m_727 d_M_reads_23 ?_
    refine pv_land X d_M_reads_26 ?_
    refine pv_l2i X d_M_reads_27 ?_
    refine pv_istore (ll2 := [(8, .int (((((mrb f b a).toUInt64 >>> ((56 : Int32).toInt64.toUInt64 &&& Int64.toUInt64 63)).toInt64) &&& (15 : Int64)).toInt32)), (6, .long (mrb f b a)), (0, .ref zm), (1, .long b), (3, .int f), (4, .long a)]) X d_M_reads_28 (by decide) rfl ?_
    refine pv_lload X 1 d_M_reads_30 rfl ?_
    refine pv_bipush X 60 d_M_reads_32 (by decide) ?_
    refine pv_lushr X d_M_reads_34 ?_
    refine pv_iload_n X 4 d_M_reads_35 rfl ?_
    refine pv_i2l X d_M_reads_36 ?_
    refine pv_lcmp X d_M_reads_37 ?_
    refine pv_if_ne X 56 d_M_reads_38 rfl (fun h13 => ?_) (fun h13n => ?_)
    · skip
      refine pv_iconst X 0 d_M_reads_56 (by decide) ?_
      exact pv_zret X hr hlk rfl () (by show _ = f_M_reads b f a; simp only [f_M_reads, if_pos h1n, if_neg h13]) (by simp only [g_M_reads_zm_24, g_M_reads_zm_25, if_pos h1n, if_neg h13]) d_M_reads_57
    · skip
      refine pv_iload X 0 d_M_reads_41 rfl ?_
      refine pv_i2l X d_M_reads_43 ?_
      refine pv_ldc2_w X m_710 d_M_reads_44 ?_
      refine pv_ldc2_w X m_818 d_M_reads_47 ?_
      refine pv_calli0 X (rn_S X (c_M_in l G ((((((mrb f b a).toUInt64 >>> ((56 : Int32).toInt64.toUInt64 &&& Int64.toUInt64 63)).toInt64) &&& (15 : Int64)).toInt32).toInt64) (4 : Int64) (12 : Int64)) trivial mf_M_in m_662 m_663 rfl (by decide) (by decide) rfl (Nat.le_of_ble_eq_true rfl) d_M_reads_50) ?_
      refine pv_if_ne X 58 d_M_reads_53 rfl (fun h15 => ?_) (fun h15n => ?_)
      · skip
        refine pv_bipush X 14 d_M_reads_58 (by decide) ?_
        refine pv_iload X 0 d_M_reads_60 rfl ?_
        refine pv_isub X d_M_reads_62 ?_
        refine pv_istore (ll2 := [(9, .int (14 - (((((mrb f b a).toUInt64 >>> ((56 : Int32).toInt64.toUInt64 &&& Int64.toUInt64 63)).toInt64) &&& (15 : Int64)).toInt32))), (8, .int (((((mrb f b a).toUInt64 >>> ((56 : Int32).toInt64.toUInt64 &&& Int64.toUInt64 63)).toInt64) &&& (15 : Int64)).toInt32)), (6, .long (mrb f b a)), (0, .ref zm), (1, .long b), (3, .int f), (4, .long a)]) X d_M_reads_63 (by decide) rfl ?_
        refine pv_aload_n X 3 d_M_reads_65 rfl ?_
        refine pv_iload X 1 d_M_reads_66 rfl ?_
        refine pv_put X (ty := .int) (ws2 := [ob zm 5 [.ref zmp, .ref zm1, .ref zm2, .ref zmx, .int th, .ref zmh, .ref zmt, .int ys, .long yl, .long yr, .ref zmu, .ref zme, .ref zma, .ref zmb, .ref zmk, .ref zmc, .ref zmd, .ref zmi, .ref zmo, .ref zmf, .ref zmg, .ref zmn, .long yp, .long yq, .int (((((mrb f b a).toUInt64 >>> ((56 : Int32).toInt64.toUInt64 &&& Int64.toUInt64 63)).toInt64) &&& (15 : Int64)).toInt32), .long yx], aI G zmp 32 tb_perm, aI G zm1 56 tb_c1, aI G zm2 48 tb_c2, aI G zmx 512 tb_box, aJ G zmh 6 yv, aZ G zmt 6 yt, aI G zmu 16 yu, aZ G zme 16 ye, aJ G zma 16 ya, aJ G zmb 16 yb, aZ G zmk 8 yk, aJ G zmc 8 yc, aJ G zmd 8 yd, aJ G zmi 8 yi, aI G zmo 8 yo, aJ G zmf 5 yf, aJ G zmg 8 yg, aJ G zmn 16 yn]) 0 24 ty_M ty_M_ok n_M u_M_in m_598 rfl rfl (by decide) ⟨rfl, rfl, rfl⟩ rfl (by decide +kernel) rfl rfl (Nat.le_of_ble_eq_true rfl) rfl d_M_reads_68 ?_
        refine pv_aload_n X 3 d_M_reads_71 rfl ?_
        refine pv_lload X 2 d_M_reads_72 rfl ?_
        refine pv_iconst X 4 d_M_reads_74 (by decide) ?_
        refine pv_iload X 0 d_M_reads_75 rfl ?_
        refine pv_imul X d_M_reads_77 ?_
        refine pv_lushr X d_M_reads_78 ?_
        refine pv_lconst X 1 d_M_reads_79 (by decide) ?_
        refine pv_iconst X 4 d_M_reads_80 (by decide) ?_
        refine pv_iload X 1 d_M_reads_81 rfl ?_
        refine pv_imul X d_M_reads_83 ?_
        refine pv_lshl X d_M_reads_84 ?_
        refine pv_lconst X 1 d_M_reads_85 (by decide) ?_
        refine pv_lsub X d_M_reads_86 ?_
        refine pv_land X d_M_reads_87 ?_
        refine pv_put X (ty := .long) (ws2 := [ob zm 5 [.ref zmp, .ref zm1, .ref zm2, .ref zmx, .int th, .ref zmh, .ref zmt, .int ys, .long yl, .long yr, .ref zmu, .ref zme, .ref zma, .ref zmb, .ref zmk, .ref zmc, .ref zmd, .ref zmi, .ref zmo, .ref zmf, .ref zmg, .ref zmn, .long yp, .long yq, .int (((((mrb f b a).toUInt64 >>> ((56 : Int32).toInt64.toUInt64 &&& Int64.toUInt64 63)).toInt64) &&& (15 : Int64)).toInt32), .long ((((mrb f b a).toUInt64 >>> ((4 * (14 - (((((mrb f b a).toUInt64 >>> ((56 : Int32).toInt64.toUInt64 &&& Int64.toUInt64 63)).toInt64) &&& (15 : Int64)).toInt32))).toInt64.toUInt64 &&& Int64.toUInt64 63)).toInt64) &&& (((1 : Int64) <<< ((4 * (((((mrb f b a).toUInt64 >>> ((56 : Int32).toInt64.toUInt64 &&& Int64.toUInt64 63)).toInt64) &&& (15 : Int64)).toInt32)).toInt64 &&& 63)) - (1 : Int64)))], aI G zmp 32 tb_perm, aI G zm1 56 tb_c1, aI G zm2 48 tb_c2, aI G zmx 512 tb_box, aJ G zmh 6 yv, aZ G zmt 6 yt, aI G zmu 16 yu, aZ G zme 16 ye, aJ G zma 16 ya, aJ G zmb 16 yb, aZ G zmk 8 yk, aJ G zmc 8 yc, aJ G zmd 8 yd, aJ G zmi 8 yi, aI G zmo 8 yo, aJ G zmf 5 yf, aJ G zmg 8 yg, aJ G zmn 16 yn]) 0 25 ty_M ty_M_ok n_M u_M_in m_599 rfl rfl (by decide) ⟨rfl, rfl, rfl⟩ rfl (by decide +kernel) rfl rfl (Nat.le_of_ble_eq_true rfl) rfl d_M_reads_88 ?_
        refine pv_aload_n X 3 d_M_reads_91 rfl ?_
        refine pv_get X 0 25 u_M_in m_599 rfl rfl (by decide) ⟨rfl, rfl, rfl⟩ rfl d_M_reads_92 ?_
        refine pv_iconst X 0 d_M_reads_95 (by decide) ?_
        refine pv_iload X 1 d_M_reads_96 rfl ?_
        refine pv_iconst X 0 d_M_reads_98 (by decide) ?_
        refine pv_bipush X 9 d_M_reads_99 (by decide) ?_
        refine pv_calli0 X (rn_S X (c_M_areDigits l G ((((mrb f b a).toUInt64 >>> ((4 * (14 - (((((mrb f b a).toUInt64 >>> ((56 : Int32).toInt64.toUInt64 &&& Int64.toUInt64 63)).toInt64) &&& (15 : Int64)).toInt32))).toInt64.toUInt64 &&& Int64.toUInt64 63)).toInt64) &&& (((1 : Int64) <<< ((4 * (((((mrb f b a).toUInt64 >>> ((56 : Int32).toInt64.toUInt64 &&& Int64.toUInt64 63)).toInt64) &&& (15 : Int64)).toInt32)).toInt64 &&& 63)) - (1 : Int64))) 0 (((((mrb f b a).toUInt64 >>> ((56 : Int32).toInt64.toUInt64 &&& Int64.toUInt64 63)).toInt64) &&& (15 : Int64)).toInt32) 0 9 rfl) trivial mf_M_areDigits m_822 m_823 rfl (by decide) (by decide) rfl (Nat.le_of_ble_eq_true rfl) d_M_reads_101) ?_
        refine pv_if_ne X 109 d_M_reads_104 rfl (fun h17 => ?_) (fun h17n => ?_)
        · skip
          refine pv_iload_n X 5 d_M_reads_109 rfl ?_
          refine pv_iconst X 1 d_M_reads_110 (by decide) ?_
          refine pv_icmp_eq X 138 d_M_reads_111 rfl (fun _ => ?_) (fun h => absurd h1n h)
          refine pv_iconst X 1 d_M_reads_138 (by decide) ?_
          refine pv_goto X 143 d_M_reads_139 rfl ?_
          exact pv_zret X hr hlk rfl () (by show _ = f_M_reads b f a; simp only [f_M_reads, if_pos h1n, if_pos h13n, if_neg h15, if_neg h17]) (by simp only [g_M_reads_zm_24, g_M_reads_zm_25, if_pos h1n, if_pos h13n, if_neg h15, if_neg h17]) d_M_reads_143
        · skip
          refine pv_iconst X 0 d_M_reads_107 (by decide) ?_
          exact pv_zret X hr hlk rfl () (by show _ = f_M_reads b f a; simp only [f_M_reads, if_pos h1n, if_pos h13n, if_neg h15, if_pos h17n]) (by simp only [g_M_reads_zm_24, g_M_reads_zm_25, if_pos h1n, if_pos h13n, if_neg h15, if_pos h17n]) d_M_reads_108
      · skip
        refine pv_iconst X 0 d_M_reads_56 (by decide) ?_
        exact pv_zret X hr hlk rfl () (by show _ = f_M_reads b f a; simp only [f_M_reads, if_pos h1n, if_pos h13n, if_pos h15n]) (by simp only [g_M_reads_zm_24, g_M_reads_zm_25, if_pos h1n, if_pos h13n, if_pos h15n]) d_M_reads_57
def f_M_pin (ys : Int32) (yu : Nat → Int32) (yk : Nat → Int32) (k : Int32) (g : Int32) (a : Int64) (d : Int64) (z : Int64) : Int32 := if ys = 0 then (-1) else (if (f_M_in k.toInt64 (0 : Int64) (23 : Int64)) = 0 then (-2) else (if (f_M_isFormat (g >>> (4 &&& 31))) = 0 then (-2) else (if (f_M_in ((g &&& 15).toInt64) (4 : Int64) (12 : Int64)) = 0 then (-2) else (if (f_M_isAccount a) = 0 then (-2) else (if (lg_cmp ((d.toUInt64 >>> ((4 * (g &&& 15)).toInt64.toUInt64 &&& Int64.toUInt64 63)).toInt64) (0 : Int64)) = 0 then (if (f_M_areDigits d 0 (g &&& 15) 0 9) = 0 then (-2) else (if (g >>> (4 &&& 31)) = 3 then (if (f_M_areDigits z 0 (14 - (g &&& 15)) 10 15) = 0 then (-2) else (if (f_M_isThere yu yk k) = 0 then (-3) else (if (f_M_isPinKey yu k) = 0 then (-4) else 0))) else (if (f_M_isThere yu yk k) = 0 then (-3) else (if (f_M_isPinKey yu k) = 0 then (-4) else 0)))) else (-2))))))
def g_M_pin_zm_4  : Int32 := 0
def g_M_pin_zmf (ys : Int32) (yu : Nat → Int32) (ya : Nat → Int64) (yb : Nat → Int64) (yk : Nat → Int32) (yc : Nat → Int64) (yd : Nat → Int64) (yi : Nat → Int64) (yo : Nat → Int32) (yf : Nat → Int64) (yn : Nat → Int64) (k : Int32) (g : Int32) (a : Int64) (d : Int64) (z : Int64) : Nat → Int64 := if ys = 0 then yf else (if (f_M_in k.toInt64 (0 : Int64) (23 : Int64)) = 0 then yf else (if (f_M_isFormat (g >>> (4 &&& 31))) = 0 then yf else (if (f_M_in ((g &&& 15).toInt64) (4 : Int64) (12 : Int64)) = 0 then yf else (if (f_M_isAccount a) = 0 then yf else (if (lg_cmp ((d.toUInt64 >>> ((4 * (g &&& 15)).toInt64.toUInt64 &&& Int64.toUInt64 63)).toInt64) (0 : Int64)) = 0 then (if (f_M_areDigits d 0 (g &&& 15) 0 9) = 0 then yf else (if (g >>> (4 &&& 31)) = 3 then (if (f_M_areDigits z 0 (14 - (g &&& 15)) 10 15) = 0 then yf else (if (f_M_isThere yu yk k) = 0 then yf else (if (f_M_isPinKey yu k) = 0 then yf else (vp_updL yf 0 (f_M_sealBlock (g_M_pinKey_zm_22 ya yc yd yi yo yn k) (g_M_pinKey_zm_23 yb yc yd yi yo yn k) (f_M_form (g >>> (4 &&& 31)) (g &&& 15) d a z)))))) else (if (f_M_isThere yu yk k) = 0 then yf else (if (f_M_isPinKey yu k) = 0 then yf else (vp_updL yf 0 (f_M_sealBlock (g_M_pinKey_zm_22 ya yc yd yi yo yn k) (g_M_pinKey_zm_23 yb yc yd yi yo yn k) (f_M_form (g >>> (4 &&& 31)) (g &&& 15) d a z))))))) else yf)))))
abbrev rm_M_pin : Room := { frames := 6, cells := 0, slots := 0, locals := 167 }
theorem mf_M_pin : MF y_M_pin b_M_pin 12 (some .int) 5 := ⟨m_814, m_6, by decide, by decide, by decide +kernel⟩
theorem d_M_pin_0 : decode b_M_pin 0 = .ok (.aload_n 0, 1) := by decide +kernel
theorem d_M_pin_1 : decode b_M_pin 1 = .ok (.iconst 0, 1) := by decide +kernel
theorem d_M_pin_2 : decode b_M_pin 2 = .ok (.putfield 66, 3) := by decide +kernel
theorem d_M_pin_5 : decode b_M_pin 5 = .ok (.iload_n 2, 1) := by decide +kernel
theorem d_M_pin_6 : decode b_M_pin 6 = .ok (.iconst 4, 1) := by decide +kernel
theorem d_M_pin_7 : decode b_M_pin 7 = .ok (.ishr, 1) := by decide +kernel
theorem d_M_pin_8 : decode b_M_pin 8 = .ok (.istore 9, 2) := by decide +kernel
theorem d_M_pin_10 : decode b_M_pin 10 = .ok (.iload_n 2, 1) := by decide +kernel
theorem d_M_pin_11 : decode b_M_pin 11 = .ok (.bipush 15, 2) := by decide +kernel
theorem d_M_pin_13 : decode b_M_pin 13 = .ok (.iand, 1) := by decide +kernel
theorem d_M_pin_14 : decode b_M_pin 14 = .ok (.istore 10, 2) := by decide +kernel
theorem d_M_pin_16 : decode b_M_pin 16 = .ok (.aload_n 0, 1) := by decide +kernel
theorem d_M_pin_17 : decode b_M_pin 17 = .ok (.getfield 108, 3) := by decide +kernel
theorem d_M_pin_20 : decode b_M_pin 20 = .ok (.ifCond .ne 5, 3) := by decide +kernel
theorem d_M_pin_23 : decode b_M_pin 23 = .ok (.iconst (-1), 1) := by decide +kernel
theorem d_M_pin_24 : decode b_M_pin 24 = .ok (.ireturn, 1) := by decide +kernel
theorem d_M_pin_25 : decode b_M_pin 25 = .ok (.iload_n 1, 1) := by decide +kernel
theorem d_M_pin_26 : decode b_M_pin 26 = .ok (.i2l, 1) := by decide +kernel
theorem d_M_pin_27 : decode b_M_pin 27 = .ok (.lconst 0, 1) := by decide +kernel
theorem d_M_pin_28 : decode b_M_pin 28 = .ok (.ldc2_w 211, 3) := by decide +kernel
theorem d_M_pin_31 : decode b_M_pin 31 = .ok (.invokestatic 104, 3) := by decide +kernel
theorem d_M_pin_34 : decode b_M_pin 34 = .ok (.ifCond .eq 37, 3) := by decide +kernel
theorem d_M_pin_37 : decode b_M_pin 37 = .ok (.iload 9, 2) := by decide +kernel
theorem d_M_pin_39 : decode b_M_pin 39 = .ok (.invokestatic 232, 3) := by decide +kernel
theorem d_M_pin_42 : decode b_M_pin 42 = .ok (.ifCond .eq 29, 3) := by decide +kernel
theorem d_M_pin_45 : decode b_M_pin 45 = .ok (.iload 10, 2) := by decide +kernel
theorem d_M_pin_47 : decode b_M_pin 47 = .ok (.i2l, 1) := by decide +kernel
theorem d_M_pin_48 : decode b_M_pin 48 = .ok (.ldc2_w 131, 3) := by decide +kernel
theorem d_M_pin_51 : decode b_M_pin 51 = .ok (.ldc2_w 224, 3) := by decide +kernel
theorem d_M_pin_54 : decode b_M_pin 54 = .ok (.invokestatic 104, 3) := by decide +kernel
theorem d_M_pin_57 : decode b_M_pin 57 = .ok (.ifCond .eq 14, 3) := by decide +kernel
theorem d_M_pin_60 : decode b_M_pin 60 = .ok (.lload_n 3, 1) := by decide +kernel
theorem d_M_pin_61 : decode b_M_pin 61 = .ok (.invokestatic 235, 3) := by decide +kernel
theorem d_M_pin_64 : decode b_M_pin 64 = .ok (.ifCond .eq 7, 3) := by decide +kernel
theorem d_M_pin_67 : decode b_M_pin 67 = .ok (.iconst 1, 1) := by decide +kernel
theorem d_M_pin_68 : decode b_M_pin 68 = .ok (.goto 4, 3) := by decide +kernel
theorem d_M_pin_71 : decode b_M_pin 71 = .ok (.iconst 0, 1) := by decide +kernel
theorem d_M_pin_72 : decode b_M_pin 72 = .ok (.istore 11, 2) := by decide +kernel
theorem d_M_pin_74 : decode b_M_pin 74 = .ok (.iload 11, 2) := by decide +kernel
theorem d_M_pin_76 : decode b_M_pin 76 = .ok (.ifCond .eq 29, 3) := by decide +kernel
theorem d_M_pin_79 : decode b_M_pin 79 = .ok (.lload 5, 2) := by decide +kernel
theorem d_M_pin_81 : decode b_M_pin 81 = .ok (.iconst 4, 1) := by decide +kernel
theorem d_M_pin_82 : decode b_M_pin 82 = .ok (.iload 10, 2) := by decide +kernel
theorem d_M_pin_84 : decode b_M_pin 84 = .ok (.imul, 1) := by decide +kernel
theorem d_M_pin_85 : decode b_M_pin 85 = .ok (.lushr, 1) := by decide +kernel
theorem d_M_pin_86 : decode b_M_pin 86 = .ok (.lconst 0, 1) := by decide +kernel
theorem d_M_pin_87 : decode b_M_pin 87 = .ok (.lcmp, 1) := by decide +kernel
theorem d_M_pin_88 : decode b_M_pin 88 = .ok (.ifCond .ne 17, 3) := by decide +kernel
theorem d_M_pin_91 : decode b_M_pin 91 = .ok (.lload 5, 2) := by decide +kernel
theorem d_M_pin_93 : decode b_M_pin 93 = .ok (.iconst 0, 1) := by decide +kernel
theorem d_M_pin_94 : decode b_M_pin 94 = .ok (.iload 10, 2) := by decide +kernel
theorem d_M_pin_96 : decode b_M_pin 96 = .ok (.iconst 0, 1) := by decide +kernel
theorem d_M_pin_97 : decode b_M_pin 97 = .ok (.bipush 9, 2) := by decide +kernel
theorem d_M_pin_99 : decode b_M_pin 99 = .ok (.invokestatic 217, 3) := by decide +kernel
theorem d_M_pin_102 : decode b_M_pin 102 = .ok (.ifCond .ne 6, 3) := by decide +kernel
theorem d_M_pin_105 : decode b_M_pin 105 = .ok (.bipush (-2), 2) := by decide +kernel
theorem d_M_pin_107 : decode b_M_pin 107 = .ok (.ireturn, 1) := by decide +kernel
theorem d_M_pin_108 : decode b_M_pin 108 = .ok (.iload 9, 2) := by decide +kernel
theorem d_M_pin_110 : decode b_M_pin 110 = .ok (.iconst 3, 1) := by decide +kernel
theorem d_M_pin_111 : decode b_M_pin 111 = .ok (.if_icmp .ne 24, 3) := by decide +kernel
theorem d_M_pin_114 : decode b_M_pin 114 = .ok (.lload 7, 2) := by decide +kernel
theorem d_M_pin_116 : decode b_M_pin 116 = .ok (.iconst 0, 1) := by decide +kernel
theorem d_M_pin_117 : decode b_M_pin 117 = .ok (.bipush 14, 2) := by decide +kernel
theorem d_M_pin_119 : decode b_M_pin 119 = .ok (.iload 10, 2) := by decide +kernel
theorem d_M_pin_121 : decode b_M_pin 121 = .ok (.isub, 1) := by decide +kernel
theorem d_M_pin_122 : decode b_M_pin 122 = .ok (.bipush 10, 2) := by decide +kernel
theorem d_M_pin_124 : decode b_M_pin 124 = .ok (.bipush 15, 2) := by decide +kernel
theorem d_M_pin_126 : decode b_M_pin 126 = .ok (.invokestatic 217, 3) := by decide +kernel
theorem d_M_pin_129 : decode b_M_pin 129 = .ok (.ifCond .ne 6, 3) := by decide +kernel
theorem d_M_pin_132 : decode b_M_pin 132 = .ok (.bipush (-2), 2) := by decide +kernel
theorem d_M_pin_134 : decode b_M_pin 134 = .ok (.ireturn, 1) := by decide +kernel
theorem d_M_pin_135 : decode b_M_pin 135 = .ok (.aload_n 0, 1) := by decide +kernel
theorem d_M_pin_136 : decode b_M_pin 136 = .ok (.iload_n 1, 1) := by decide +kernel
theorem d_M_pin_137 : decode b_M_pin 137 = .ok (.invokevirtual 239, 3) := by decide +kernel
theorem d_M_pin_140 : decode b_M_pin 140 = .ok (.ifCond .ne 6, 3) := by decide +kernel
theorem d_M_pin_143 : decode b_M_pin 143 = .ok (.bipush (-3), 2) := by decide +kernel
theorem d_M_pin_145 : decode b_M_pin 145 = .ok (.ireturn, 1) := by decide +kernel
theorem d_M_pin_146 : decode b_M_pin 146 = .ok (.aload_n 0, 1) := by decide +kernel
theorem d_M_pin_147 : decode b_M_pin 147 = .ok (.iload_n 1, 1) := by decide +kernel
theorem d_M_pin_148 : decode b_M_pin 148 = .ok (.invokevirtual 242, 3) := by decide +kernel
theorem d_M_pin_151 : decode b_M_pin 151 = .ok (.ifCond .ne 6, 3) := by decide +kernel
theorem d_M_pin_154 : decode b_M_pin 154 = .ok (.bipush (-4), 2) := by decide +kernel
theorem d_M_pin_156 : decode b_M_pin 156 = .ok (.ireturn, 1) := by decide +kernel
theorem d_M_pin_157 : decode b_M_pin 157 = .ok (.aload_n 0, 1) := by decide +kernel
theorem d_M_pin_158 : decode b_M_pin 158 = .ok (.iload_n 1, 1) := by decide +kernel
theorem d_M_pin_159 : decode b_M_pin 159 = .ok (.invokevirtual 245, 3) := by decide +kernel
theorem d_M_pin_162 : decode b_M_pin 162 = .ok (.aload_n 0, 1) := by decide +kernel
theorem d_M_pin_163 : decode b_M_pin 163 = .ok (.getfield 57, 3) := by decide +kernel
theorem d_M_pin_166 : decode b_M_pin 166 = .ok (.iconst 0, 1) := by decide +kernel
theorem d_M_pin_167 : decode b_M_pin 167 = .ok (.aload_n 0, 1) := by decide +kernel
theorem d_M_pin_168 : decode b_M_pin 168 = .ok (.aload_n 0, 1) := by decide +kernel
theorem d_M_pin_169 : decode b_M_pin 169 = .ok (.getfield 203, 3) := by decide +kernel
theorem d_M_pin_172 : decode b_M_pin 172 = .ok (.aload_n 0, 1) := by decide +kernel
theorem d_M_pin_173 : decode b_M_pin 173 = .ok (.getfield 208, 3) := by decide +kernel
theorem d_M_pin_176 : decode b_M_pin 176 = .ok (.iload 9, 2) := by decide +kernel
theorem d_M_pin_178 : decode b_M_pin 178 = .ok (.iload 10, 2) := by decide +kernel
theorem d_M_pin_180 : decode b_M_pin 180 = .ok (.lload 5, 2) := by decide +kernel
theorem d_M_pin_182 : decode b_M_pin 182 = .ok (.lload_n 3, 1) := by decide +kernel
theorem d_M_pin_183 : decode b_M_pin 183 = .ok (.lload 7, 2) := by decide +kernel
theorem d_M_pin_185 : decode b_M_pin 185 = .ok (.invokestatic 248, 3) := by decide +kernel
theorem d_M_pin_188 : decode b_M_pin 188 = .ok (.invokevirtual 98, 3) := by decide +kernel
theorem d_M_pin_191 : decode b_M_pin 191 = .ok (.lastore, 1) := by decide +kernel
theorem d_M_pin_192 : decode b_M_pin 192 = .ok (.iconst 0, 1) := by decide +kernel
theorem d_M_pin_193 : decode b_M_pin 193 = .ok (.ireturn, 1) := by decide +kernel
set_option maxRecDepth 100000 in
set_option maxHeartbeats 4000000 in
theorem c_M_pin (l : Launch) (G : Gt) (zm zmp zm1 zm2 zmx zmh zmt zmu zme zma zmb zmk zmc zmd zmi zmo zmf zmg zmn : Nat) (th ys : Int32) (yl yr : Int64) (yv : Nat → Int64) (yt yu ye : Nat → Int32) (ya yb : Nat → Int64) (yk : Nat → Int32) (yc yd yi : Nat → Int64) (yo : Nat → Int32) (yf yg yn : Nat → Int64) (yp yq : Int64) (yw : Int32) (yx : Int64) (k g : Int32) (a d z : Int64) (hyk : ∀ j, Bo (yk j)) : CtI l G y_M_pin b_M_pin 12 (some .int) rm_M_pin E0 [.ref zm, .int k, .int g, .long a, .long d, .long z] [ob zm 5 [.ref zmp, .ref zm1, .ref zm2, .ref zmx, .int th, .ref zmh, .ref zmt, .int ys, .long yl, .long yr, .ref zmu, .ref zme, .ref zma, .ref zmb, .ref zmk, .ref zmc, .ref zmd, .ref zmi, .ref zmo, .ref zmf, .ref zmg, .ref zmn, .long yp, .long yq, .int yw, .long yx], aI G zmp 32 tb_perm, aI G zm1 56 tb_c1, aI G zm2 48 tb_c2, aI G zmx 512 tb_box, aJ G zmh 6 yv, aZ G zmt 6 yt, aI G zmu 16 yu, aZ G zme 16 ye, aJ G zma 16 ya, aJ G zmb 16 yb, aZ G zmk 8 yk, aJ G zmc 8 yc, aJ G zmd 8 yd, aJ G zmi 8 yi, aI G zmo 8 yo, aJ G zmf 5 yf, aJ G zmg 8 yg, aJ G zmn 16 yn] (fun r (_ : (Nat → Int64) × Int64 × Int64) => r = f_M_pin ys yu yk k g a d z) (fun x => [ob zm 5 [.ref zmp, .ref zm1, .ref zm2, .ref zmx, .int g_M_pin_zm_4, .ref zmh, .ref zmt, .int ys, .long yl, .long yr, .ref zmu, .ref zme, .ref zma, .ref zmb, .ref zmk, .ref zmc, .ref zmd, .ref zmi, .ref zmo, .ref zmf, .ref zmg, .ref zmn, .long x.2.1, .long x.2.2, .int yw, .long yx], aI G zmp 32 tb_perm, aI G zm1 56 tb_c1, aI G zm2 48 tb_c2, aI G zmx 512 tb_box, aJ G zmh 6 yv, aZ G zmt 6 yt, aI G zmu 16 yu, aZ G zme 16 ye, aJ G zma 16 ya, aJ G zmb 16 yb, aZ G zmk 8 yk, aJ G zmc 8 yc, aJ G zmd 8 yd, aJ G zmi 8 yi, aI G zmo 8 yo, aJ G zmf 5 (g_M_pin_zmf ys yu ya yb yk yc yd yi yo yf yn k g a d z), aJ G zmg 8 yg, aJ G zmn 16 x.1]) 0 0 := by
  refine Ct.of (Qp := fun A => va_Qi _ (qB G A _) A) Stb_0 (by decide) (Nat.le_of_ble_eq_true rfl) ?_
  intro p e s m args below meth c A X hE hr hlk hini
  refine pv_eql (ll2 := [(0, .ref zm), (1, .int k), (2, .int g), (3, .long a), (5, .long d), (7, .long z)]) rfl ?_
  refine pv_aload_n X 0 d_M_pin_0 rfl ?_
  refine pv_iconst X 0 d_M_pin_1 (by decide) ?_
  refine pv_put X (ty := .int) (ws2 := [ob zm 5 [.ref zmp, .ref zm1, .ref zm2, .ref zmx, .int 0, .ref zmh, .ref zmt, .int ys, .long yl, .long yr, .ref zmu, .ref zme, .ref zma, .ref zmb, .ref zmk, .ref zmc, .ref zmd, .ref zmi, .ref zmo, .ref zmf, .ref zmg, .ref zmn, .long yp, .long yq, .int yw, .long yx], aI G zmp 32 tb_perm, aI G zm1 56 tb_c1, aI G zm2 48 tb_c2, aI G zmx 512 tb_box, aJ G zmh 6 yv, aZ G zmt 6 yt, aI G zmu 16 yu, aZ G zme 16 ye, aJ G zma 16 ya, aJ G zmb 16 yb, aZ G zmk 8 yk, aJ G zmc 8 yc, aJ G zmd 8 yd, aJ G zmi 8 yi, aI G zmo 8 yo, aJ G zmf 5 yf, aJ G zmg 8 yg, aJ G zmn 16 yn]) 0 4 ty_M ty_M_ok n_M u_M_in m_578 rfl rfl (by decide) ⟨rfl, rfl, rfl⟩ rfl (by decide +kernel) rfl rfl (Nat.le_of_ble_eq_true rfl) rfl d_M_pin_2 ?_
  refine pv_iload_n X 2 d_M_pin_5 rfl ?_
  refine pv_iconst X 4 d_M_pin_6 (by decide) ?_
  refine pv_ishr X d_M_pin_7 ?_
  refine pv_istore (ll2 := [(9, .int (g >>> (4 &&& 31))), (0, .ref zm), (1, .int k), (2, .int g), (3, .long a), (5, .long d), (7, .long z)]) X d_M_pin_8 (by decide) rfl ?_
  refine pv_iload_n X 3 d_M_pin_10 rfl ?_
  refine pv_bipush X 15 d_M_pin_11 (by decide) ?_
  refine pv_iand X d_M_pin_13 ?_
  refine pv_istore (ll2 := [(10, .int (g &&& 15)), (9, .int (g >>> (4 &&& 31))), (0, .ref zm), (1, .int k), (2, .int g), (3, .long a), (5, .long d), (7, .long z)]) X d_M_pin_14 (by decide) rfl ?_
  refine pv_aload_n X 2 d_M_pin_16 rfl ?_
  refine pv_get X 0 7 u_M_in m_581 rfl rfl (by decide) ⟨rfl, rfl, rfl⟩ rfl d_M_pin_17 ?_
  refine pv_if_ne X 25 d_M_pin_20 rfl (fun h1 => ?_) (fun h1n => ?_)
  · skip
    refine pv_iload_n X 3 d_M_pin_25 rfl ?_
    refine pv_i2l X d_M_pin_26 ?_
    refine pv_lconst X 0 d_M_pin_27 (by decide) ?_
    refine pv_ldc2_w X m_804 d_M_pin_28 ?_
    refine pv_calli0 X (rn_S X (c_M_in l G k.toInt64 (0 : Int64) (23 : Int64)) trivial mf_M_in m_662 m_663 rfl (by decide) (by decide) rfl (Nat.le_of_ble_eq_true rfl) d_M_pin_31) ?_
    refine pv_if_eq X 71 d_M_pin_34 rfl (fun h3 => ?_) (fun h3n => ?_)
    · skip
      refine pv_iconst X 0 d_M_pin_71 (by decide) ?_
      refine pv_istore (ll2 := [(11, .int 0), (10, .int (g &&& 15)), (9, .int (g >>> (4 &&& 31))), (0, .ref zm), (1, .int k), (2, .int g), (3, .long a), (5, .long d), (7, .long z)]) X d_M_pin_72 (by decide) rfl ?_
      refine pv_iload X 0 d_M_pin_74 rfl ?_
      refine pv_if_eq X 105 d_M_pin_76 rfl (fun _ => ?_) (fun h => absurd (by decide) h)
      refine pv_bipush X (-2) d_M_pin_105 (by decide) ?_
      exact pv_iret X hr hlk (yn, yp, yq) (by show _ = f_M_pin ys yu yk k g a d z; simp only [f_M_pin, if_neg h1, if_pos h3]) (by simp only [g_M_pin_zm_4, g_M_pin_zmf, if_neg h1, if_pos h3]) d_M_pin_107
    · skip
      refine pv_iload X 1 d_M_pin_37 rfl ?_
      refine pv_calli0 X (rn_S X (c_M_isFormat l G (g >>> (4 &&& 31))) trivial mf_M_isFormat m_815 m_816 rfl (by decide) (by decide) rfl (Nat.le_of_ble_eq_true rfl) d_M_pin_39) ?_
      refine pv_if_eq X 71 d_M_pin_42 rfl (fun h5 => ?_) (fun h5n => ?_)
      · skip
        refine pv_iconst X 0 d_M_pin_71 (by decide) ?_
        refine pv_istore (ll2 := [(11, .int 0), (10, .int (g &&& 15)), (9, .int (g >>> (4 &&& 31))), (0, .ref zm), (1, .int k), (2, .int g), (3, .long a), (5, .long d), (7, .long z)]) X d_M_pin_72 (by decide) rfl ?_
        refine pv_iload X 0 d_M_pin_74 rfl ?_
        refine pv_if_eq X 105 d_M_pin_76 rfl (fun _ => ?_) (fun h => absurd (by decide) h)
        refine pv_bipush X (-2) d_M_pin_105 (by decide) ?_
        exact pv_iret X hr hlk (yn, yp, yq) (by show _ = f_M_pin ys yu yk k g a d z; simp only [f_M_pin, if_neg h1, if_neg h3n, if_pos h5]) (by simp only [g_M_pin_zm_4, g_M_pin_zmf, if_neg h1, if_neg h3n, if_pos h5]) d_M_pin_107
      · skip
        refine pv_iload X 0 d_M_pin_45 rfl ?_
        refine pv_i2l X d_M_pin_47 ?_
        refine pv_ldc2_w X m_710 d_M_pin_48 ?_
        refine pv_ldc2_w X m_818 d_M_pin_51 ?_
        refine pv_calli0 X (rn_S X (c_M_in l G ((g &&& 15).toInt64) (4 : Int64) (12 : Int64)) trivial mf_M_in m_662 m_663 rfl (by decide) (by decide) rfl (Nat.le_of_ble_eq_true rfl) d_M_pin_54) ?_
        refine pv_if_eq X 71 d_M_pin_57 rfl (fun h7 => ?_) (fun h7n => ?_)
        · skip
          refine pv_iconst X 0 d_M_pin_71 (by decide) ?_
          refine pv_istore (ll2 := [(11, .int 0), (10, .int (g &&& 15)), (9, .int (g >>> (4 &&& 31))), (0, .ref zm), (1, .int k), (2, .int g), (3, .long a), (5, .long d), (7, .long z)]) X d_M_pin_72 (by decide) rfl ?_
          refine pv_iload X 0 d_M_pin_74 rfl ?_
          refine pv_if_eq X 105 d_M_pin_76 rfl (fun _ => ?_) (fun h => absurd (by decide) h)
          refine pv_bipush X (-2) d_M_pin_105 (by decide) ?_
          exact pv_iret X hr hlk (yn, yp, yq) (by show _ = f_M_pin ys yu yk k g a d z; simp only [f_M_pin, if_neg h1, if_neg h3n, if_neg h5n, if_pos h7]) (by simp only [g_M_pin_zm_4, g_M_pin_zmf, if_neg h1, if_neg h3n, if_neg h5n, if_pos h7]) d_M_pin_107
        · skip
          refine pv_lload_n X 5 d_M_pin_60 rfl ?_
          refine pv_calli0 X (rn_S X (c_M_isAccount l G a) trivial mf_M_isAccount m_819 m_820 rfl (by decide) (by decide) rfl (Nat.le_of_ble_eq_true rfl) d_M_pin_61) ?_
          refine pv_if_eq X 71 d_M_pin_64 rfl (fun h9 => ?_) (fun h9n => ?_)
          · skip
            refine pv_iconst X 0 d_M_pin_71 (by decide) ?_
            refine pv_istore (ll2 := [(11, .int 0), (10, .int (g &&& 15)), (9, .int (g >>> (4 &&& 31))), (0, .ref zm), (1, .int k), (2, .int g), (3, .long a), (5, .long d), (7, .long z)]) X d_M_pin_72 (by decide) rfl ?_
            refine pv_iload X 0 d_M_pin_74 rfl ?_
            refine pv_if_eq X 105 d_M_pin_76 rfl (fun _ => ?_) (fun h => absurd (by decide) h)
            refine pv_bipush X (-2) d_M_pin_105 (by decide) ?_
            exact pv_iret X hr hlk (yn, yp, yq) (by show _ = f_M_pin ys yu yk k g a d z; simp only [f_M_pin, if_neg h1, if_neg h3n, if_neg h5n, if_neg h7n, if_pos h9]) (by simp only [g_M_pin_zm_4, g_M_pin_zmf, if_neg h1, if_neg h3n, if_neg h5n, if_neg h7n, if_pos h9]) d_M_pin_107
          · skip
            refine pv_iconst X 1 d_M_pin_67 (by decide) ?_
            refine pv_goto X 72 d_M_pin_68 rfl ?_
            refine pv_istore (ll2 := [(11, .int 1), (10, .int (g &&& 15)), (9, .int (g >>> (4 &&& 31))), (0, .ref zm), (1, .int k), (2, .int g), (3, .long a), (5, .long d), (7, .long z)]) X d_M_pin_72 (by decide) rfl ?_
            refine pv_iload X 0 d_M_pin_74 rfl ?_
            refine pv_if_eq X 105 d_M_pin_76 rfl (fun h => absurd h (by decide)) (fun _ => ?_)
            refine pv_lload X 7 d_M_pin_79 rfl ?_
            refine pv_iconst X 4 d_M_pin_81 (by decide) ?_
            refine pv_iload X 1 d_M_pin_82 rfl ?_
            refine pv_imul X d_M_pin_84 ?_
            refine pv_lushr X d_M_pin_85 ?_
            refine pv_lconst X 0 d_M_pin_86 (by decide) ?_
            refine pv_lcmp X d_M_pin_87 ?_
            refine pv_if_ne X 105 d_M_pin_88 rfl (fun h10 => ?_) (fun h10n => ?_)
            · skip
              refine pv_bipush X (-2) d_M_pin_105 (by decide) ?_
              exact pv_iret X hr hlk (yn, yp, yq) (by show _ = f_M_pin ys yu yk k g a d z; simp only [f_M_pin, if_neg h1, if_neg h3n, if_neg h5n, if_neg h7n, if_neg h9n, if_neg h10]) (by simp only [g_M_pin_zm_4, g_M_pin_zmf, if_neg h1, if_neg h3n, if_neg h5n, if_neg h7n, if_neg h9n, if_neg h10]) d_M_pin_107
            · skip
              refine pv_lload X 7 d_M_pin_91 rfl ?_
              refine pv_iconst X 0 d_M_pin_93 (by decide) ?_
              refine pv_iload X 1 d_M_pin_94 rfl ?_
              refine pv_iconst X 0 d_M_pin_96 (by decide) ?_
              refine pv_bipush X 9 d_M_pin_97 (by decide) ?_
              refine pv_calli0 X (rn_S X (c_M_areDigits l G d 0 (g &&& 15) 0 9 rfl) trivial mf_M_areDigits m_822 m_823 rfl (by decide) (by decide) rfl (Nat.le_of_ble_eq_true rfl) d_M_pin_99) ?_
              refine pv_if_ne X 108 d_M_pin_102 rfl (fun h12 => ?_) (fun h12n => ?_)
              · skip
                refine pv_iload X 2 d_M_pin_108 rfl ?_
                refine pv_iconst X 3 d_M_pin_110 (by decide) ?_
                refine pv_icmp_ne X 135 d_M_pin_111 rfl (fun h13 => ?_) (fun h13n => ?_)
                · skip
                  refine pv_aload_n X 3 d_M_pin_135 rfl ?_
                  refine pv_iload_n X 4 d_M_pin_136 rfl ?_
                  refine pv_calliE X (Cut.all _) (rn_V X (c_M_isThere l G zm zmp zm1 zm2 zmx zmh zmt zmu zme zma zmb zmk zmc zmd zmi zmo zmf zmg zmn 0 ys yl yr yv yt yu ye ya yb yk yc yd yi yo yf yg yn yp yq yw yx k h3n hyk) trivial mf_M_isThere m_825 m_827 ms_22 rfl 0 rfl rfl rfl (by decide) (by decide) rfl (Nat.le_of_ble_eq_true rfl) d_M_pin_137) (fun x14 => ?_)
                  refine pv_eqw (ws2 := [ob zm 5 [.ref zmp, .ref zm1, .ref zm2, .ref zmx, .int 0, .ref zmh, .ref zmt, .int ys, .long yl, .long yr, .ref zmu, .ref zme, .ref zma, .ref zmb, .ref zmk, .ref zmc, .ref zmd, .ref zmi, .ref zmo, .ref zmf, .ref zmg, .ref zmn, .long yp, .long yq, .int yw, .long yx], aI G zmp 32 tb_perm, aI G zm1 56 tb_c1, aI G zm2 48 tb_c2, aI G zmx 512 tb_box, aJ G zmh 6 yv, aZ G zmt 6 yt, aI G zmu 16 yu, aZ G zme 16 ye, aJ G zma 16 ya, aJ G zmb 16 yb, aZ G zmk 8 yk, aJ G zmc 8 yc, aJ G zmd 8 yd, aJ G zmi 8 yi, aI G zmo 8 yo, aJ G zmf 5 yf, aJ G zmg 8 yg, aJ G zmn 16 yn]) rfl ?_
                  refine pv_if_ne X 146 d_M_pin_140 rfl (fun h15 => ?_) (fun h15n => ?_)
                  · skip
                    refine pv_aload_n X 3 d_M_pin_146 rfl ?_
                    refine pv_iload_n X 4 d_M_pin_147 rfl ?_
                    refine pv_calliE X (Cut.all _) (rn_V X (c_M_isPinKey l G zm zmp zm1 zm2 zmx zmh zmt zmu zme zma zmb zmk zmc zmd zmi zmo zmf zmg zmn 0 ys yl yr yv yt yu ye ya yb yk yc yd yi yo yf yg yn yp yq yw yx k h3n) trivial mf_M_isPinKey m_829 m_831 ms_23 rfl 0 rfl rfl rfl (by decide) (by decide) rfl (Nat.le_of_ble_eq_true rfl) d_M_pin_148) (fun x16 => ?_)
                    refine pv_eqw (ws2 := [ob zm 5 [.ref zmp, .ref zm1, .ref zm2, .ref zmx, .int 0, .ref zmh, .ref zmt, .int ys, .long yl, .long yr, .ref zmu, .ref zme, .ref zma, .ref zmb, .ref zmk, .ref zmc, .ref zmd, .ref zmi, .ref zmo, .ref zmf, .ref zmg, .ref zmn, .long yp, .long yq, .int yw, .long yx], aI G zmp 32 tb_perm, aI G zm1 56 tb_c1, aI G zm2 48 tb_c2, aI G zmx 512 tb_box, aJ G zmh 6 yv, aZ G zmt 6 yt, aI G zmu 16 yu, aZ G zme 16 ye, aJ G zma 16 ya, aJ G zmb 16 yb, aZ G zmk 8 yk, aJ G zmc 8 yc, aJ G zmd 8 yd, aJ G zmi 8 yi, aI G zmo 8 yo, aJ G zmf 5 yf, aJ G zmg 8 yg, aJ G zmn 16 yn]) rfl ?_
                    refine pv_if_ne X 157 d_M_pin_151 rfl (fun h17 => ?_) (fun h17n => ?_)
                    · skip
                      refine pv_aload_n X 3 d_M_pin_157 rfl ?_
                      refine pv_iload_n X 4 d_M_pin_158 rfl ?_
                      refine pv_callv X (Cut.all _) (rn_V X (c_M_pinKey l G zm zmp zm1 zm2 zmx zmh zmt zmu zme zma zmb zmk zmc zmd zmi zmo zmf zmg zmn 0 ys yl yr yv yt yu ye ya yb yk yc yd yi yo yf yg yn yp yq yw yx k h3n) trivial mf_M_pinKey m_833 m_835 ms_24 rfl 0 rfl rfl rfl (by decide) (by decide) rfl (Nat.le_of_ble_eq_true rfl) d_M_pin_159) (fun x18 e18 => ?_)
                      refine pv_eqw (ws2 := [ob zm 5 [.ref zmp, .ref zm1, .ref zm2, .ref zmx, .int 0, .ref zmh, .ref zmt, .int ys, .long yl, .long yr, .ref zmu, .ref zme, .ref zma, .ref zmb, .ref zmk, .ref zmc, .ref zmd, .ref zmi, .ref zmo, .ref zmf, .ref zmg, .ref zmn, .long (g_M_pinKey_zm_22 ya yc yd yi yo yn k), .long (g_M_pinKey_zm_23 yb yc yd yi yo yn k), .int yw, .long yx], aI G zmp 32 tb_perm, aI G zm1 56 tb_c1, aI G zm2 48 tb_c2, aI G zmx 512 tb_box, aJ G zmh 6 yv, aZ G zmt 6 yt, aI G zmu 16 yu, aZ G zme 16 ye, aJ G zma 16 ya, aJ G zmb 16 yb, aZ G zmk 8 yk, aJ G zmc 8 yc, aJ G zmd 8 yd, aJ G zmi 8 yi, aI G zmo 8 yo, aJ G zmf 5 yf, aJ G zmg 8 yg, aJ G zmn 16 (g_M_pinKey_zmn yc yd yi yo yn k)]) rfl ?_
                      refine pv_aload_n X 3 d_M_pin_162 rfl ?_
                      refine pv_get X 0 19 u_M_in m_593 rfl rfl (by decide) ⟨rfl, rfl, rfl⟩ rfl d_M_pin_163 ?_
                      refine pv_iconst X 0 d_M_pin_166 (by decide) ?_
                      refine pv_aload_n X 3 d_M_pin_167 rfl ?_
                      refine pv_aload_n X 3 d_M_pin_168 rfl ?_
                      refine pv_get X 0 22 u_M_in m_596 rfl rfl (by decide) ⟨rfl, rfl, rfl⟩ rfl d_M_pin_169 ?_
                      refine pv_aload_n X 3 d_M_pin_172 rfl ?_
                      refine pv_get X 0 23 u_M_in m_597 rfl rfl (by decide) ⟨rfl, rfl, rfl⟩ rfl d_M_pin_173 ?_
                      refine pv_iload X 2 d_M_pin_176 rfl ?_
                      refine pv_iload X 1 d_M_pin_178 rfl ?_
                      refine pv_lload X 7 d_M_pin_180 rfl ?_
                      refine pv_lload_n X 6 d_M_pin_182 rfl ?_
                      refine pv_lload X 8 d_M_pin_183 rfl ?_
                      refine pv_calll0 X (rn_S X (c_M_form l G (g >>> (4 &&& 31)) (g &&& 15) d a z) trivial mf_M_form m_837 m_838 rfl (by decide) (by decide) rfl (Nat.le_of_ble_eq_true rfl) d_M_pin_185) ?_
                      refine pv_calllE X (Cut.all _) (rn_V X (c_M_sealBlock l G zm zmp zm1 zm2 zmx zmh zmt zmu zme zma zmb zmk zmc zmd zmi zmo zmf zmg zmn 0 ys yl yr yv yt yu ye ya yb yk yc yd yi yo yf yg (g_M_pinKey_zmn yc yd yi yo yn k) (g_M_pinKey_zm_22 ya yc yd yi yo yn k) (g_M_pinKey_zm_23 yb yc yd yi yo yn k) yw yx (g_M_pinKey_zm_22 ya yc yd yi yo yn k) (g_M_pinKey_zm_23 yb yc yd yi yo yn k) (f_M_form (g >>> (4 &&& 31)) (g &&& 15) d a z) ) trivial mf_M_sealBlock m_682 m_684 ms_14 rfl 0 rfl rfl rfl (by decide) (by decide) rfl (Nat.le_of_ble_eq_true rfl) d_M_pin_188) (fun x20 => ?_)
                      refine pv_eqw (ws2 := [ob zm 5 [.ref zmp, .ref zm1, .ref zm2, .ref zmx, .int 0, .ref zmh, .ref zmt, .int ys, .long yl, .long yr, .ref zmu, .ref zme, .ref zma, .ref zmb, .ref zmk, .ref zmc, .ref zmd, .ref zmi, .ref zmo, .ref zmf, .ref zmg, .ref zmn, .long (g_M_pinKey_zm_22 ya yc yd yi yo yn k), .long (g_M_pinKey_zm_23 yb yc yd yi yo yn k), .int yw, .long yx], aI G zmp 32 tb_perm, aI G zm1 56 tb_c1, aI G zm2 48 tb_c2, aI G zmx 512 tb_box, aJ G zmh 6 yv, aZ G zmt 6 yt, aI G zmu 16 yu, aZ G zme 16 ye, aJ G zma 16 ya, aJ G zmb 16 yb, aZ G zmk 8 yk, aJ G zmc 8 yc, aJ G zmd 8 yd, aJ G zmi 8 yi, aI G zmo 8 yo, aJ G zmf 5 yf, aJ G zmg 8 yg, aJ G zmn 16 (g_M_sealBlock_zmn (g_M_pinKey_zmn yc yd yi yo yn k) (g_M_pinKey_zm_22 ya yc yd yi yo yn k) (g_M_pinKey_zm_23 yb yc yd yi yo yn k))]) rfl ?_
                      refine pv_last (ws2 := [ob zm 5 [.ref zmp, .ref zm1, .ref zm2, .ref zmx, .int 0, .ref zmh, .ref zmt, .int ys, .long yl, .long yr, .ref zmu, .ref zme, .ref zma, .ref zmb, .ref zmk, .ref zmc, .ref zmd, .ref zmi, .ref zmo, .ref zmf, .ref zmg, .ref zmn, .long (g_M_pinKey_zm_22 ya yc yd yi yo yn k), .long (g_M_pinKey_zm_23 yb yc yd yi yo yn k), .int yw, .long yx], aI G zmp 32 tb_perm, aI G zm1 56 tb_c1, aI G zm2 48 tb_c2, aI G zmx 512 tb_box, aJ G zmh 6 yv, aZ G zmt 6 yt, aI G zmu 16 yu, aZ G zme 16 ye, aJ G zma 16 ya, aJ G zmb 16 yb, aZ G zmk 8 yk, aJ G zmc 8 yc, aJ G zmd 8 yd, aJ G zmi 8 yi, aI G zmo 8 yo, aJ G zmf 5 (vp_updL yf 0 (f_M_sealBlock (g_M_pinKey_zm_22 ya yc yd yi yo yn k) (g_M_pinKey_zm_23 yb yc yd yi yo yn k) (f_M_form (g >>> (4 &&& 31)) (g &&& 15) d a z))), aJ G zmg 8 yg, aJ G zmn 16 (g_M_sealBlock_zmn (g_M_pinKey_zmn yc yd yi yo yn k) (g_M_pinKey_zm_22 ya yc yd yi yo yn k) (g_M_pinKey_zm_23 yb yc yd yi yo yn k))]) X 16 rfl (by unfold vp_in; decide) rfl d_M_pin_191 ?_
                      refine pv_iconst X 0 d_M_pin_192 (by decide) ?_
                      exact pv_iret X hr hlk (g_M_sealBlock_zmn (g_M_pinKey_zmn yc yd yi yo yn k) (g_M_pinKey_zm_22 ya yc yd yi yo yn k) (g_M_pinKey_zm_23 yb yc yd yi yo yn k), g_M_pinKey_zm_22 ya yc yd yi yo yn k, g_M_pinKey_zm_23 yb yc yd yi yo yn k) (by show _ = f_M_pin ys yu yk k g a d z; simp only [f_M_pin, if_neg h1, if_neg h3n, if_neg h5n, if_neg h7n, if_neg h9n, if_pos h10n, if_neg h12, if_neg h13, if_neg h15, if_neg h17]) (by simp only [g_M_pin_zm_4, g_M_pin_zmf, if_neg h1, if_neg h3n, if_neg h5n, if_neg h7n, if_neg h9n, if_pos h10n, if_neg h12, if_neg h13, if_neg h15, if_neg h17]) d_M_pin_193
                    · skip
                      refine pv_bipush X (-4) d_M_pin_154 (by decide) ?_
                      exact pv_iret X hr hlk (yn, yp, yq) (by show _ = f_M_pin ys yu yk k g a d z; simp only [f_M_pin, if_neg h1, if_neg h3n, if_neg h5n, if_neg h7n, if_neg h9n, if_pos h10n, if_neg h12, if_neg h13, if_neg h15, if_pos h17n]) (by simp only [g_M_pin_zm_4, g_M_pin_zmf, if_neg h1, if_neg h3n, if_neg h5n, if_neg h7n, if_neg h9n, if_pos h10n, if_neg h12, if_neg h13, if_neg h15, if_pos h17n]) d_M_pin_156
                  · skip
                    refine pv_bipush X (-3) d_M_pin_143 (by decide) ?_
                    exact pv_iret X hr hlk (yn, yp, yq) (by show _ = f_M_pin ys yu yk k g a d z; simp only [f_M_pin, if_neg h1, if_neg h3n, if_neg h5n, if_neg h7n, if_neg h9n, if_pos h10n, if_neg h12, if_neg h13, if_pos h15n]) (by simp only [g_M_pin_zm_4, g_M_pin_zmf, if_neg h1, if_neg h3n, if_neg h5n, if_neg h7n, if_neg h9n, if_pos h10n, if_neg h12, if_neg h13, if_pos h15n]) d_M_pin_145
                · skip
                  refine pv_lload X 8 d_M_pin_114 rfl ?_
                  refine pv_iconst X 0 d_M_pin_116 (by decide) ?_
                  refine pv_bipush X 14 d_M_pin_117 (by decide) ?_
                  refine pv_iload X 1 d_M_pin_119 rfl ?_
                  refine pv_isub X d_M_pin_121 ?_
                  refine pv_bipush X 10 d_M_pin_122 (by decide) ?_
                  refine pv_bipush X 15 d_M_pin_124 (by decide) ?_
                  refine pv_calli0 X (rn_S X (c_M_areDigits l G z 0 (14 - (g &&& 15)) 10 15 rfl) trivial mf_M_areDigits m_822 m_823 rfl (by decide) (by decide) rfl (Nat.le_of_ble_eq_true rfl) d_M_pin_126) ?_
                  refine pv_if_ne X 135 d_M_pin_129 rfl (fun h22 => ?_) (fun h22n => ?_)
                  · skip
                    refine pv_aload_n X 3 d_M_pin_135 rfl ?_
                    refine pv_iload_n X 4 d_M_pin_136 rfl ?_
                    refine pv_calliE X (Cut.all _) (rn_V X (c_M_isThere l G zm zmp zm1 zm2 zmx zmh zmt zmu zme zma zmb zmk zmc zmd zmi zmo zmf zmg zmn 0 ys yl yr yv yt yu ye ya yb yk yc yd yi yo yf yg yn yp yq yw yx k h3n hyk) trivial mf_M_isThere m_825 m_827 ms_22 rfl 0 rfl rfl rfl (by decide) (by decide) rfl (Nat.le_of_ble_eq_true rfl) d_M_pin_137) (fun x23 => ?_)
                    refine pv_eqw (ws2 := [ob zm 5 [.ref zmp, .ref zm1, .ref zm2, .ref zmx, .int 0, .ref zmh, .ref zmt, .int ys, .long yl, .long yr, .ref zmu, .ref zme, .ref zma, .ref zmb, .ref zmk, .ref zmc, .ref zmd, .ref zmi, .ref zmo, .ref zmf, .ref zmg, .ref zmn, .long yp, .long yq, .int yw, .long yx], aI G zmp 32 tb_perm, aI G zm1 56 tb_c1, aI G zm2 48 tb_c2, aI G zmx 512 tb_box, aJ G zmh 6 yv, aZ G zmt 6 yt, aI G zmu 16 yu, aZ G zme 16 ye, aJ G zma 16 ya, aJ G zmb 16 yb, aZ G zmk 8 yk, aJ G zmc 8 yc, aJ G zmd 8 yd, aJ G zmi 8 yi, aI G zmo 8 yo, aJ G zmf 5 yf, aJ G zmg 8 yg, aJ G zmn 16 yn]) rfl ?_
                    refine pv_if_ne X 146 d_M_pin_140 rfl (fun h24 => ?_) (fun h24n => ?_)
                    · skip
                      refine pv_aload_n X 3 d_M_pin_146 rfl ?_
                      refine pv_iload_n X 4 d_M_pin_147 rfl ?_
                      refine pv_calliE X (Cut.all _) (rn_V X (c_M_isPinKey l G zm zmp zm1 zm2 zmx zmh zmt zmu zme zma zmb zmk zmc zmd zmi zmo zmf zmg zmn 0 ys yl yr yv yt yu ye ya yb yk yc yd yi yo yf yg yn yp yq yw yx k h3n) trivial mf_M_isPinKey m_829 m_831 ms_23 rfl 0 rfl rfl rfl (by decide) (by decide) rfl (Nat.le_of_ble_eq_true rfl) d_M_pin_148) (fun x25 => ?_)
                      refine pv_eqw (ws2 := [ob zm 5 [.ref zmp, .ref zm1, .ref zm2, .ref zmx, .int 0, .ref zmh, .ref zmt, .int ys, .long yl, .long yr, .ref zmu, .ref zme, .ref zma, .ref zmb, .ref zmk, .ref zmc, .ref zmd, .ref zmi, .ref zmo, .ref zmf, .ref zmg, .ref zmn, .long yp, .long yq, .int yw, .long yx], aI G zmp 32 tb_perm, aI G zm1 56 tb_c1, aI G zm2 48 tb_c2, aI G zmx 512 tb_box, aJ G zmh 6 yv, aZ G zmt 6 yt, aI G zmu 16 yu, aZ G zme 16 ye, aJ G zma 16 ya, aJ G zmb 16 yb, aZ G zmk 8 yk, aJ G zmc 8 yc, aJ G zmd 8 yd, aJ G zmi 8 yi, aI G zmo 8 yo, aJ G zmf 5 yf, aJ G zmg 8 yg, aJ G zmn 16 yn]) rfl ?_
                      refine pv_if_ne X 157 d_M_pin_151 rfl (fun h26 => ?_) (fun h26n => ?_)
                      · skip
                        refine pv_aload_n X 3 d_M_pin_157 rfl ?_
                        refine pv_iload_n X 4 d_M_pin_158 rfl ?_
                        refine pv_callv X (Cut.all _) (rn_V X (c_M_pinKey l G zm zmp zm1 zm2 zmx zmh zmt zmu zme zma zmb zmk zmc zmd zmi zmo zmf zmg zmn 0 ys yl yr yv yt yu ye ya yb yk yc yd yi yo yf yg yn yp yq yw yx k h3n) trivial mf_M_pinKey m_833 m_835 ms_24 rfl 0 rfl rfl rfl (by decide) (by decide) rfl (Nat.le_of_ble_eq_true rfl) d_M_pin_159) (fun x27 e27 => ?_)
                        refine pv_eqw (ws2 := [ob zm 5 [.ref zmp, .ref zm1, .ref zm2, .ref zmx, .int 0, .ref zmh, .ref zmt, .int ys, .long yl, .long yr, .ref zmu, .ref zme, .ref zma, .ref zmb, .ref zmk, .ref zmc, .ref zmd, .ref zmi, .ref zmo, .ref zmf, .ref zmg, .ref zmn, .long (g_M_pinKey_zm_22 ya yc yd yi yo yn k), .long (g_M_pinKey_zm_23 yb yc yd yi yo yn k), .int yw, .long yx], aI G zmp 32 tb_perm, aI G zm1 56 tb_c1, aI G zm2 48 tb_c2, aI G zmx 512 tb_box, aJ G zmh 6 yv, aZ G zmt 6 yt, aI G zmu 16 yu, aZ G zme 16 ye, aJ G zma 16 ya, aJ G zmb 16 yb, aZ G zmk 8 yk, aJ G zmc 8 yc, aJ G zmd 8 yd, aJ G zmi 8 yi, aI G zmo 8 yo, aJ G zmf 5 yf, aJ G zmg 8 yg, aJ G zmn 16 (g_M_pinKey_zmn yc yd yi yo yn k)]) rfl ?_
                        refine pv_aload_n X 3 d_M_pin_162 rfl ?_
                        refine pv_get X 0 19 u_M_in m_593 rfl rfl (by decide) ⟨rfl, rfl, rfl⟩ rfl d_M_pin_163 ?_
                        refine pv_iconst X 0 d_M_pin_166 (by decide) ?_
                        refine pv_aload_n X 3 d_M_pin_167 rfl ?_
                        refine pv_aload_n X 3 d_M_pin_168 rfl ?_
                        refine pv_get X 0 22 u_M_in m_596 rfl rfl (by decide) ⟨rfl, rfl, rfl⟩ rfl d_M_pin_169 ?_
                        refine pv_aload_n X 3 d_M_pin_172 rfl ?_
                        refine pv_get X 0 23 u_M_in m_597 rfl rfl (by decide) ⟨rfl, rfl, rfl⟩ rfl d_M_pin_173 ?_
                        refine pv_iload X 2 d_M_pin_176 rfl ?_
                        refine pv_iload X 1 d_M_pin_178 rfl ?_
                        refine pv_lload X 7 d_M_pin_180 rfl ?_
                        refine pv_lload_n X 6 d_M_pin_182 rfl ?_
                        refine pv_lload X 8 d_M_pin_183 rfl ?_
                        refine pv_calll0 X (rn_S X (c_M_form l G (g >>> (4 &&& 31)) (g &&& 15) d a z) trivial mf_M_form m_837 m_838 rfl (by decide) (by decide) rfl (Nat.le_of_ble_eq_true rfl) d_M_pin_185) ?_
                        refine pv_calllE X (Cut.all _) (rn_V X (c_M_sealBlock l G zm zmp zm1 zm2 zmx zmh zmt zmu zme zma zmb zmk zmc zmd zmi zmo zmf zmg zmn 0 ys yl yr yv yt yu ye ya yb yk yc yd yi yo yf yg (g_M_pinKey_zmn yc yd yi yo yn k) (g_M_pinKey_zm_22 ya yc yd yi yo yn k) (g_M_pinKey_zm_23 yb yc yd yi yo yn k) yw yx (g_M_pinKey_zm_22 ya yc yd yi yo yn k) (g_M_pinKey_zm_23 yb yc yd yi yo yn k) (f_M_form (g >>> (4 &&& 31)) (g &&& 15) d a z) ) trivial mf_M_sealBlock m_682 m_684 ms_14 rfl 0 rfl rfl rfl (by decide) (by decide) rfl (Nat.le_of_ble_eq_true rfl) d_M_pin_188) (fun x29 => ?_)
                        refine pv_eqw (ws2 := [ob zm 5 [.ref zmp, .ref zm1, .ref zm2, .ref zmx, .int 0, .ref zmh, .ref zmt, .int ys, .long yl, .long yr, .ref zmu, .ref zme, .ref zma, .ref zmb, .ref zmk, .ref zmc, .ref zmd, .ref zmi, .ref zmo, .ref zmf, .ref zmg, .ref zmn, .long (g_M_pinKey_zm_22 ya yc yd yi yo yn k), .long (g_M_pinKey_zm_23 yb yc yd yi yo yn k), .int yw, .long yx], aI G zmp 32 tb_perm, aI G zm1 56 tb_c1, aI G zm2 48 tb_c2, aI G zmx 512 tb_box, aJ G zmh 6 yv, aZ G zmt 6 yt, aI G zmu 16 yu, aZ G zme 16 ye, aJ G zma 16 ya, aJ G zmb 16 yb, aZ G zmk 8 yk, aJ G zmc 8 yc, aJ G zmd 8 yd, aJ G zmi 8 yi, aI G zmo 8 yo, aJ G zmf 5 yf, aJ G zmg 8 yg, aJ G zmn 16 (g_M_sealBlock_zmn (g_M_pinKey_zmn yc yd yi yo yn k) (g_M_pinKey_zm_22 ya yc yd yi yo yn k) (g_M_pinKey_zm_23 yb yc yd yi yo yn k))]) rfl ?_
                        refine pv_last (ws2 := [ob zm 5 [.ref zmp, .ref zm1, .ref zm2, .ref zmx, .int 0, .ref zmh, .ref zmt, .int ys, .long yl, .long yr, .ref zmu, .ref zme, .ref zma, .ref zmb, .ref zmk, .ref zmc, .ref zmd, .ref zmi, .ref zmo, .ref zmf, .ref zmg, .ref zmn, .long (g_M_pinKey_zm_22 ya yc yd yi yo yn k), .long (g_M_pinKey_zm_23 yb yc yd yi yo yn k), .int yw, .long yx], aI G zmp 32 tb_perm, aI G zm1 56 tb_c1, aI G zm2 48 tb_c2, aI G zmx 512 tb_box, aJ G zmh 6 yv, aZ G zmt 6 yt, aI G zmu 16 yu, aZ G zme 16 ye, aJ G zma 16 ya, aJ G zmb 16 yb, aZ G zmk 8 yk, aJ G zmc 8 yc, aJ G zmd 8 yd, aJ G zmi 8 yi, aI G zmo 8 yo, aJ G zmf 5 (vp_updL yf 0 (f_M_sealBlock (g_M_pinKey_zm_22 ya yc yd yi yo yn k) (g_M_pinKey_zm_23 yb yc yd yi yo yn k) (f_M_form (g >>> (4 &&& 31)) (g &&& 15) d a z))), aJ G zmg 8 yg, aJ G zmn 16 (g_M_sealBlock_zmn (g_M_pinKey_zmn yc yd yi yo yn k) (g_M_pinKey_zm_22 ya yc yd yi yo yn k) (g_M_pinKey_zm_23 yb yc yd yi yo yn k))]) X 16 rfl (by unfold vp_in; decide) rfl d_M_pin_191 ?_
                        refine pv_iconst X 0 d_M_pin_192 (by decide) ?_
                        exact pv_iret X hr hlk (g_M_sealBlock_zmn (g_M_pinKey_zmn yc yd yi yo yn k) (g_M_pinKey_zm_22 ya yc yd yi yo yn k) (g_M_pinKey_zm_23 yb yc yd yi yo yn k), g_M_pinKey_zm_22 ya yc yd yi yo yn k, g_M_pinKey_zm_23 yb yc yd yi yo yn k) (by show _ = f_M_pin ys yu yk k g a d z; simp only [f_M_pin, if_neg h1, if_neg h3n, if_neg h5n, if_neg h7n, if_neg h9n, if_pos h10n, if_neg h12, if_pos h13n, if_neg h22, if_neg h24, if_neg h26]) (by simp only [g_M_pin_zm_4, g_M_pin_zmf, if_neg h1, if_neg h3n, if_neg h5n, if_neg h7n, if_neg h9n, if_pos h10n, if_neg h12, if_pos h13n, if_neg h22, if_neg h24, if_neg h26]) d_M_pin_193
                      · skip
                        refine pv_bipush X (-4) d_M_pin_154 (by decide) ?_
                        exact pv_iret X hr hlk (yn, yp, yq) (by show _ = f_M_pin ys yu yk k g a d z; simp only [f_M_pin, if_neg h1, if_neg h3n, if_neg h5n, if_neg h7n, if_neg h9n, if_pos h10n, if_neg h12, if_pos h13n, if_neg h22, if_neg h24, if_pos h26n]) (by simp only [g_M_pin_zm_4, g_M_pin_zmf, if_neg h1, if_neg h3n, if_neg h5n, if_neg h7n, if_neg h9n, if_pos h10n, if_neg h12, if_pos h13n, if_neg h22, if_neg h24, if_pos h26n]) d_M_pin_156
                    · skip
                      refine pv_bipush X (-3) d_M_pin_143 (by decide) ?_
                      exact pv_iret X hr hlk (yn, yp, yq) (by show _ = f_M_pin ys yu yk k g a d z; simp only [f_M_pin, if_neg h1, if_neg h3n, if_neg h5n, if_neg h7n, if_neg h9n, if_pos h10n, if_neg h12, if_pos h13n, if_neg h22, if_pos h24n]) (by simp only [g_M_pin_zm_4, g_M_pin_zmf, if_neg h1, if_neg h3n, if_neg h5n, if_neg h7n, if_neg h9n, if_pos h10n, if_neg h12, if_pos h13n, if_neg h22, if_pos h24n]) d_M_pin_145
                  · skip
                    refine pv_bipush X (-2) d_M_pin_132 (by decide) ?_
                    exact pv_iret X hr hlk (yn, yp, yq) (by show _ = f_M_pin ys yu yk k g a d z; simp only [f_M_pin, if_neg h1, if_neg h3n, if_neg h5n, if_neg h7n, if_neg h9n, if_pos h10n, if_neg h12, if_pos h13n, if_pos h22n]) (by simp only [g_M_pin_zm_4, g_M_pin_zmf, if_neg h1, if_neg h3n, if_neg h5n, if_neg h7n, if_neg h9n, if_pos h10n, if_neg h12, if_pos h13n, if_pos h22n]) d_M_pin_134
              · skip
                refine pv_bipush X (-2) d_M_pin_105 (by decide) ?_
                exact pv_iret X hr hlk (yn, yp, yq) (by show _ = f_M_pin ys yu yk k g a d z; simp only [f_M_pin, if_neg h1, if_neg h3n, if_neg h5n, if_neg h7n, if_neg h9n, if_pos h10n, if_pos h12n]) (by simp only [g_M_pin_zm_4, g_M_pin_zmf, if_neg h1, if_neg h3n, if_neg h5n, if_neg h7n, if_neg h9n, if_pos h10n, if_pos h12n]) d_M_pin_107
  · skip
    refine pv_iconst X (-1) d_M_pin_23 (by decide) ?_
    exact pv_iret X hr hlk (yn, yp, yq) (by show _ = f_M_pin ys yu yk k g a d z; simp only [f_M_pin, if_pos h1n]) (by simp only [g_M_pin_zm_4, g_M_pin_zmf, if_pos h1n]) d_M_pin_24
def f_M_translate (ys : Int32) (yu : Nat → Int32) (ya : Nat → Int64) (yb : Nat → Int64) (yk : Nat → Int32) (yc : Nat → Int64) (yd : Nat → Int64) (yi : Nat → Int64) (yo : Nat → Int32) (yf : Nat → Int64) (yn : Nat → Int64) (yw : Int32) (k : Int32) (k2 : Int32) (g : Int32) (a : Int64) (z : Int64) : Int32 := if ys = 0 then (-1) else (if (f_M_in k.toInt64 (0 : Int64) (23 : Int64)) = 0 then (-2) else (if (f_M_in k2.toInt64 (0 : Int64) (23 : Int64)) = 0 then (-2) else (if (f_M_isFormat (g >>> (4 &&& 31))) = 0 then (-2) else (if (f_M_isFormat (g &&& 15)) = 0 then (-2) else (if (f_M_isAccount a) = 0 then (-2) else (if (g &&& 15) = 3 then (if (f_M_areDigits z 0 10 10 15) = 0 then (-2) else (if (f_M_isThere yu yk k) = 0 then (-3) else (if (f_M_isThere yu yk k2) = 0 then (-3) else (if (f_M_isPinKey yu k) = 0 then (-4) else (if (f_M_isPinKey yu k2) = 0 then (-4) else (if (f_M_reads (f_M_openBlock (g_M_pinKey_zm_22 ya yc yd yi yo yn k) (g_M_pinKey_zm_23 yb yc yd yi yo yn k) (yf 0)) (g >>> (4 &&& 31)) a) = 0 then (-6) else (g_M_reads_zm_24 yw (f_M_openBlock (g_M_pinKey_zm_22 ya yc yd yi yo yn k) (g_M_pinKey_zm_23 yb yc yd yi yo yn k) (yf 0)) (g >>> (4 &&& 31)) a))))))) else (if (f_M_isThere yu yk k) = 0 then (-3) else (if (f_M_isThere yu yk k2) = 0 then (-3) else (if (f_M_isPinKey yu k) = 0 then (-4) else (if (f_M_isPinKey yu k2) = 0 then (-4) else (if (f_M_reads (f_M_openBlock (g_M_pinKey_zm_22 ya yc yd yi yo yn k) (g_M_pinKey_zm_23 yb yc yd yi yo yn k) (yf 0)) (g >>> (4 &&& 31)) a) = 0 then (-6) else (g_M_reads_zm_24 yw (f_M_openBlock (g_M_pinKey_zm_22 ya yc yd yi yo yn k) (g_M_pinKey_zm_23 yb yc yd yi yo yn k) (yf 0)) (g >>> (4 &&& 31)) a))))))))))))
def g_M_translate_zm_4  : Int32 := 0
def g_M_translate_zmf (ys : Int32) (yu : Nat → Int32) (ya : Nat → Int64) (yb : Nat → Int64) (yk : Nat → Int32) (yc : Nat → Int64) (yd : Nat → Int64) (yi : Nat → Int64) (yo : Nat → Int32) (yf : Nat → Int64) (yn : Nat → Int64) (yw : Int32) (yx : Int64) (k : Int32) (k2 : Int32) (g : Int32) (a : Int64) (z : Int64) : Nat → Int64 := if ys = 0 then yf else (if (f_M_in k.toInt64 (0 : Int64) (23 : Int64)) = 0 then yf else (if (f_M_in k2.toInt64 (0 : Int64) (23 : Int64)) = 0 then yf else (if (f_M_isFormat (g >>> (4 &&& 31))) = 0 then yf else (if (f_M_isFormat (g &&& 15)) = 0 then yf else (if (f_M_isAccount a) = 0 then yf else (if (g &&& 15) = 3 then (if (f_M_areDigits z 0 10 10 15) = 0 then yf else (if (f_M_isThere yu yk k) = 0 then yf else (if (f_M_isThere yu yk k2) = 0 then yf else (if (f_M_isPinKey yu k) = 0 then yf else (if (f_M_isPinKey yu k2) = 0 then yf else (if (f_M_reads (f_M_openBlock (g_M_pinKey_zm_22 ya yc yd yi yo yn k) (g_M_pinKey_zm_23 yb yc yd yi yo yn k) (yf 0)) (g >>> (4 &&& 31)) a) = 0 then yf else (vp_updL yf 0 (f_M_sealBlock (g_M_pinKey_zm_22 ya yc yd yi yo (g_M_openBlock_zmn (g_M_pinKey_zmn yc yd yi yo yn k) (g_M_pinKey_zm_22 ya yc yd yi yo yn k) (g_M_pinKey_zm_23 yb yc yd yi yo yn k)) k2) (g_M_pinKey_zm_23 yb yc yd yi yo (g_M_openBlock_zmn (g_M_pinKey_zmn yc yd yi yo yn k) (g_M_pinKey_zm_22 ya yc yd yi yo yn k) (g_M_pinKey_zm_23 yb yc yd yi yo yn k)) k2) (f_M_form (g &&& 15) (g_M_reads_zm_24 yw (f_M_openBlock (g_M_pinKey_zm_22 ya yc yd yi yo yn k) (g_M_pinKey_zm_23 yb yc yd yi yo yn k) (yf 0)) (g >>> (4 &&& 31)) a) (g_M_reads_zm_25 yx (f_M_openBlock (g_M_pinKey_zm_22 ya yc yd yi yo yn k) (g_M_pinKey_zm_23 yb yc yd yi yo yn k) (yf 0)) (g >>> (4 &&& 31)) a) a z))))))))) else (if (f_M_isThere yu yk k) = 0 then yf else (if (f_M_isThere yu yk k2) = 0 then yf else (if (f_M_isPinKey yu k) = 0 then yf else (if (f_M_isPinKey yu k2) = 0 then yf else (if (f_M_reads (f_M_openBlock (g_M_pinKey_zm_22 ya yc yd yi yo yn k) (g_M_pinKey_zm_23 yb yc yd yi yo yn k) (yf 0)) (g >>> (4 &&& 31)) a) = 0 then yf else (vp_updL yf 0 (f_M_sealBlock (g_M_pinKey_zm_22 ya yc yd yi yo (g_M_openBlock_zmn (g_M_pinKey_zmn yc yd yi yo yn k) (g_M_pinKey_zm_22 ya yc yd yi yo yn k) (g_M_pinKey_zm_23 yb yc yd yi yo yn k)) k2) (g_M_pinKey_zm_23 yb yc yd yi yo (g_M_openBlock_zmn (g_M_pinKey_zmn yc yd yi yo yn k) (g_M_pinKey_zm_22 ya yc yd yi yo yn k) (g_M_pinKey_zm_23 yb yc yd yi yo yn k)) k2) (f_M_form (g &&& 15) (g_M_reads_zm_24 yw (f_M_openBlock (g_M_pinKey_zm_22 ya yc yd yi yo yn k) (g_M_pinKey_zm_23 yb yc yd yi yo yn k) (yf 0)) (g >>> (4 &&& 31)) a) (g_M_reads_zm_25 yx (f_M_openBlock (g_M_pinKey_zm_22 ya yc yd yi yo yn k) (g_M_pinKey_zm_23 yb yc yd yi yo yn k) (yf 0)) (g >>> (4 &&& 31)) a) a z))))))))))))))
abbrev rm_M_translate : Room := { frames := 6, cells := 0, slots := 0, locals := 167 }
theorem mf_M_translate : MF y_M_translate b_M_translate 10 (some .int) 5 := ⟨m_846, m_6, by decide, by decide, by decide +kernel⟩
theorem d_M_translate_0 : decode b_M_translate 0 = .ok (.aload_n 0, 1) := by decide +kernel
theorem d_M_translate_1 : decode b_M_translate 1 = .ok (.iconst 0, 1) := by decide +kernel
theorem d_M_translate_2 : decode b_M_translate 2 = .ok (.putfield 66, 3) := by decide +kernel
theorem d_M_translate_5 : decode b_M_translate 5 = .ok (.iload_n 3, 1) := by decide +kernel
theorem d_M_translate_6 : decode b_M_translate 6 = .ok (.iconst 4, 1) := by decide +kernel
theorem d_M_translate_7 : decode b_M_translate 7 = .ok (.ishr, 1) := by decide +kernel
theorem d_M_translate_8 : decode b_M_translate 8 = .ok (.istore 8, 2) := by decide +kernel
theorem d_M_translate_10 : decode b_M_translate 10 = .ok (.iload_n 3, 1) := by decide +kernel
theorem d_M_translate_11 : decode b_M_translate 11 = .ok (.bipush 15, 2) := by decide +kernel
theorem d_M_translate_13 : decode b_M_translate 13 = .ok (.iand, 1) := by decide +kernel
theorem d_M_translate_14 : decode b_M_translate 14 = .ok (.istore 9, 2) := by decide +kernel
theorem d_M_translate_16 : decode b_M_translate 16 = .ok (.aload_n 0, 1) := by decide +kernel
theorem d_M_translate_17 : decode b_M_translate 17 = .ok (.getfield 108, 3) := by decide +kernel
theorem d_M_translate_20 : decode b_M_translate 20 = .ok (.ifCond .ne 5, 3) := by decide +kernel
theorem d_M_translate_23 : decode b_M_translate 23 = .ok (.iconst (-1), 1) := by decide +kernel
theorem d_M_translate_24 : decode b_M_translate 24 = .ok (.ireturn, 1) := by decide +kernel
theorem d_M_translate_25 : decode b_M_translate 25 = .ok (.iload_n 1, 1) := by decide +kernel
theorem d_M_translate_26 : decode b_M_translate 26 = .ok (.i2l, 1) := by decide +kernel
theorem d_M_translate_27 : decode b_M_translate 27 = .ok (.lconst 0, 1) := by decide +kernel
theorem d_M_translate_28 : decode b_M_translate 28 = .ok (.ldc2_w 211, 3) := by decide +kernel
theorem d_M_translate_31 : decode b_M_translate 31 = .ok (.invokestatic 104, 3) := by decide +kernel
theorem d_M_translate_34 : decode b_M_translate 34 = .ok (.ifCond .eq 39, 3) := by decide +kernel
theorem d_M_translate_37 : decode b_M_translate 37 = .ok (.iload_n 2, 1) := by decide +kernel
theorem d_M_translate_38 : decode b_M_translate 38 = .ok (.i2l, 1) := by decide +kernel
theorem d_M_translate_39 : decode b_M_translate 39 = .ok (.lconst 0, 1) := by decide +kernel
theorem d_M_translate_40 : decode b_M_translate 40 = .ok (.ldc2_w 211, 3) := by decide +kernel
theorem d_M_translate_43 : decode b_M_translate 43 = .ok (.invokestatic 104, 3) := by decide +kernel
theorem d_M_translate_46 : decode b_M_translate 46 = .ok (.ifCond .eq 27, 3) := by decide +kernel
theorem d_M_translate_49 : decode b_M_translate 49 = .ok (.iload 8, 2) := by decide +kernel
theorem d_M_translate_51 : decode b_M_translate 51 = .ok (.invokestatic 232, 3) := by decide +kernel
theorem d_M_translate_54 : decode b_M_translate 54 = .ok (.ifCond .eq 19, 3) := by decide +kernel
theorem d_M_translate_57 : decode b_M_translate 57 = .ok (.iload 9, 2) := by decide +kernel
theorem d_M_translate_59 : decode b_M_translate 59 = .ok (.invokestatic 232, 3) := by decide +kernel
theorem d_M_translate_62 : decode b_M_translate 62 = .ok (.ifCond .eq 11, 3) := by decide +kernel
theorem d_M_translate_65 : decode b_M_translate 65 = .ok (.lload 4, 2) := by decide +kernel
theorem d_M_translate_67 : decode b_M_translate 67 = .ok (.invokestatic 235, 3) := by decide +kernel
theorem d_M_translate_70 : decode b_M_translate 70 = .ok (.ifCond .ne 6, 3) := by decide +kernel
theorem d_M_translate_73 : decode b_M_translate 73 = .ok (.bipush (-2), 2) := by decide +kernel
theorem d_M_translate_75 : decode b_M_translate 75 = .ok (.ireturn, 1) := by decide +kernel
theorem d_M_translate_76 : decode b_M_translate 76 = .ok (.iload 9, 2) := by decide +kernel
theorem d_M_translate_78 : decode b_M_translate 78 = .ok (.iconst 3, 1) := by decide +kernel
theorem d_M_translate_79 : decode b_M_translate 79 = .ok (.if_icmp .ne 21, 3) := by decide +kernel
theorem d_M_translate_82 : decode b_M_translate 82 = .ok (.lload 6, 2) := by decide +kernel
theorem d_M_translate_84 : decode b_M_translate 84 = .ok (.iconst 0, 1) := by decide +kernel
theorem d_M_translate_85 : decode b_M_translate 85 = .ok (.bipush 10, 2) := by decide +kernel
theorem d_M_translate_87 : decode b_M_translate 87 = .ok (.bipush 10, 2) := by decide +kernel
theorem d_M_translate_89 : decode b_M_translate 89 = .ok (.bipush 15, 2) := by decide +kernel
theorem d_M_translate_91 : decode b_M_translate 91 = .ok (.invokestatic 217, 3) := by decide +kernel
theorem d_M_translate_94 : decode b_M_translate 94 = .ok (.ifCond .ne 6, 3) := by decide +kernel
theorem d_M_translate_97 : decode b_M_translate 97 = .ok (.bipush (-2), 2) := by decide +kernel
theorem d_M_translate_99 : decode b_M_translate 99 = .ok (.ireturn, 1) := by decide +kernel
theorem d_M_translate_100 : decode b_M_translate 100 = .ok (.aload_n 0, 1) := by decide +kernel
theorem d_M_translate_101 : decode b_M_translate 101 = .ok (.iload_n 1, 1) := by decide +kernel
theorem d_M_translate_102 : decode b_M_translate 102 = .ok (.invokevirtual 239, 3) := by decide +kernel
theorem d_M_translate_105 : decode b_M_translate 105 = .ok (.ifCond .eq 11, 3) := by decide +kernel
theorem d_M_translate_108 : decode b_M_translate 108 = .ok (.aload_n 0, 1) := by decide +kernel
theorem d_M_translate_109 : decode b_M_translate 109 = .ok (.iload_n 2, 1) := by decide +kernel
theorem d_M_translate_110 : decode b_M_translate 110 = .ok (.invokevirtual 239, 3) := by decide +kernel
theorem d_M_translate_113 : decode b_M_translate 113 = .ok (.ifCond .ne 6, 3) := by decide +kernel
theorem d_M_translate_116 : decode b_M_translate 116 = .ok (.bipush (-3), 2) := by decide +kernel
theorem d_M_translate_118 : decode b_M_translate 118 = .ok (.ireturn, 1) := by decide +kernel
theorem d_M_translate_119 : decode b_M_translate 119 = .ok (.aload_n 0, 1) := by decide +kernel
theorem d_M_translate_120 : decode b_M_translate 120 = .ok (.iload_n 1, 1) := by decide +kernel
theorem d_M_translate_121 : decode b_M_translate 121 = .ok (.invokevirtual 242, 3) := by decide +kernel
theorem d_M_translate_124 : decode b_M_translate 124 = .ok (.ifCond .eq 11, 3) := by decide +kernel
theorem d_M_translate_127 : decode b_M_translate 127 = .ok (.aload_n 0, 1) := by decide +kernel
theorem d_M_translate_128 : decode b_M_translate 128 = .ok (.iload_n 2, 1) := by decide +kernel
theorem d_M_translate_129 : decode b_M_translate 129 = .ok (.invokevirtual 242, 3) := by decide +kernel
theorem d_M_translate_132 : decode b_M_translate 132 = .ok (.ifCond .ne 6, 3) := by decide +kernel
theorem d_M_translate_135 : decode b_M_translate 135 = .ok (.bipush (-4), 2) := by decide +kernel
theorem d_M_translate_137 : decode b_M_translate 137 = .ok (.ireturn, 1) := by decide +kernel
theorem d_M_translate_138 : decode b_M_translate 138 = .ok (.aload_n 0, 1) := by decide +kernel
theorem d_M_translate_139 : decode b_M_translate 139 = .ok (.iload_n 1, 1) := by decide +kernel
theorem d_M_translate_140 : decode b_M_translate 140 = .ok (.invokevirtual 245, 3) := by decide +kernel
theorem d_M_translate_143 : decode b_M_translate 143 = .ok (.aload_n 0, 1) := by decide +kernel
theorem d_M_translate_144 : decode b_M_translate 144 = .ok (.aload_n 0, 1) := by decide +kernel
theorem d_M_translate_145 : decode b_M_translate 145 = .ok (.aload_n 0, 1) := by decide +kernel
theorem d_M_translate_146 : decode b_M_translate 146 = .ok (.getfield 203, 3) := by decide +kernel
theorem d_M_translate_149 : decode b_M_translate 149 = .ok (.aload_n 0, 1) := by decide +kernel
theorem d_M_translate_150 : decode b_M_translate 150 = .ok (.getfield 208, 3) := by decide +kernel
theorem d_M_translate_153 : decode b_M_translate 153 = .ok (.aload_n 0, 1) := by decide +kernel
theorem d_M_translate_154 : decode b_M_translate 154 = .ok (.getfield 57, 3) := by decide +kernel
theorem d_M_translate_157 : decode b_M_translate 157 = .ok (.iconst 0, 1) := by decide +kernel
theorem d_M_translate_158 : decode b_M_translate 158 = .ok (.laload, 1) := by decide +kernel
theorem d_M_translate_159 : decode b_M_translate 159 = .ok (.invokevirtual 180, 3) := by decide +kernel
theorem d_M_translate_162 : decode b_M_translate 162 = .ok (.iload 8, 2) := by decide +kernel
theorem d_M_translate_164 : decode b_M_translate 164 = .ok (.lload 4, 2) := by decide +kernel
theorem d_M_translate_166 : decode b_M_translate 166 = .ok (.invokevirtual 252, 3) := by decide +kernel
theorem d_M_translate_169 : decode b_M_translate 169 = .ok (.ifCond .ne 6, 3) := by decide +kernel
theorem d_M_translate_172 : decode b_M_translate 172 = .ok (.bipush (-6), 2) := by decide +kernel
theorem d_M_translate_174 : decode b_M_translate 174 = .ok (.ireturn, 1) := by decide +kernel
theorem d_M_translate_175 : decode b_M_translate 175 = .ok (.aload_n 0, 1) := by decide +kernel
theorem d_M_translate_176 : decode b_M_translate 176 = .ok (.iload_n 2, 1) := by decide +kernel
theorem d_M_translate_177 : decode b_M_translate 177 = .ok (.invokevirtual 245, 3) := by decide +kernel
theorem d_M_translate_180 : decode b_M_translate 180 = .ok (.aload_n 0, 1) := by decide +kernel
theorem d_M_translate_181 : decode b_M_translate 181 = .ok (.getfield 57, 3) := by decide +kernel
theorem d_M_translate_184 : decode b_M_translate 184 = .ok (.iconst 0, 1) := by decide +kernel
theorem d_M_translate_185 : decode b_M_translate 185 = .ok (.aload_n 0, 1) := by decide +kernel
theorem d_M_translate_186 : decode b_M_translate 186 = .ok (.aload_n 0, 1) := by decide +kernel
theorem d_M_translate_187 : decode b_M_translate 187 = .ok (.getfield 203, 3) := by decide +kernel
theorem d_M_translate_190 : decode b_M_translate 190 = .ok (.aload_n 0, 1) := by decide +kernel
theorem d_M_translate_191 : decode b_M_translate 191 = .ok (.getfield 208, 3) := by decide +kernel
theorem d_M_translate_194 : decode b_M_translate 194 = .ok (.iload 9, 2) := by decide +kernel
theorem d_M_translate_196 : decode b_M_translate 196 = .ok (.aload_n 0, 1) := by decide +kernel
theorem d_M_translate_197 : decode b_M_translate 197 = .ok (.getfield 226, 3) := by decide +kernel
theorem d_M_translate_200 : decode b_M_translate 200 = .ok (.aload_n 0, 1) := by decide +kernel
theorem d_M_translate_201 : decode b_M_translate 201 = .ok (.getfield 229, 3) := by decide +kernel
theorem d_M_translate_204 : decode b_M_translate 204 = .ok (.lload 4, 2) := by decide +kernel
theorem d_M_translate_206 : decode b_M_translate 206 = .ok (.lload 6, 2) := by decide +kernel
theorem d_M_translate_208 : decode b_M_translate 208 = .ok (.invokestatic 248, 3) := by decide +kernel
theorem d_M_translate_211 : decode b_M_translate 211 = .ok (.invokevirtual 98, 3) := by decide +kernel
theorem d_M_translate_214 : decode b_M_translate 214 = .ok (.lastore, 1) := by decide +kernel
theorem d_M_translate_215 : decode b_M_translate 215 = .ok (.aload_n 0, 1) := by decide +kernel
theorem d_M_translate_216 : decode b_M_translate 216 = .ok (.getfield 226, 3) := by decide +kernel
theorem d_M_translate_219 : decode b_M_translate 219 = .ok (.ireturn, 1) := by decide +kernel
set_option maxRecDepth 100000 in
set_option maxHeartbeats 4000000 in
theorem c_M_translate (l : Launch) (G : Gt) (zm zmp zm1 zm2 zmx zmh zmt zmu zme zma zmb zmk zmc zmd zmi zmo zmf zmg zmn : Nat) (th ys : Int32) (yl yr : Int64) (yv : Nat → Int64) (yt yu ye : Nat → Int32) (ya yb : Nat → Int64) (yk : Nat → Int32) (yc yd yi : Nat → Int64) (yo : Nat → Int32) (yf yg yn : Nat → Int64) (yp yq : Int64) (yw : Int32) (yx : Int64) (k k2 g : Int32) (a z : Int64) (hyk : ∀ j, Bo (yk j)) : CtI l G y_M_translate b_M_translate 10 (some .int) rm_M_translate E0 [.ref zm, .int k, .int k2, .int g, .long a, .long z] [ob zm 5 [.ref zmp, .ref zm1, .ref zm2, .ref zmx, .int th, .ref zmh, .ref zmt, .int ys, .long yl, .long yr, .ref zmu, .ref zme, .ref zma, .ref zmb, .ref zmk, .ref zmc, .ref zmd, .ref zmi, .ref zmo, .ref zmf, .ref zmg, .ref zmn, .long yp, .long yq, .int yw, .long yx], aI G zmp 32 tb_perm, aI G zm1 56 tb_c1, aI G zm2 48 tb_c2, aI G zmx 512 tb_box, aJ G zmh 6 yv, aZ G zmt 6 yt, aI G zmu 16 yu, aZ G zme 16 ye, aJ G zma 16 ya, aJ G zmb 16 yb, aZ G zmk 8 yk, aJ G zmc 8 yc, aJ G zmd 8 yd, aJ G zmi 8 yi, aI G zmo 8 yo, aJ G zmf 5 yf, aJ G zmg 8 yg, aJ G zmn 16 yn] (fun r (_ : (Nat → Int64) × Int64 × Int64 × Int32 × Int64) => r = f_M_translate ys yu ya yb yk yc yd yi yo yf yn yw k k2 g a z) (fun x => [ob zm 5 [.ref zmp, .ref zm1, .ref zm2, .ref zmx, .int g_M_translate_zm_4, .ref zmh, .ref zmt, .int ys, .long yl, .long yr, .ref zmu, .ref zme, .ref zma, .ref zmb, .ref zmk, .ref zmc, .ref zmd, .ref zmi, .ref zmo, .ref zmf, .ref zmg, .ref zmn, .long x.2.1, .long x.2.2.1, .int x.2.2.2.1, .long x.2.2.2.2], aI G zmp 32 tb_perm, aI G zm1 56 tb_c1, aI G zm2 48 tb_c2, aI G zmx 512 tb_box, aJ G zmh 6 yv, aZ G zmt 6 yt, aI G zmu 16 yu, aZ G zme 16 ye, aJ G zma 16 ya, aJ G zmb 16 yb, aZ G zmk 8 yk, aJ G zmc 8 yc, aJ G zmd 8 yd, aJ G zmi 8 yi, aI G zmo 8 yo, aJ G zmf 5 (g_M_translate_zmf ys yu ya yb yk yc yd yi yo yf yn yw yx k k2 g a z), aJ G zmg 8 yg, aJ G zmn 16 x.1]) 0 0 := by
  refine Ct.of (Qp := fun A => va_Qi _ (qB G A _) A) Stb_0 (by decide) (Nat.le_of_ble_eq_true rfl) ?_
  intro p e s m args below meth c A X hE hr hlk hini
  refine pv_eql (ll2 := [(0, .ref zm), (1, .int k), (2, .int k2), (3, .int g), (4, .long a), (6, .long z)]) rfl ?_
  refine pv_aload_n X 0 d_M_translate_0 rfl ?_
  refine pv_iconst X 0 d_M_translate_1 (by decide) ?_
  refine pv_put X (ty := .int) (ws2 := [ob zm 5 [.ref zmp, .ref zm1, .ref zm2, .ref zmx, .int 0, .ref zmh, .ref zmt, .int ys, .long yl, .long yr, .ref zmu, .ref zme, .ref zma, .ref zmb, .ref zmk, .ref zmc, .ref zmd, .ref zmi, .ref zmo, .ref zmf, .ref zmg, .ref zmn, .long yp, .long yq, .int yw, .long yx], aI G zmp 32 tb_perm, aI G zm1 56 tb_c1, aI G zm2 48 tb_c2, aI G zmx 512 tb_box, aJ G zmh 6 yv, aZ G zmt 6 yt, aI G zmu 16 yu, aZ G zme 16 ye, aJ G zma 16 ya, aJ G zmb 16 yb, aZ G zmk 8 yk, aJ G zmc 8 yc, aJ G zmd 8 yd, aJ G zmi 8 yi, aI G zmo 8 yo, aJ G zmf 5 yf, aJ G zmg 8 yg, aJ G zmn 16 yn]) 0 4 ty_M ty_M_ok n_M u_M_in m_578 rfl rfl (by decide) ⟨rfl, rfl, rfl⟩ rfl (by decide +kernel) rfl rfl (Nat.le_of_ble_eq_true rfl) rfl d_M_translate_2 ?_
  refine pv_iload_n X 3 d_M_translate_5 rfl ?_
  refine pv_iconst X 4 d_M_translate_6 (by decide) ?_
  refine pv_ishr X d_M_translate_7 ?_
  refine pv_istore (ll2 := [(8, .int (g >>> (4 &&& 31))), (0, .ref zm), (1, .int k), (2, .int k2), (3, .int g), (4, .long a), (6, .long z)]) X d_M_translate_8 (by decide) rfl ?_
  refine pv_iload_n X 4 d_M_translate_10 rfl ?_
  refine pv_bipush X 15 d_M_translate_11 (by decide) ?_
  refine pv_iand X d_M_translate_13 ?_
  refine pv_istore (ll2 := [(9, .int (g &&& 15)), (8, .int (g >>> (4 &&& 31))), (0, .ref zm), (1, .int k), (2, .int k2), (3, .int g), (4, .long a), (6, .long z)]) X d_M_translate_14 (by decide) rfl ?_
  refine pv_aload_n X 2 d_M_translate_16 rfl ?_
  refine pv_get X 0 7 u_M_in m_581 rfl rfl (by decide) ⟨rfl, rfl, rfl⟩ rfl d_M_translate_17 ?_
  refine pv_if_ne X 25 d_M_translate_20 rfl (fun h1 => ?_) (fun h1n => ?_)
  · skip
    refine pv_iload_n X 3 d_M_translate_25 rfl ?_
    refine pv_i2l X d_M_translate_26 ?_
    refine pv_lconst X 0 d_M_translate_27 (by decide) ?_
    refine pv_ldc2_w X m_804 d_M_translate_28 ?_
    refine pv_calli0 X (rn_S X (c_M_in l G k.toInt64 (0 : Int64) (23 : Int64)) trivial mf_M_in m_662 m_663 rfl (by decide) (by decide) rfl (Nat.le_of_ble_eq_true rfl) d_M_translate_31) ?_
    refine pv_if_eq X 73 d_M_translate_34 rfl (fun h3 => ?_) (fun h3n => ?_)
    · skip
      refine pv_bipush X (-2) d_M_translate_73 (by decide) ?_
      exact pv_iret X hr hlk (yn, yp, yq, yw, yx) (by show _ = f_M_translate ys yu ya yb yk yc yd yi yo yf yn yw k k2 g a z; simp only [f_M_translate, if_neg h1, if_pos h3]) (by simp only [g_M_translate_zm_4, g_M_translate_zmf, if_neg h1, if_pos h3]) d_M_translate_75
    · skip
      refine pv_iload_n X 4 d_M_translate_37 rfl ?_
      refine pv_i2l X d_M_translate_38 ?_
      refine pv_lconst X 0 d_M_translate_39 (by decide) ?_
      refine pv_ldc2_w X m_804 d_M_translate_40 ?_
      refine pv_calli0 X (rn_S X (c_M_in l G k2.toInt64 (0 : Int64) (23 : Int64)) trivial mf_M_in m_662 m_663 rfl (by decide) (by decide) rfl (Nat.le_of_ble_eq_true rfl) d_M_translate_43) ?_
      refine pv_if_eq X 73 d_M_translate_46 rfl (fun h5 => ?_) (fun h5n => ?_)
      · skip
        refine pv_bipush X (-2) d_M_translate_73 (by decide) ?_
        exact pv_iret X hr hlk (yn, yp, yq, yw, yx) (by show _ = f_M_translate ys yu ya yb yk yc yd yi yo yf yn yw k k2 g a z; simp only [f_M_translate, if_neg h1, if_neg h3n, if_pos h5]) (by simp only [g_M_translate_zm_4, g_M_translate_zmf, if_neg h1, if_neg h3n, if_pos h5]) d_M_translate_75
      · skip
        refine pv_iload X 1 d_M_translate_49 rfl ?_
        refine pv_calli0 X (rn_S X (c_M_isFormat l G (g >>> (4 &&& 31))) trivial mf_M_isFormat m_815 m_816 rfl (by decide) (by decide) rfl (Nat.le_of_ble_eq_true rfl) d_M_translate_51) ?_
        refine pv_if_eq X 73 d_M_translate_54 rfl (fun h7 => ?_) (fun h7n => ?_)
        · skip
          refine pv_bipush X (-2) d_M_translate_73 (by decide) ?_
          exact pv_iret X hr hlk (yn, yp, yq, yw, yx) (by show _ = f_M_translate ys yu ya yb yk yc yd yi yo yf yn yw k k2 g a z; simp only [f_M_translate, if_neg h1, if_neg h3n, if_neg h5n, if_pos h7]) (by simp only [g_M_translate_zm_4, g_M_translate_zmf, if_neg h1, if_neg h3n, if_neg h5n, if_pos h7]) d_M_translate_75
        · skip
          refine pv_iload X 0 d_M_translate_57 rfl ?_
          refine pv_calli0 X (rn_S X (c_M_isFormat l G (g &&& 15)) trivial mf_M_isFormat m_815 m_816 rfl (by decide) (by decide) rfl (Nat.le_of_ble_eq_true rfl) d_M_translate_59) ?_
          refine pv_if_eq X 73 d_M_translate_62 rfl (fun h9 => ?_) (fun h9n => ?_)
          · skip
            refine pv_bipush X (-2) d_M_translate_73 (by decide) ?_
            exact pv_iret X hr hlk (yn, yp, yq, yw, yx) (by show _ = f_M_translate ys yu ya yb yk yc yd yi yo yf yn yw k k2 g a z; simp only [f_M_translate, if_neg h1, if_neg h3n, if_neg h5n, if_neg h7n, if_pos h9]) (by simp only [g_M_translate_zm_4, g_M_translate_zmf, if_neg h1, if_neg h3n, if_neg h5n, if_neg h7n, if_pos h9]) d_M_translate_75
          · skip
            refine pv_lload X 6 d_M_translate_65 rfl ?_
            refine pv_calli0 X (rn_S X (c_M_isAccount l G a) trivial mf_M_isAccount m_819 m_820 rfl (by decide) (by decide) rfl (Nat.le_of_ble_eq_true rfl) d_M_translate_67) ?_
            refine pv_if_ne X 76 d_M_translate_70 rfl (fun h11 => ?_) (fun h11n => ?_)
            · skip
              refine pv_iload X 0 d_M_translate_76 rfl ?_
              refine pv_iconst X 3 d_M_translate_78 (by decide) ?_
              refine pv_icmp_ne X 100 d_M_translate_79 rfl (fun h12 => ?_) (fun h12n => ?_)
              · skip
                refine pv_aload_n X 2 d_M_translate_100 rfl ?_
                refine pv_iload_n X 3 d_M_translate_101 rfl ?_
                refine pv_calliE X (Cut.all _) (rn_V X (c_M_isThere l G zm zmp zm1 zm2 zmx zmh zmt zmu zme zma zmb zmk zmc zmd zmi zmo zmf zmg zmn 0 ys yl yr yv yt yu ye ya yb yk yc yd yi yo yf yg yn yp yq yw yx k h3n hyk) trivial mf_M_isThere m_825 m_827 ms_22 rfl 0 rfl rfl rfl (by decide) (by decide) rfl (Nat.le_of_ble_eq_true rfl) d_M_translate_102) (fun x13 => ?_)
                refine pv_eqw (ws2 := [ob zm 5 [.ref zmp, .ref zm1, .ref zm2, .ref zmx, .int 0, .ref zmh, .ref zmt, .int ys, .long yl, .long yr, .ref zmu, .ref zme, .ref zma, .ref zmb, .ref zmk, .ref zmc, .ref zmd, .ref zmi, .ref zmo, .ref zmf, .ref zmg, .ref zmn, .long yp, .long yq, .int yw, .long yx], aI G zmp 32 tb_perm, aI G zm1 56 tb_c1, aI G zm2 48 tb_c2, aI G zmx 512 tb_box, aJ G zmh 6 yv, aZ G zmt 6 yt, aI G zmu 16 yu, aZ G zme 16 ye, aJ G zma 16 ya, aJ G zmb 16 yb, aZ G zmk 8 yk, aJ G zmc 8 yc, aJ G zmd 8 yd, aJ G zmi 8 yi, aI G zmo 8 yo, aJ G zmf 5 yf, aJ G zmg 8 yg, aJ G zmn 16 yn]) rfl ?_
                refine pv_if_eq X 116 d_M_translate_105 rfl (fun h14 => ?_) (fun h14n => ?_)
                · skip
                  refine pv_bipush X (-3) d_M_translate_116 (by decide) ?_
                  exact pv_iret X hr hlk (yn, yp, yq, yw, yx) (by show _ = f_M_translate ys yu ya yb yk yc yd yi yo yf yn yw k k2 g a z; simp only [f_M_translate, if_neg h1, if_neg h3n, if_neg h5n, if_neg h7n, if_neg h9n, if_neg h11, if_neg h12, if_pos h14]) (by simp only [g_M_translate_zm_4, g_M_translate_zmf, if_neg h1, if_neg h3n, if_neg h5n, if_neg h7n, if_neg h9n, if_neg h11, if_neg h12, if_pos h14]) d_M_translate_118
                · skip
                  refine pv_aload_n X 2 d_M_translate_108 rfl ?_
                  refine pv_iload_n X 4 d_M_translate_109 rfl ?_
                  refine pv_calliE X (Cut.all _) (rn_V X (c_M_isThere l G zm zmp zm1 zm2 zmx zmh zmt zmu zme zma zmb zmk zmc zmd zmi zmo zmf zmg zmn 0 ys yl yr yv yt yu ye ya yb yk yc yd yi yo yf yg yn yp yq yw yx k2 h5n hyk) trivial mf_M_isThere m_825 m_827 ms_22 rfl 0 rfl rfl rfl (by decide) (by decide) rfl (Nat.le_of_ble_eq_true rfl) d_M_translate_110) (fun x15 => ?_)
                  refine pv_eqw (ws2 := [ob zm 5 [.ref zmp, .ref zm1, .ref zm2, .ref zmx, .int 0, .ref zmh, .ref zmt, .int ys, .long yl, .long yr, .ref zmu, .ref zme, .ref zma, .ref zmb, .ref zmk, .ref zmc, .ref zmd, .ref zmi, .ref zmo, .ref zmf, .ref zmg, .ref zmn, .long yp, .long yq, .int yw, .long yx], aI G zmp 32 tb_perm, aI G zm1 56 tb_c1, aI G zm2 48 tb_c2, aI G zmx 512 tb_box, aJ G zmh 6 yv, aZ G zmt 6 yt, aI G zmu 16 yu, aZ G zme 16 ye, aJ G zma 16 ya, aJ G zmb 16 yb, aZ G zmk 8 yk, aJ G zmc 8 yc, aJ G zmd 8 yd, aJ G zmi 8 yi, aI G zmo 8 yo, aJ G zmf 5 yf, aJ G zmg 8 yg, aJ G zmn 16 yn]) rfl ?_
                  refine pv_if_ne X 119 d_M_translate_113 rfl (fun h16 => ?_) (fun h16n => ?_)
                  · skip
                    refine pv_aload_n X 2 d_M_translate_119 rfl ?_
                    refine pv_iload_n X 3 d_M_translate_120 rfl ?_
                    refine pv_calliE X (Cut.all _) (rn_V X (c_M_isPinKey l G zm zmp zm1 zm2 zmx zmh zmt zmu zme zma zmb zmk zmc zmd zmi zmo zmf zmg zmn 0 ys yl yr yv yt yu ye ya yb yk yc yd yi yo yf yg yn yp yq yw yx k h3n) trivial mf_M_isPinKey m_829 m_831 ms_23 rfl 0 rfl rfl rfl (by decide) (by decide) rfl (Nat.le_of_ble_eq_true rfl) d_M_translate_121) (fun x17 => ?_)
                    refine pv_eqw (ws2 := [ob zm 5 [.ref zmp, .ref zm1, .ref zm2, .ref zmx, .int 0, .ref zmh, .ref zmt, .int ys, .long yl, .long yr, .ref zmu, .ref zme, .ref zma, .ref zmb, .ref zmk, .ref zmc, .ref zmd, .ref zmi, .ref zmo, .ref zmf, .ref zmg, .ref zmn, .long yp, .long yq, .int yw, .long yx], aI G zmp 32 tb_perm, aI G zm1 56 tb_c1, aI G zm2 48 tb_c2, aI G zmx 512 tb_box, aJ G zmh 6 yv, aZ G zmt 6 yt, aI G zmu 16 yu, aZ G zme 16 ye, aJ G zma 16 ya, aJ G zmb 16 yb, aZ G zmk 8 yk, aJ G zmc 8 yc, aJ G zmd 8 yd, aJ G zmi 8 yi, aI G zmo 8 yo, aJ G zmf 5 yf, aJ G zmg 8 yg, aJ G zmn 16 yn]) rfl ?_
                    refine pv_if_eq X 135 d_M_translate_124 rfl (fun h18 => ?_) (fun h18n => ?_)
                    · skip
                      refine pv_bipush X (-4) d_M_translate_135 (by decide) ?_
                      exact pv_iret X hr hlk (yn, yp, yq, yw, yx) (by show _ = f_M_translate ys yu ya yb yk yc yd yi yo yf yn yw k k2 g a z; simp only [f_M_translate, if_neg h1, if_neg h3n, if_neg h5n, if_neg h7n, if_neg h9n, if_neg h11, if_neg h12, if_neg h14n, if_neg h16, if_pos h18]) (by simp only [g_M_translate_zm_4, g_M_translate_zmf, if_neg h1, if_neg h3n, if_neg h5n, if_neg h7n, if_neg h9n, if_neg h11, if_neg h12, if_neg h14n, if_neg h16, if_pos h18]) d_M_translate_137
                    · skip
                      refine pv_aload_n X 2 d_M_translate_127 rfl ?_
                      refine pv_iload_n X 4 d_M_translate_128 rfl ?_
                      refine pv_calliE X (Cut.all _) (rn_V X (c_M_isPinKey l G zm zmp zm1 zm2 zmx zmh zmt zmu zme zma zmb zmk zmc zmd zmi zmo zmf zmg zmn 0 ys yl yr yv yt yu ye ya yb yk yc yd yi yo yf yg yn yp yq yw yx k2 h5n) trivial mf_M_isPinKey m_829 m_831 ms_23 rfl 0 rfl rfl rfl (by decide) (by decide) rfl (Nat.le_of_ble_eq_true rfl) d_M_translate_129) (fun x19 => ?_)
                      refine pv_eqw (ws2 := [ob zm 5 [.ref zmp, .ref zm1, .ref zm2, .ref zmx, .int 0, .ref zmh, .ref zmt, .int ys, .long yl, .long yr, .ref zmu, .ref zme, .ref zma, .ref zmb, .ref zmk, .ref zmc, .ref zmd, .ref zmi, .ref zmo, .ref zmf, .ref zmg, .ref zmn, .long yp, .long yq, .int yw, .long yx], aI G zmp 32 tb_perm, aI G zm1 56 tb_c1, aI G zm2 48 tb_c2, aI G zmx 512 tb_box, aJ G zmh 6 yv, aZ G zmt 6 yt, aI G zmu 16 yu, aZ G zme 16 ye, aJ G zma 16 ya, aJ G zmb 16 yb, aZ G zmk 8 yk, aJ G zmc 8 yc, aJ G zmd 8 yd, aJ G zmi 8 yi, aI G zmo 8 yo, aJ G zmf 5 yf, aJ G zmg 8 yg, aJ G zmn 16 yn]) rfl ?_
                      refine pv_if_ne X 138 d_M_translate_132 rfl (fun h20 => ?_) (fun h20n => ?_)
                      · skip
                        refine pv_aload_n X 2 d_M_translate_138 rfl ?_
                        refine pv_iload_n X 3 d_M_translate_139 rfl ?_
                        refine pv_callv X (Cut.all _) (rn_V X (c_M_pinKey l G zm zmp zm1 zm2 zmx zmh zmt zmu zme zma zmb zmk zmc zmd zmi zmo zmf zmg zmn 0 ys yl yr yv yt yu ye ya yb yk yc yd yi yo yf yg yn yp yq yw yx k h3n) trivial mf_M_pinKey m_833 m_835 ms_24 rfl 0 rfl rfl rfl (by decide) (by decide) rfl (Nat.le_of_ble_eq_true rfl) d_M_translate_140) (fun x21 e21 => ?_)
                        refine pv_eqw (ws2 := [ob zm 5 [.ref zmp, .ref zm1, .ref zm2, .ref zmx, .int 0, .ref zmh, .ref zmt, .int ys, .long yl, .long yr, .ref zmu, .ref zme, .ref zma, .ref zmb, .ref zmk, .ref zmc, .ref zmd, .ref zmi, .ref zmo, .ref zmf, .ref zmg, .ref zmn, .long (g_M_pinKey_zm_22 ya yc yd yi yo yn k), .long (g_M_pinKey_zm_23 yb yc yd yi yo yn k), .int yw, .long yx], aI G zmp 32 tb_perm, aI G zm1 56 tb_c1, aI G zm2 48 tb_c2, aI G zmx 512 tb_box, aJ G zmh 6 yv, aZ G zmt 6 yt, aI G zmu 16 yu, aZ G zme 16 ye, aJ G zma 16 ya, aJ G zmb 16 yb, aZ G zmk 8 yk, aJ G zmc 8 yc, aJ G zmd 8 yd, aJ G zmi 8 yi, aI G zmo 8 yo, aJ G zmf 5 yf, aJ G zmg 8 yg, aJ G zmn 16 (g_M_pinKey_zmn yc yd yi yo yn k)]) rfl ?_
                        refine pv_aload_n X 2 d_M_translate_143 rfl ?_
                        refine pv_aload_n X 2 d_M_translate_144 rfl ?_
                        refine pv_aload_n X 2 d_M_translate_145 rfl ?_
                        refine pv_get X 0 22 u_M_in m_596 rfl rfl (by decide) ⟨rfl, rfl, rfl⟩ rfl d_M_translate_146 ?_
                        refine pv_aload_n X 2 d_M_translate_149 rfl ?_
                        refine pv_get X 0 23 u_M_in m_597 rfl rfl (by decide) ⟨rfl, rfl, rfl⟩ rfl d_M_translate_150 ?_
                        refine pv_aload_n X 2 d_M_translate_153 rfl ?_
                        refine pv_get X 0 19 u_M_in m_593 rfl rfl (by decide) ⟨rfl, rfl, rfl⟩ rfl d_M_translate_154 ?_
                        refine pv_iconst X 0 d_M_translate_157 (by decide) ?_
                        refine pv_lald X 16 rfl (by unfold vp_in; decide) d_M_translate_158 ?_
                        refine pv_topl (yf 0) rfl ?_
                        refine pv_calllE X (Cut.all _) (rn_V X (c_M_openBlock l G zm zmp zm1 zm2 zmx zmh zmt zmu zme zma zmb zmk zmc zmd zmi zmo zmf zmg zmn 0 ys yl yr yv yt yu ye ya yb yk yc yd yi yo yf yg (g_M_pinKey_zmn yc yd yi yo yn k) (g_M_pinKey_zm_22 ya yc yd yi yo yn k) (g_M_pinKey_zm_23 yb yc yd yi yo yn k) yw yx (g_M_pinKey_zm_22 ya yc yd yi yo yn k) (g_M_pinKey_zm_23 yb yc yd yi yo yn k) (yf 0) ) trivial mf_M_openBlock m_770 m_772 ms_20 rfl 0 rfl rfl rfl (by decide) (by decide) rfl (Nat.le_of_ble_eq_true rfl) d_M_translate_159) (fun x22 => ?_)
                        refine pv_eqw (ws2 := [ob zm 5 [.ref zmp, .ref zm1, .ref zm2, .ref zmx, .int 0, .ref zmh, .ref zmt, .int ys, .long yl, .long yr, .ref zmu, .ref zme, .ref zma, .ref zmb, .ref zmk, .ref zmc, .ref zmd, .ref zmi, .ref zmo, .ref zmf, .ref zmg, .ref zmn, .long (g_M_pinKey_zm_22 ya yc yd yi yo yn k), .long (g_M_pinKey_zm_23 yb yc yd yi yo yn k), .int yw, .long yx], aI G zmp 32 tb_perm, aI G zm1 56 tb_c1, aI G zm2 48 tb_c2, aI G zmx 512 tb_box, aJ G zmh 6 yv, aZ G zmt 6 yt, aI G zmu 16 yu, aZ G zme 16 ye, aJ G zma 16 ya, aJ G zmb 16 yb, aZ G zmk 8 yk, aJ G zmc 8 yc, aJ G zmd 8 yd, aJ G zmi 8 yi, aI G zmo 8 yo, aJ G zmf 5 yf, aJ G zmg 8 yg, aJ G zmn 16 (g_M_openBlock_zmn (g_M_pinKey_zmn yc yd yi yo yn k) (g_M_pinKey_zm_22 ya yc yd yi yo yn k) (g_M_pinKey_zm_23 yb yc yd yi yo yn k))]) rfl ?_
                        refine pv_iload X 1 d_M_translate_162 rfl ?_
                        refine pv_lload X 6 d_M_translate_164 rfl ?_
                        refine pv_calliE X (Cut.all _) (rn_V X (c_M_reads l G zm zmp zm1 zm2 zmx zmh zmt zmu zme zma zmb zmk zmc zmd zmi zmo zmf zmg zmn 0 ys yl yr yv yt yu ye ya yb yk yc yd yi yo yf yg (g_M_openBlock_zmn (g_M_pinKey_zmn yc yd yi yo yn k) (g_M_pinKey_zm_22 ya yc yd yi yo yn k) (g_M_pinKey_zm_23 yb yc yd yi yo yn k)) (g_M_pinKey_zm_22 ya yc yd yi yo yn k) (g_M_pinKey_zm_23 yb yc yd yi yo yn k) yw yx (f_M_openBlock (g_M_pinKey_zm_22 ya yc yd yi yo yn k) (g_M_pinKey_zm_23 yb yc yd yi yo yn k) (yf 0)) (g >>> (4 &&& 31)) a ) trivial mf_M_reads m_847 m_849 ms_25 rfl 0 rfl rfl rfl (by decide) (by decide) rfl (Nat.le_of_ble_eq_true rfl) d_M_translate_166) (fun x23 => ?_)
                        refine pv_eqw (ws2 := [ob zm 5 [.ref zmp, .ref zm1, .ref zm2, .ref zmx, .int 0, .ref zmh, .ref zmt, .int ys, .long yl, .long yr, .ref zmu, .ref zme, .ref zma, .ref zmb, .ref zmk, .ref zmc, .ref zmd, .ref zmi, .ref zmo, .ref zmf, .ref zmg, .ref zmn, .long (g_M_pinKey_zm_22 ya yc yd yi yo yn k), .long (g_M_pinKey_zm_23 yb yc yd yi yo yn k), .int (g_M_reads_zm_24 yw (f_M_openBlock (g_M_pinKey_zm_22 ya yc yd yi yo yn k) (g_M_pinKey_zm_23 yb yc yd yi yo yn k) (yf 0)) (g >>> (4 &&& 31)) a), .long (g_M_reads_zm_25 yx (f_M_openBlock (g_M_pinKey_zm_22 ya yc yd yi yo yn k) (g_M_pinKey_zm_23 yb yc yd yi yo yn k) (yf 0)) (g >>> (4 &&& 31)) a)], aI G zmp 32 tb_perm, aI G zm1 56 tb_c1, aI G zm2 48 tb_c2, aI G zmx 512 tb_box, aJ G zmh 6 yv, aZ G zmt 6 yt, aI G zmu 16 yu, aZ G zme 16 ye, aJ G zma 16 ya, aJ G zmb 16 yb, aZ G zmk 8 yk, aJ G zmc 8 yc, aJ G zmd 8 yd, aJ G zmi 8 yi, aI G zmo 8 yo, aJ G zmf 5 yf, aJ G zmg 8 yg, aJ G zmn 16 (g_M_openBlock_zmn (g_M_pinKey_zmn yc yd yi yo yn k) (g_M_pinKey_zm_22 ya yc yd yi yo yn k) (g_M_pinKey_zm_23 yb yc yd yi yo yn k))]) rfl ?_
                        refine pv_if_ne X 175 d_M_translate_169 rfl (fun h24 => ?_) (fun h24n => ?_)
                        · skip
                          refine pv_aload_n X 2 d_M_translate_175 rfl ?_
                          refine pv_iload_n X 4 d_M_translate_176 rfl ?_
                          refine pv_callv X (Cut.all _) (rn_V X (c_M_pinKey l G zm zmp zm1 zm2 zmx zmh zmt zmu zme zma zmb zmk zmc zmd zmi zmo zmf zmg zmn 0 ys yl yr yv yt yu ye ya yb yk yc yd yi yo yf yg (g_M_openBlock_zmn (g_M_pinKey_zmn yc yd yi yo yn k) (g_M_pinKey_zm_22 ya yc yd yi yo yn k) (g_M_pinKey_zm_23 yb yc yd yi yo yn k)) (g_M_pinKey_zm_22 ya yc yd yi yo yn k) (g_M_pinKey_zm_23 yb yc yd yi yo yn k) (g_M_reads_zm_24 yw (f_M_openBlock (g_M_pinKey_zm_22 ya yc yd yi yo yn k) (g_M_pinKey_zm_23 yb yc yd yi yo yn k) (yf 0)) (g >>> (4 &&& 31)) a) (g_M_reads_zm_25 yx (f_M_openBlock (g_M_pinKey_zm_22 ya yc yd yi yo yn k) (g_M_pinKey_zm_23 yb yc yd yi yo yn k) (yf 0)) (g >>> (4 &&& 31)) a) k2 h5n) trivial mf_M_pinKey m_833 m_835 ms_24 rfl 0 rfl rfl rfl (by decide) (by decide) rfl (Nat.le_of_ble_eq_true rfl) d_M_translate_177) (fun x25 e25 => ?_)
                          refine pv_eqw (ws2 := [ob zm 5 [.ref zmp, .ref zm1, .ref zm2, .ref zmx, .int 0, .ref zmh, .ref zmt, .int ys, .long yl, .long yr, .ref zmu, .ref zme, .ref zma, .ref zmb, .ref zmk, .ref zmc, .ref zmd, .ref zmi, .ref zmo, .ref zmf, .ref zmg, .ref zmn, .long (g_M_pinKey_zm_22 ya yc yd yi yo (g_M_openBlock_zmn (g_M_pinKey_zmn yc yd yi yo yn k) (g_M_pinKey_zm_22 ya yc yd yi yo yn k) (g_M_pinKey_zm_23 yb yc yd yi yo yn k)) k2), .long (g_M_pinKey_zm_23 yb yc yd yi yo (g_M_openBlock_zmn (g_M_pinKey_zmn yc yd yi yo yn k) (g_M_pinKey_zm_22 ya yc yd yi yo yn k) (g_M_pinKey_zm_23 yb yc yd yi yo yn k)) k2), .int (g_M_reads_zm_24 yw (f_M_openBlock (g_M_pinKey_zm_22 ya yc yd yi yo yn k) (g_M_pinKey_zm_23 yb yc yd yi yo yn k) (yf 0)) (g >>> (4 &&& 31)) a), .long (g_M_reads_zm_25 yx (f_M_openBlock (g_M_pinKey_zm_22 ya yc yd yi yo yn k) (g_M_pinKey_zm_23 yb yc yd yi yo yn k) (yf 0)) (g >>> (4 &&& 31)) a)], aI G zmp 32 tb_perm, aI G zm1 56 tb_c1, aI G zm2 48 tb_c2, aI G zmx 512 tb_box, aJ G zmh 6 yv, aZ G zmt 6 yt, aI G zmu 16 yu, aZ G zme 16 ye, aJ G zma 16 ya, aJ G zmb 16 yb, aZ G zmk 8 yk, aJ G zmc 8 yc, aJ G zmd 8 yd, aJ G zmi 8 yi, aI G zmo 8 yo, aJ G zmf 5 yf, aJ G zmg 8 yg, aJ G zmn 16 (g_M_pinKey_zmn yc yd yi yo (g_M_openBlock_zmn (g_M_pinKey_zmn yc yd yi yo yn k) (g_M_pinKey_zm_22 ya yc yd yi yo yn k) (g_M_pinKey_zm_23 yb yc yd yi yo yn k)) k2)]) rfl ?_
                          refine pv_aload_n X 2 d_M_translate_180 rfl ?_
                          refine pv_get X 0 19 u_M_in m_593 rfl rfl (by decide) ⟨rfl, rfl, rfl⟩ rfl d_M_translate_181 ?_
                          refine pv_iconst X 0 d_M_translate_184 (by decide) ?_
                          refine pv_aload_n X 2 d_M_translate_185 rfl ?_
                          refine pv_aload_n X 2 d_M_translate_186 rfl ?_
                          refine pv_get X 0 22 u_M_in m_596 rfl rfl (by decide) ⟨rfl, rfl, rfl⟩ rfl d_M_translate_187 ?_
                          refine pv_aload_n X 2 d_M_translate_190 rfl ?_
                          refine pv_get X 0 23 u_M_in m_597 rfl rfl (by decide) ⟨rfl, rfl, rfl⟩ rfl d_M_translate_191 ?_
                          refine pv_iload X 0 d_M_translate_194 rfl ?_
                          refine pv_aload_n X 2 d_M_translate_196 rfl ?_
                          refine pv_get X 0 24 u_M_in m_598 rfl rfl (by decide) ⟨rfl, rfl, rfl⟩ rfl d_M_translate_197 ?_
                          refine pv_aload_n X 2 d_M_translate_200 rfl ?_
                          refine pv_get X 0 25 u_M_in m_599 rfl rfl (by decide) ⟨rfl, rfl, rfl⟩ rfl d_M_translate_201 ?_
                          refine pv_lload X 6 d_M_translate_204 rfl ?_
                          refine pv_lload X 7 d_M_translate_206 rfl ?_
                          refine pv_calll0 X (rn_S X (c_M_form l G (g &&& 15) (g_M_reads_zm_24 yw (f_M_openBlock (g_M_pinKey_zm_22 ya yc yd yi yo yn k) (g_M_pinKey_zm_23 yb yc yd yi yo yn k) (yf 0)) (g >>> (4 &&& 31)) a) (g_M_reads_zm_25 yx (f_M_openBlock (g_M_pinKey_zm_22 ya yc yd yi yo yn k) (g_M_pinKey_zm_23 yb yc yd yi yo yn k) (yf 0)) (g >>> (4 &&& 31)) a) a z) trivial mf_M_form m_837 m_838 rfl (by decide) (by decide) rfl (Nat.le_of_ble_eq_true rfl) d_M_translate_208) ?_
                          refine pv_calllE X (Cut.all _) (rn_V X (c_M_sealBlock l G zm zmp zm1 zm2 zmx zmh zmt zmu zme zma zmb zmk zmc zmd zmi zmo zmf zmg zmn 0 ys yl yr yv yt yu ye ya yb yk yc yd yi yo yf yg (g_M_pinKey_zmn yc yd yi yo (g_M_openBlock_zmn (g_M_pinKey_zmn yc yd yi yo yn k) (g_M_pinKey_zm_22 ya yc yd yi yo yn k) (g_M_pinKey_zm_23 yb yc yd yi yo yn k)) k2) (g_M_pinKey_zm_22 ya yc yd yi yo (g_M_openBlock_zmn (g_M_pinKey_zmn yc yd yi yo yn k) (g_M_pinKey_zm_22 ya yc yd yi yo yn k) (g_M_pinKey_zm_23 yb yc yd yi yo yn k)) k2) (g_M_pinKey_zm_23 yb yc yd yi yo (g_M_openBlock_zmn (g_M_pinKey_zmn yc yd yi yo yn k) (g_M_pinKey_zm_22 ya yc yd yi yo yn k) (g_M_pinKey_zm_23 yb yc yd yi yo yn k)) k2) (g_M_reads_zm_24 yw (f_M_openBlock (g_M_pinKey_zm_22 ya yc yd yi yo yn k) (g_M_pinKey_zm_23 yb yc yd yi yo yn k) (yf 0)) (g >>> (4 &&& 31)) a) (g_M_reads_zm_25 yx (f_M_openBlock (g_M_pinKey_zm_22 ya yc yd yi yo yn k) (g_M_pinKey_zm_23 yb yc yd yi yo yn k) (yf 0)) (g >>> (4 &&& 31)) a) (g_M_pinKey_zm_22 ya yc yd yi yo (g_M_openBlock_zmn (g_M_pinKey_zmn yc yd yi yo yn k) (g_M_pinKey_zm_22 ya yc yd yi yo yn k) (g_M_pinKey_zm_23 yb yc yd yi yo yn k)) k2) (g_M_pinKey_zm_23 yb yc yd yi yo (g_M_openBlock_zmn (g_M_pinKey_zmn yc yd yi yo yn k) (g_M_pinKey_zm_22 ya yc yd yi yo yn k) (g_M_pinKey_zm_23 yb yc yd yi yo yn k)) k2) (f_M_form (g &&& 15) (g_M_reads_zm_24 yw (f_M_openBlock (g_M_pinKey_zm_22 ya yc yd yi yo yn k) (g_M_pinKey_zm_23 yb yc yd yi yo yn k) (yf 0)) (g >>> (4 &&& 31)) a) (g_M_reads_zm_25 yx (f_M_openBlock (g_M_pinKey_zm_22 ya yc yd yi yo yn k) (g_M_pinKey_zm_23 yb yc yd yi yo yn k) (yf 0)) (g >>> (4 &&& 31)) a) a z) ) trivial mf_M_sealBlock m_682 m_684 ms_14 rfl 0 rfl rfl rfl (by decide) (by decide) rfl (Nat.le_of_ble_eq_true rfl) d_M_translate_211) (fun x27 => ?_)
                          refine pv_eqw (ws2 := [ob zm 5 [.ref zmp, .ref zm1, .ref zm2, .ref zmx, .int 0, .ref zmh, .ref zmt, .int ys, .long yl, .long yr, .ref zmu, .ref zme, .ref zma, .ref zmb, .ref zmk, .ref zmc, .ref zmd, .ref zmi, .ref zmo, .ref zmf, .ref zmg, .ref zmn, .long (g_M_pinKey_zm_22 ya yc yd yi yo (g_M_openBlock_zmn (g_M_pinKey_zmn yc yd yi yo yn k) (g_M_pinKey_zm_22 ya yc yd yi yo yn k) (g_M_pinKey_zm_23 yb yc yd yi yo yn k)) k2), .long (g_M_pinKey_zm_23 yb yc yd yi yo (g_M_openBlock_zmn (g_M_pinKey_zmn yc yd yi yo yn k) (g_M_pinKey_zm_22 ya yc yd yi yo yn k) (g_M_pinKey_zm_23 yb yc yd yi yo yn k)) k2), .int (g_M_reads_zm_24 yw (f_M_openBlock (g_M_pinKey_zm_22 ya yc yd yi yo yn k) (g_M_pinKey_zm_23 yb yc yd yi yo yn k) (yf 0)) (g >>> (4 &&& 31)) a), .long (g_M_reads_zm_25 yx (f_M_openBlock (g_M_pinKey_zm_22 ya yc yd yi yo yn k) (g_M_pinKey_zm_23 yb yc yd yi yo yn k) (yf 0)) (g >>> (4 &&& 31)) a)], aI G zmp 32 tb_perm, aI G zm1 56 tb_c1, aI G zm2 48 tb_c2, aI G zmx 512 tb_box, aJ G zmh 6 yv, aZ G zmt 6 yt, aI G zmu 16 yu, aZ G zme 16 ye, aJ G zma 16 ya, aJ G zmb 16 yb, aZ G zmk 8 yk, aJ G zmc 8 yc, aJ G zmd 8 yd, aJ G zmi 8 yi, aI G zmo 8 yo, aJ G zmf 5 yf, aJ G zmg 8 yg, aJ G zmn 16 (g_M_sealBlock_zmn (g_M_pinKey_zmn yc yd yi yo (g_M_openBlock_zmn (g_M_pinKey_zmn yc yd yi yo yn k) (g_M_pinKey_zm_22 ya yc yd yi yo yn k) (g_M_pinKey_zm_23 yb yc yd yi yo yn k)) k2) (g_M_pinKey_zm_22 ya yc yd yi yo (g_M_openBlock_zmn (g_M_pinKey_zmn yc yd yi yo yn k) (g_M_pinKey_zm_22 ya yc yd yi yo yn k) (g_M_pinKey_zm_23 yb yc yd yi yo yn k)) k2) (g_M_pinKey_zm_23 yb yc yd yi yo (g_M_openBlock_zmn (g_M_pinKey_zmn yc yd yi yo yn k) (g_M_pinKey_zm_22 ya yc yd yi yo yn k) (g_M_pinKey_zm_23 yb yc yd yi yo yn k)) k2))]) rfl ?_
                          refine pv_last (ws2 := [ob zm 5 [.ref zmp, .ref zm1, .ref zm2, .ref zmx, .int 0, .ref zmh, .ref zmt, .int ys, .long yl, .long yr, .ref zmu, .ref zme, .ref zma, .ref zmb, .ref zmk, .ref zmc, .ref zmd, .ref zmi, .ref zmo, .ref zmf, .ref zmg, .ref zmn, .long (g_M_pinKey_zm_22 ya yc yd yi yo (g_M_openBlock_zmn (g_M_pinKey_zmn yc yd yi yo yn k) (g_M_pinKey_zm_22 ya yc yd yi yo yn k) (g_M_pinKey_zm_23 yb yc yd yi yo yn k)) k2), .long (g_M_pinKey_zm_23 yb yc yd yi yo (g_M_openBlock_zmn (g_M_pinKey_zmn yc yd yi yo yn k) (g_M_pinKey_zm_22 ya yc yd yi yo yn k) (g_M_pinKey_zm_23 yb yc yd yi yo yn k)) k2), .int (g_M_reads_zm_24 yw (f_M_openBlock (g_M_pinKey_zm_22 ya yc yd yi yo yn k) (g_M_pinKey_zm_23 yb yc yd yi yo yn k) (yf 0)) (g >>> (4 &&& 31)) a), .long (g_M_reads_zm_25 yx (f_M_openBlock (g_M_pinKey_zm_22 ya yc yd yi yo yn k) (g_M_pinKey_zm_23 yb yc yd yi yo yn k) (yf 0)) (g >>> (4 &&& 31)) a)], aI G zmp 32 tb_perm, aI G zm1 56 tb_c1, aI G zm2 48 tb_c2, aI G zmx 512 tb_box, aJ G zmh 6 yv, aZ G zmt 6 yt, aI G zmu 16 yu, aZ G zme 16 ye, aJ G zma 16 ya, aJ G zmb 16 yb, aZ G zmk 8 yk, aJ G zmc 8 yc, aJ G zmd 8 yd, aJ G zmi 8 yi, aI G zmo 8 yo, aJ G zmf 5 (vp_updL yf 0 (f_M_sealBlock (g_M_pinKey_zm_22 ya yc yd yi yo (g_M_openBlock_zmn (g_M_pinKey_zmn yc yd yi yo yn k) (g_M_pinKey_zm_22 ya yc yd yi yo yn k) (g_M_pinKey_zm_23 yb yc yd yi yo yn k)) k2) (g_M_pinKey_zm_23 yb yc yd yi yo (g_M_openBlock_zmn (g_M_pinKey_zmn yc yd yi yo yn k) (g_M_pinKey_zm_22 ya yc yd yi yo yn k) (g_M_pinKey_zm_23 yb yc yd yi yo yn k)) k2) (f_M_form (g &&& 15) (g_M_reads_zm_24 yw (f_M_openBlock (g_M_pinKey_zm_22 ya yc yd yi yo yn k) (g_M_pinKey_zm_23 yb yc yd yi yo yn k) (yf 0)) (g >>> (4 &&& 31)) a) (g_M_reads_zm_25 yx (f_M_openBlock (g_M_pinKey_zm_22 ya yc yd yi yo yn k) (g_M_pinKey_zm_23 yb yc yd yi yo yn k) (yf 0)) (g >>> (4 &&& 31)) a) a z))), aJ G zmg 8 yg, aJ G zmn 16 (g_M_sealBlock_zmn (g_M_pinKey_zmn yc yd yi yo (g_M_openBlock_zmn (g_M_pinKey_zmn yc yd yi yo yn k) (g_M_pinKey_zm_22 ya yc yd yi yo yn k) (g_M_pinKey_zm_23 yb yc yd yi yo yn k)) k2) (g_M_pinKey_zm_22 ya yc yd yi yo (g_M_openBlock_zmn (g_M_pinKey_zmn yc yd yi yo yn k) (g_M_pinKey_zm_22 ya yc yd yi yo yn k) (g_M_pinKey_zm_23 yb yc yd yi yo yn k)) k2) (g_M_pinKey_zm_23 yb yc yd yi yo (g_M_openBlock_zmn (g_M_pinKey_zmn yc yd yi yo yn k) (g_M_pinKey_zm_22 ya yc yd yi yo yn k) (g_M_pinKey_zm_23 yb yc yd yi yo yn k)) k2))]) X 16 rfl (by unfold vp_in; decide) rfl d_M_translate_214 ?_
                          refine pv_aload_n X 2 d_M_translate_215 rfl ?_
                          refine pv_get X 0 24 u_M_in m_598 rfl rfl (by decide) ⟨rfl, rfl, rfl⟩ rfl d_M_translate_216 ?_
                          exact pv_iret X hr hlk (g_M_sealBlock_zmn (g_M_pinKey_zmn yc yd yi yo (g_M_openBlock_zmn (g_M_pinKey_zmn yc yd yi yo yn k) (g_M_pinKey_zm_22 ya yc yd yi yo yn k) (g_M_pinKey_zm_23 yb yc yd yi yo yn k)) k2) (g_M_pinKey_zm_22 ya yc yd yi yo (g_M_openBlock_zmn (g_M_pinKey_zmn yc yd yi yo yn k) (g_M_pinKey_zm_22 ya yc yd yi yo yn k) (g_M_pinKey_zm_23 yb yc yd yi yo yn k)) k2) (g_M_pinKey_zm_23 yb yc yd yi yo (g_M_openBlock_zmn (g_M_pinKey_zmn yc yd yi yo yn k) (g_M_pinKey_zm_22 ya yc yd yi yo yn k) (g_M_pinKey_zm_23 yb yc yd yi yo yn k)) k2), g_M_pinKey_zm_22 ya yc yd yi yo (g_M_openBlock_zmn (g_M_pinKey_zmn yc yd yi yo yn k) (g_M_pinKey_zm_22 ya yc yd yi yo yn k) (g_M_pinKey_zm_23 yb yc yd yi yo yn k)) k2, g_M_pinKey_zm_23 yb yc yd yi yo (g_M_openBlock_zmn (g_M_pinKey_zmn yc yd yi yo yn k) (g_M_pinKey_zm_22 ya yc yd yi yo yn k) (g_M_pinKey_zm_23 yb yc yd yi yo yn k)) k2, g_M_reads_zm_24 yw (f_M_openBlock (g_M_pinKey_zm_22 ya yc yd yi yo yn k) (g_M_pinKey_zm_23 yb yc yd yi yo yn k) (yf 0)) (g >>> (4 &&& 31)) a, g_M_reads_zm_25 yx (f_M_openBlock (g_M_pinKey_zm_22 ya yc yd yi yo yn k) (g_M_pinKey_zm_23 yb yc yd yi yo yn k) (yf 0)) (g >>> (4 &&& 31)) a) (by show _ = f_M_translate ys yu ya yb yk yc yd yi yo yf yn yw k k2 g a z; simp only [f_M_translate, if_neg h1, if_neg h3n, if_neg h5n, if_neg h7n, if_neg h9n, if_neg h11, if_neg h12, if_neg h14n, if_neg h16, if_neg h18n, if_neg h20, if_neg h24]) (by simp only [g_M_translate_zm_4, g_M_translate_zmf, if_neg h1, if_neg h3n, if_neg h5n, if_neg h7n, if_neg h9n, if_neg h11, if_neg h12, if_neg h14n, if_neg h16, if_neg h18n, if_neg h20, if_neg h24]) d_M_translate_219
                        · skip
                          refine pv_bipush X (-6) d_M_translate_172 (by decide) ?_
                          exact pv_iret X hr hlk (g_M_openBlock_zmn (g_M_pinKey_zmn yc yd yi yo yn k) (g_M_pinKey_zm_22 ya yc yd yi yo yn k) (g_M_pinKey_zm_23 yb yc yd yi yo yn k), g_M_pinKey_zm_22 ya yc yd yi yo yn k, g_M_pinKey_zm_23 yb yc yd yi yo yn k, g_M_reads_zm_24 yw (f_M_openBlock (g_M_pinKey_zm_22 ya yc yd yi yo yn k) (g_M_pinKey_zm_23 yb yc yd yi yo yn k) (yf 0)) (g >>> (4 &&& 31)) a, g_M_reads_zm_25 yx (f_M_openBlock (g_M_pinKey_zm_22 ya yc yd yi yo yn k) (g_M_pinKey_zm_23 yb yc yd yi yo yn k) (yf 0)) (g >>> (4 &&& 31)) a) (by show _ = f_M_translate ys yu ya yb yk yc yd yi yo yf yn yw k k2 g a z; simp only [f_M_translate, if_neg h1, if_neg h3n, if_neg h5n, if_neg h7n, if_neg h9n, if_neg h11, if_neg h12, if_neg h14n, if_neg h16, if_neg h18n, if_neg h20, if_pos h24n]) (by simp only [g_M_translate_zm_4, g_M_translate_zmf, if_neg h1, if_neg h3n, if_neg h5n, if_neg h7n, if_neg h9n, if_neg h11, if_neg h12, if_neg h14n, if_neg h16, if_neg h18n, if_neg h20, if_pos h24n]) d_M_translate_174
                      · skip
                        refine pv_bipush X (-4) d_M_translate_135 (by decide) ?_
                        exact pv_iret X hr hlk (yn, yp, yq, yw, yx) (by show _ = f_M_translate ys yu ya yb yk yc yd yi yo yf yn yw k k2 g a z; simp only [f_M_translate, if_neg h1, if_neg h3n, if_neg h5n, if_neg h7n, if_neg h9n, if_neg h11, if_neg h12, if_neg h14n, if_neg h16, if_neg h18n, if_pos h20n]) (by simp only [g_M_translate_zm_4, g_M_translate_zmf, if_neg h1, if_neg h3n, if_neg h5n, if_neg h7n, if_neg h9n, if_neg h11, if_neg h12, if_neg h14n, if_neg h16, if_neg h18n, if_pos h20n]) d_M_translate_137
                  · skip
                    refine pv_bipush X (-3) d_M_translate_116 (by decide) ?_
                    exact pv_iret X hr hlk (yn, yp, yq, yw, yx) (by show _ = f_M_translate ys yu ya yb yk yc yd yi yo yf yn yw k k2 g a z; simp only [f_M_translate, if_neg h1, if_neg h3n, if_neg h5n, if_neg h7n, if_neg h9n, if_neg h11, if_neg h12, if_neg h14n, if_pos h16n]) (by simp only [g_M_translate_zm_4, g_M_translate_zmf, if_neg h1, if_neg h3n, if_neg h5n, if_neg h7n, if_neg h9n, if_neg h11, if_neg h12, if_neg h14n, if_pos h16n]) d_M_translate_118
              · skip
                refine pv_lload X 7 d_M_translate_82 rfl ?_
                refine pv_iconst X 0 d_M_translate_84 (by decide) ?_
                refine pv_bipush X 10 d_M_translate_85 (by decide) ?_
                refine pv_bipush X 10 d_M_translate_87 (by decide) ?_
                refine pv_bipush X 15 d_M_translate_89 (by decide) ?_
                refine pv_calli0 X (rn_S X (c_M_areDigits l G z 0 10 10 15 rfl) trivial mf_M_areDigits m_822 m_823 rfl (by decide) (by decide) rfl (Nat.le_of_ble_eq_true rfl) d_M_translate_91) ?_
                refine pv_if_ne X 100 d_M_translate_94 rfl (fun h29 => ?_) (fun h29n => ?_)
                · skip
                  refine pv_aload_n X 2 d_M_translate_100 rfl ?_
                  refine pv_iload_n X 3 d_M_translate_101 rfl ?_
                  refine pv_calliE X (Cut.all _) (rn_V X (c_M_isThere l G zm zmp zm1 zm2 zmx zmh zmt zmu zme zma zmb zmk zmc zmd zmi zmo zmf zmg zmn 0 ys yl yr yv yt yu ye ya yb yk yc yd yi yo yf yg yn yp yq yw yx k h3n hyk) trivial mf_M_isThere m_825 m_827 ms_22 rfl 0 rfl rfl rfl (by decide) (by decide) rfl (Nat.le_of_ble_eq_true rfl) d_M_translate_102) (fun x30 => ?_)
                  refine pv_eqw (ws2 := [ob zm 5 [.ref zmp, .ref zm1, .ref zm2, .ref zmx, .int 0, .ref zmh, .ref zmt, .int ys, .long yl, .long yr, .ref zmu, .ref zme, .ref zma, .ref zmb, .ref zmk, .ref zmc, .ref zmd, .ref zmi, .ref zmo, .ref zmf, .ref zmg, .ref zmn, .long yp, .long yq, .int yw, .long yx], aI G zmp 32 tb_perm, aI G zm1 56 tb_c1, aI G zm2 48 tb_c2, aI G zmx 512 tb_box, aJ G zmh 6 yv, aZ G zmt 6 yt, aI G zmu 16 yu, aZ G zme 16 ye, aJ G zma 16 ya, aJ G zmb 16 yb, aZ G zmk 8 yk, aJ G zmc 8 yc, aJ G zmd 8 yd, aJ G zmi 8 yi, aI G zmo 8 yo, aJ G zmf 5 yf, aJ G zmg 8 yg, aJ G zmn 16 yn]) rfl ?_
                  refine pv_if_eq X 116 d_M_translate_105 rfl (fun h31 => ?_) (fun h31n => ?_)
                  · skip
                    refine pv_bipush X (-3) d_M_translate_116 (by decide) ?_
                    exact pv_iret X hr hlk (yn, yp, yq, yw, yx) (by show _ = f_M_translate ys yu ya yb yk yc yd yi yo yf yn yw k k2 g a z; simp only [f_M_translate, if_neg h1, if_neg h3n, if_neg h5n, if_neg h7n, if_neg h9n, if_neg h11, if_pos h12n, if_neg h29, if_pos h31]) (by simp only [g_M_translate_zm_4, g_M_translate_zmf, if_neg h1, if_neg h3n, if_neg h5n, if_neg h7n, if_neg h9n, if_neg h11, if_pos h12n, if_neg h29, if_pos h31]) d_M_translate_118
                  · skip
                    refine pv_aload_n X 2 d_M_translate_108 rfl ?_
                    refine pv_iload_n X 4 d_M_translate_109 rfl ?_
                    refine pv_calliE X (Cut.all _) (rn_V X (c_M_isThere l G zm zmp zm1 zm2 zmx zmh zmt zmu zme zma zmb zmk zmc zmd zmi zmo zmf zmg zmn 0 ys yl yr yv yt yu ye ya yb yk yc yd yi yo yf yg yn yp yq yw yx k2 h5n hyk) trivial mf_M_isThere m_825 m_827 ms_22 rfl 0 rfl rfl rfl (by decide) (by decide) rfl (Nat.le_of_ble_eq_true rfl) d_M_translate_110) (fun x32 => ?_)
                    refine pv_eqw (ws2 := [ob zm 5 [.ref zmp, .ref zm1, .ref zm2, .ref zmx, .int 0, .ref zmh, .ref zmt, .int ys, .long yl, .long yr, .ref zmu, .ref zme, .ref zma, .ref zmb, .ref zmk, .ref zmc, .ref zmd, .ref zmi, .ref zmo, .ref zmf, .ref zmg, .ref zmn, .long yp, .long yq, .int yw, .long yx], aI G zmp 32 tb_perm, aI G zm1 56 tb_c1, aI G zm2 48 tb_c2, aI G zmx 512 tb_box, aJ G zmh 6 yv, aZ G zmt 6 yt, aI G zmu 16 yu, aZ G zme 16 ye, aJ G zma 16 ya, aJ G zmb 16 yb, aZ G zmk 8 yk, aJ G zmc 8 yc, aJ G zmd 8 yd, aJ G zmi 8 yi, aI G zmo 8 yo, aJ G zmf 5 yf, aJ G zmg 8 yg, aJ G zmn 16 yn]) rfl ?_
                    refine pv_if_ne X 119 d_M_translate_113 rfl (fun h33 => ?_) (fun h33n => ?_)
                    · skip
                      refine pv_aload_n X 2 d_M_translate_119 rfl ?_
                      refine pv_iload_n X 3 d_M_translate_120 rfl ?_
                      refine pv_calliE X (Cut.all _) (rn_V X (c_M_isPinKey l G zm zmp zm1 zm2 zmx zmh zmt zmu zme zma zmb zmk zmc zmd zmi zmo zmf zmg zmn 0 ys yl yr yv yt yu ye ya yb yk yc yd yi yo yf yg yn yp yq yw yx k h3n) trivial mf_M_isPinKey m_829 m_831 ms_23 rfl 0 rfl rfl rfl (by decide) (by decide) rfl (Nat.le_of_ble_eq_true rfl) d_M_translate_121) (fun x34 => ?_)
                      refine pv_eqw (ws2 := [ob zm 5 [.ref zmp, .ref zm1, .ref zm2, .ref zmx, .int 0, .ref zmh, .ref zmt, .int ys, .long yl, .long yr, .ref zmu, .ref zme, .ref zma, .ref zmb, .ref zmk, .ref zmc, .ref zmd, .ref zmi, .ref zmo, .ref zmf, .ref zmg, .ref zmn, .long yp, .long yq, .int yw, .long yx], aI G zmp 32 tb_perm, aI G zm1 56 tb_c1, aI G zm2 48 tb_c2, aI G zmx 512 tb_box, aJ G zmh 6 yv, aZ G zmt 6 yt, aI G zmu 16 yu, aZ G zme 16 ye, aJ G zma 16 ya, aJ G zmb 16 yb, aZ G zmk 8 yk, aJ G zmc 8 yc, aJ G zmd 8 yd, aJ G zmi 8 yi, aI G zmo 8 yo, aJ G zmf 5 yf, aJ G zmg 8 yg, aJ G zmn 16 yn]) rfl ?_
                      refine pv_if_eq X 135 d_M_translate_124 rfl (fun h35 => ?_) (fun h35n => ?_)
                      · skip
                        refine pv_bipush X (-4) d_M_translate_135 (by decide) ?_
                        exact pv_iret X hr hlk (yn, yp, yq, yw, yx) (by show _ = f_M_translate ys yu ya yb yk yc yd yi yo yf yn yw k k2 g a z; simp only [f_M_translate, if_neg h1, if_neg h3n, if_neg h5n, if_neg h7n, if_neg h9n, if_neg h11, if_pos h12n, if_neg h29, if_neg h31n, if_neg h33, if_pos h35]) (by simp only [g_M_translate_zm_4, g_M_translate_zmf, if_neg h1, if_neg h3n, if_neg h5n, if_neg h7n, if_neg h9n, if_neg h11, if_pos h12n, if_neg h29, if_neg h31n, if_neg h33, if_pos h35]) d_M_translate_137
                      · skip
                        refine pv_aload_n X 2 d_M_translate_127 rfl ?_
                        refine pv_iload_n X 4 d_M_translate_128 rfl ?_
                        refine pv_calliE X (Cut.all _) (rn_V X (c_M_isPinKey l G zm zmp zm1 zm2 zmx zmh zmt zmu zme zma zmb zmk zmc zmd zmi zmo zmf zmg zmn 0 ys yl yr yv yt yu ye ya yb yk yc yd yi yo yf yg yn yp yq yw yx k2 h5n) trivial mf_M_isPinKey m_829 m_831 ms_23 rfl 0 rfl rfl rfl (by decide) (by decide) rfl (Nat.le_of_ble_eq_true rfl) d_M_translate_129) (fun x36 => ?_)
                        refine pv_eqw (ws2 := [ob zm 5 [.ref zmp, .ref zm1, .ref zm2, .ref zmx, .int 0, .ref zmh, .ref zmt, .int ys, .long yl, .long yr, .ref zmu, .ref zme, .ref zma, .ref zmb, .ref zmk, .ref zmc, .ref zmd, .ref zmi, .ref zmo, .ref zmf, .ref zmg, .ref zmn, .long yp, .long yq, .int yw, .long yx], aI G zmp 32 tb_perm, aI G zm1 56 tb_c1, aI G zm2 48 tb_c2, aI G zmx 512 tb_box, aJ G zmh 6 yv, aZ G zmt 6 yt, aI G zmu 16 yu, aZ G zme 16 ye, aJ G zma 16 ya, aJ G zmb 16 yb, aZ G zmk 8 yk, aJ G zmc 8 yc, aJ G zmd 8 yd, aJ G zmi 8 yi, aI G zmo 8 yo, aJ G zmf 5 yf, aJ G zmg 8 yg, aJ G zmn 16 yn]) rfl ?_
                        refine pv_if_ne X 138 d_M_translate_132 rfl (fun h37 => ?_) (fun h37n => ?_)
                        · skip
                          refine pv_aload_n X 2 d_M_translate_138 rfl ?_
                          refine pv_iload_n X 3 d_M_translate_139 rfl ?_
                          refine pv_callv X (Cut.all _) (rn_V X (c_M_pinKey l G zm zmp zm1 zm2 zmx zmh zmt zmu zme zma zmb zmk zmc zmd zmi zmo zmf zmg zmn 0 ys yl yr yv yt yu ye ya yb yk yc yd yi yo yf yg yn yp yq yw yx k h3n) trivial mf_M_pinKey m_833 m_835 ms_24 rfl 0 rfl rfl rfl (by decide) (by decide) rfl (Nat.le_of_ble_eq_true rfl) d_M_translate_140) (fun x38 e38 => ?_)
                          refine pv_eqw (ws2 := [ob zm 5 [.ref zmp, .ref zm1, .ref zm2, .ref zmx, .int 0, .ref zmh, .ref zmt, .int ys, .long yl, .long yr, .ref zmu, .ref zme, .ref zma, .ref zmb, .ref zmk, .ref zmc, .ref zmd, .ref zmi, .ref zmo, .ref zmf, .ref zmg, .ref zmn, .long (g_M_pinKey_zm_22 ya yc yd yi yo yn k), .long (g_M_pinKey_zm_23 yb yc yd yi yo yn k), .int yw, .long yx], aI G zmp 32 tb_perm, aI G zm1 56 tb_c1, aI G zm2 48 tb_c2, aI G zmx 512 tb_box, aJ G zmh 6 yv, aZ G zmt 6 yt, aI G zmu 16 yu, aZ G zme 16 ye, aJ G zma 16 ya, aJ G zmb 16 yb, aZ G zmk 8 yk, aJ G zmc 8 yc, aJ G zmd 8 yd, aJ G zmi 8 yi, aI G zmo 8 yo, aJ G zmf 5 yf, aJ G zmg 8 yg, aJ G zmn 16 (g_M_pinKey_zmn yc yd yi yo yn k)]) rfl ?_
                          refine pv_aload_n X 2 d_M_translate_143 rfl ?_
                          refine pv_aload_n X 2 d_M_translate_144 rfl ?_
                          refine pv_aload_n X 2 d_M_translate_145 rfl ?_
                          refine pv_get X 0 22 u_M_in m_596 rfl rfl (by decide) ⟨rfl, rfl, rfl⟩ rfl d_M_translate_146 ?_
                          refine pv_aload_n X 2 d_M_translate_149 rfl ?_
                          refine pv_get X 0 23 u_M_in m_597 rfl rfl (by decide) ⟨rfl, rfl, rfl⟩ rfl d_M_translate_150 ?_
                          refine pv_aload_n X 2 d_M_translate_153 rfl ?_
                          refine pv_get X 0 19 u_M_in m_593 rfl rfl (by decide) ⟨rfl, rfl, rfl⟩ rfl d_M_translate_154 ?_
                          refine pv_iconst X 0 d_M_translate_157 (by decide) ?_
                          refine pv_lald X 16 rfl (by unfold vp_in; decide) d_M_translate_158 ?_
                          refine pv_topl (yf 0) rfl ?_
                          refine pv_calllE X (Cut.all _) (rn_V X (c_M_openBlock l G zm zmp zm1 zm2 zmx zmh zmt zmu zme zma zmb zmk zmc zmd zmi zmo zmf zmg zmn 0 ys yl yr yv yt yu ye ya yb yk yc yd yi yo yf yg (g_M_pinKey_zmn yc yd yi yo yn k) (g_M_pinKey_zm_22 ya yc yd yi yo yn k) (g_M_pinKey_zm_23 yb yc yd yi yo yn k) yw yx (g_M_pinKey_zm_22 ya yc yd yi yo yn k) (g_M_pinKey_zm_23 yb yc yd yi yo yn k) (yf 0) ) trivial mf_M_openBlock m_770 m_772 ms_20 rfl 0 rfl rfl rfl (by decide) (by decide) rfl (Nat.le_of_ble_eq_true rfl) d_M_translate_159) (fun x39 => ?_)
                          refine pv_eqw (ws2 := [ob zm 5 [.ref zmp, .ref zm1, .ref zm2, .ref zmx, .int 0, .ref zmh, .ref zmt, .int ys, .long yl, .long yr, .ref zmu, .ref zme, .ref zma, .ref zmb, .ref zmk, .ref zmc, .ref zmd, .ref zmi, .ref zmo, .ref zmf, .ref zmg, .ref zmn, .long (g_M_pinKey_zm_22 ya yc yd yi yo yn k), .long (g_M_pinKey_zm_23 yb yc yd yi yo yn k), .int yw, .long yx], aI G zmp 32 tb_perm, aI G zm1 56 tb_c1, aI G zm2 48 tb_c2, aI G zmx 512 tb_box, aJ G zmh 6 yv, aZ G zmt 6 yt, aI G zmu 16 yu, aZ G zme 16 ye, aJ G zma 16 ya, aJ G zmb 16 yb, aZ G zmk 8 yk, aJ G zmc 8 yc, aJ G zmd 8 yd, aJ G zmi 8 yi, aI G zmo 8 yo, aJ G zmf 5 yf, aJ G zmg 8 yg, aJ G zmn 16 (g_M_openBlock_zmn (g_M_pinKey_zmn yc yd yi yo yn k) (g_M_pinKey_zm_22 ya yc yd yi yo yn k) (g_M_pinKey_zm_23 yb yc yd yi yo yn k))]) rfl ?_
                          refine pv_iload X 1 d_M_translate_162 rfl ?_
                          refine pv_lload X 6 d_M_translate_164 rfl ?_
                          refine pv_calliE X (Cut.all _) (rn_V X (c_M_reads l G zm zmp zm1 zm2 zmx zmh zmt zmu zme zma zmb zmk zmc zmd zmi zmo zmf zmg zmn 0 ys yl yr yv yt yu ye ya yb yk yc yd yi yo yf yg (g_M_openBlock_zmn (g_M_pinKey_zmn yc yd yi yo yn k) (g_M_pinKey_zm_22 ya yc yd yi yo yn k) (g_M_pinKey_zm_23 yb yc yd yi yo yn k)) (g_M_pinKey_zm_22 ya yc yd yi yo yn k) (g_M_pinKey_zm_23 yb yc yd yi yo yn k) yw yx (f_M_openBlock (g_M_pinKey_zm_22 ya yc yd yi yo yn k) (g_M_pinKey_zm_23 yb yc yd yi yo yn k) (yf 0)) (g >>> (4 &&& 31)) a ) trivial mf_M_reads m_847 m_849 ms_25 rfl 0 rfl rfl rfl (by decide) (by decide) rfl (Nat.le_of_ble_eq_true rfl) d_M_translate_166) (fun x40 => ?_)
                          refine pv_eqw (ws2 := [ob zm 5 [.ref zmp, .ref zm1, .ref zm2, .ref zmx, .int 0, .ref zmh, .ref zmt, .int ys, .long yl, .long yr, .ref zmu, .ref zme, .ref zma, .ref zmb, .ref zmk, .ref zmc, .ref zmd, .ref zmi, .ref zmo, .ref zmf, .ref zmg, .ref zmn, .long (g_M_pinKey_zm_22 ya yc yd yi yo yn k), .long (g_M_pinKey_zm_23 yb yc yd yi yo yn k), .int (g_M_reads_zm_24 yw (f_M_openBlock (g_M_pinKey_zm_22 ya yc yd yi yo yn k) (g_M_pinKey_zm_23 yb yc yd yi yo yn k) (yf 0)) (g >>> (4 &&& 31)) a), .long (g_M_reads_zm_25 yx (f_M_openBlock (g_M_pinKey_zm_22 ya yc yd yi yo yn k) (g_M_pinKey_zm_23 yb yc yd yi yo yn k) (yf 0)) (g >>> (4 &&& 31)) a)], aI G zmp 32 tb_perm, aI G zm1 56 tb_c1, aI G zm2 48 tb_c2, aI G zmx 512 tb_box, aJ G zmh 6 yv, aZ G zmt 6 yt, aI G zmu 16 yu, aZ G zme 16 ye, aJ G zma 16 ya, aJ G zmb 16 yb, aZ G zmk 8 yk, aJ G zmc 8 yc, aJ G zmd 8 yd, aJ G zmi 8 yi, aI G zmo 8 yo, aJ G zmf 5 yf, aJ G zmg 8 yg, aJ G zmn 16 (g_M_openBlock_zmn (g_M_pinKey_zmn yc yd yi yo yn k) (g_M_pinKey_zm_22 ya yc yd yi yo yn k) (g_M_pinKey_zm_23 yb yc yd yi yo yn k))]) rfl ?_
                          refine pv_if_ne X 175 d_M_translate_169 rfl (fun h41 => ?_) (fun h41n => ?_)
                          · skip
                            refine pv_aload_n X 2 d_M_translate_175 rfl ?_
                            refine pv_iload_n X 4 d_M_translate_176 rfl ?_
                            refine pv_callv X (Cut.all _) (rn_V X (c_M_pinKey l G zm zmp zm1 zm2 zmx zmh zmt zmu zme zma zmb zmk zmc zmd zmi zmo zmf zmg zmn 0 ys yl yr yv yt yu ye ya yb yk yc yd yi yo yf yg (g_M_openBlock_zmn (g_M_pinKey_zmn yc yd yi yo yn k) (g_M_pinKey_zm_22 ya yc yd yi yo yn k) (g_M_pinKey_zm_23 yb yc yd yi yo yn k)) (g_M_pinKey_zm_22 ya yc yd yi yo yn k) (g_M_pinKey_zm_23 yb yc yd yi yo yn k) (g_M_reads_zm_24 yw (f_M_openBlock (g_M_pinKey_zm_22 ya yc yd yi yo yn k) (g_M_pinKey_zm_23 yb yc yd yi yo yn k) (yf 0)) (g >>> (4 &&& 31)) a) (g_M_reads_zm_25 yx (f_M_openBlock (g_M_pinKey_zm_22 ya yc yd yi yo yn k) (g_M_pinKey_zm_23 yb yc yd yi yo yn k) (yf 0)) (g >>> (4 &&& 31)) a) k2 h5n) trivial mf_M_pinKey m_833 m_835 ms_24 rfl 0 rfl rfl rfl (by decide) (by decide) rfl (Nat.le_of_ble_eq_true rfl) d_M_translate_177) (fun x42 e42 => ?_)
                            refine pv_eqw (ws2 := [ob zm 5 [.ref zmp, .ref zm1, .ref zm2, .ref zmx, .int 0, .ref zmh, .ref zmt, .int ys, .long yl, .long yr, .ref zmu, .ref zme, .ref zma, .ref zmb, .ref zmk, .ref zmc, .ref zmd, .ref zmi, .ref zmo, .ref zmf, .ref zmg, .ref zmn, .long (g_M_pinKey_zm_22 ya yc yd yi yo (g_M_openBlock_zmn (g_M_pinKey_zmn yc yd yi yo yn k) (g_M_pinKey_zm_22 ya yc yd yi yo yn k) (g_M_pinKey_zm_23 yb yc yd yi yo yn k)) k2), .long (g_M_pinKey_zm_23 yb yc yd yi yo (g_M_openBlock_zmn (g_M_pinKey_zmn yc yd yi yo yn k) (g_M_pinKey_zm_22 ya yc yd yi yo yn k) (g_M_pinKey_zm_23 yb yc yd yi yo yn k)) k2), .int (g_M_reads_zm_24 yw (f_M_openBlock (g_M_pinKey_zm_22 ya yc yd yi yo yn k) (g_M_pinKey_zm_23 yb yc yd yi yo yn k) (yf 0)) (g >>> (4 &&& 31)) a), .long (g_M_reads_zm_25 yx (f_M_openBlock (g_M_pinKey_zm_22 ya yc yd yi yo yn k) (g_M_pinKey_zm_23 yb yc yd yi yo yn k) (yf 0)) (g >>> (4 &&& 31)) a)], aI G zmp 32 tb_perm, aI G zm1 56 tb_c1, aI G zm2 48 tb_c2, aI G zmx 512 tb_box, aJ G zmh 6 yv, aZ G zmt 6 yt, aI G zmu 16 yu, aZ G zme 16 ye, aJ G zma 16 ya, aJ G zmb 16 yb, aZ G zmk 8 yk, aJ G zmc 8 yc, aJ G zmd 8 yd, aJ G zmi 8 yi, aI G zmo 8 yo, aJ G zmf 5 yf, aJ G zmg 8 yg, aJ G zmn 16 (g_M_pinKey_zmn yc yd yi yo (g_M_openBlock_zmn (g_M_pinKey_zmn yc yd yi yo yn k) (g_M_pinKey_zm_22 ya yc yd yi yo yn k) (g_M_pinKey_zm_23 yb yc yd yi yo yn k)) k2)]) rfl ?_
                            refine pv_aload_n X 2 d_M_translate_180 rfl ?_
                            refine pv_get X 0 19 u_M_in m_593 rfl rfl (by decide) ⟨rfl, rfl, rfl⟩ rfl d_M_translate_181 ?_
                            refine pv_iconst X 0 d_M_translate_184 (by decide) ?_
                            refine pv_aload_n X 2 d_M_translate_185 rfl ?_
                            refine pv_aload_n X 2 d_M_translate_186 rfl ?_
                            refine pv_get X 0 22 u_M_in m_596 rfl rfl (by decide) ⟨rfl, rfl, rfl⟩ rfl d_M_translate_187 ?_
                            refine pv_aload_n X 2 d_M_translate_190 rfl ?_
                            refine pv_get X 0 23 u_M_in m_597 rfl rfl (by decide) ⟨rfl, rfl, rfl⟩ rfl d_M_translate_191 ?_
                            refine pv_iload X 0 d_M_translate_194 rfl ?_
                            refine pv_aload_n X 2 d_M_translate_196 rfl ?_
                            refine pv_get X 0 24 u_M_in m_598 rfl rfl (by decide) ⟨rfl, rfl, rfl⟩ rfl d_M_translate_197 ?_
                            refine pv_aload_n X 2 d_M_translate_200 rfl ?_
                            refine pv_get X 0 25 u_M_in m_599 rfl rfl (by decide) ⟨rfl, rfl, rfl⟩ rfl d_M_translate_201 ?_
                            refine pv_lload X 6 d_M_translate_204 rfl ?_
                            refine pv_lload X 7 d_M_translate_206 rfl ?_
                            refine pv_calll0 X (rn_S X (c_M_form l G (g &&& 15) (g_M_reads_zm_24 yw (f_M_openBlock (g_M_pinKey_zm_22 ya yc yd yi yo yn k) (g_M_pinKey_zm_23 yb yc yd yi yo yn k) (yf 0)) (g >>> (4 &&& 31)) a) (g_M_reads_zm_25 yx (f_M_openBlock (g_M_pinKey_zm_22 ya yc yd yi yo yn k) (g_M_pinKey_zm_23 yb yc yd yi yo yn k) (yf 0)) (g >>> (4 &&& 31)) a) a z) trivial mf_M_form m_837 m_838 rfl (by decide) (by decide) rfl (Nat.le_of_ble_eq_true rfl) d_M_translate_208) ?_
                            refine pv_calllE X (Cut.all _) (rn_V X (c_M_sealBlock l G zm zmp zm1 zm2 zmx zmh zmt zmu zme zma zmb zmk zmc zmd zmi zmo zmf zmg zmn 0 ys yl yr yv yt yu ye ya yb yk yc yd yi yo yf yg (g_M_pinKey_zmn yc yd yi yo (g_M_openBlock_zmn (g_M_pinKey_zmn yc yd yi yo yn k) (g_M_pinKey_zm_22 ya yc yd yi yo yn k) (g_M_pinKey_zm_23 yb yc yd yi yo yn k)) k2) (g_M_pinKey_zm_22 ya yc yd yi yo (g_M_openBlock_zmn (g_M_pinKey_zmn yc yd yi yo yn k) (g_M_pinKey_zm_22 ya yc yd yi yo yn k) (g_M_pinKey_zm_23 yb yc yd yi yo yn k)) k2) (g_M_pinKey_zm_23 yb yc yd yi yo (g_M_openBlock_zmn (g_M_pinKey_zmn yc yd yi yo yn k) (g_M_pinKey_zm_22 ya yc yd yi yo yn k) (g_M_pinKey_zm_23 yb yc yd yi yo yn k)) k2) (g_M_reads_zm_24 yw (f_M_openBlock (g_M_pinKey_zm_22 ya yc yd yi yo yn k) (g_M_pinKey_zm_23 yb yc yd yi yo yn k) (yf 0)) (g >>> (4 &&& 31)) a) (g_M_reads_zm_25 yx (f_M_openBlock (g_M_pinKey_zm_22 ya yc yd yi yo yn k) (g_M_pinKey_zm_23 yb yc yd yi yo yn k) (yf 0)) (g >>> (4 &&& 31)) a) (g_M_pinKey_zm_22 ya yc yd yi yo (g_M_openBlock_zmn (g_M_pinKey_zmn yc yd yi yo yn k) (g_M_pinKey_zm_22 ya yc yd yi yo yn k) (g_M_pinKey_zm_23 yb yc yd yi yo yn k)) k2) (g_M_pinKey_zm_23 yb yc yd yi yo (g_M_openBlock_zmn (g_M_pinKey_zmn yc yd yi yo yn k) (g_M_pinKey_zm_22 ya yc yd yi yo yn k) (g_M_pinKey_zm_23 yb yc yd yi yo yn k)) k2) (f_M_form (g &&& 15) (g_M_reads_zm_24 yw (f_M_openBlock (g_M_pinKey_zm_22 ya yc yd yi yo yn k) (g_M_pinKey_zm_23 yb yc yd yi yo yn k) (yf 0)) (g >>> (4 &&& 31)) a) (g_M_reads_zm_25 yx (f_M_openBlock (g_M_pinKey_zm_22 ya yc yd yi yo yn k) (g_M_pinKey_zm_23 yb yc yd yi yo yn k) (yf 0)) (g >>> (4 &&& 31)) a) a z) ) trivial mf_M_sealBlock m_682 m_684 ms_14 rfl 0 rfl rfl rfl (by decide) (by decide) rfl (Nat.le_of_ble_eq_true rfl) d_M_translate_211) (fun x44 => ?_)
                            refine pv_eqw (ws2 := [ob zm 5 [.ref zmp, .ref zm1, .ref zm2, .ref zmx, .int 0, .ref zmh, .ref zmt, .int ys, .long yl, .long yr, .ref zmu, .ref zme, .ref zma, .ref zmb, .ref zmk, .ref zmc, .ref zmd, .ref zmi, .ref zmo, .ref zmf, .ref zmg, .ref zmn, .long (g_M_pinKey_zm_22 ya yc yd yi yo (g_M_openBlock_zmn (g_M_pinKey_zmn yc yd yi yo yn k) (g_M_pinKey_zm_22 ya yc yd yi yo yn k) (g_M_pinKey_zm_23 yb yc yd yi yo yn k)) k2), .long (g_M_pinKey_zm_23 yb yc yd yi yo (g_M_openBlock_zmn (g_M_pinKey_zmn yc yd yi yo yn k) (g_M_pinKey_zm_22 ya yc yd yi yo yn k) (g_M_pinKey_zm_23 yb yc yd yi yo yn k)) k2), .int (g_M_reads_zm_24 yw (f_M_openBlock (g_M_pinKey_zm_22 ya yc yd yi yo yn k) (g_M_pinKey_zm_23 yb yc yd yi yo yn k) (yf 0)) (g >>> (4 &&& 31)) a), .long (g_M_reads_zm_25 yx (f_M_openBlock (g_M_pinKey_zm_22 ya yc yd yi yo yn k) (g_M_pinKey_zm_23 yb yc yd yi yo yn k) (yf 0)) (g >>> (4 &&& 31)) a)], aI G zmp 32 tb_perm, aI G zm1 56 tb_c1, aI G zm2 48 tb_c2, aI G zmx 512 tb_box, aJ G zmh 6 yv, aZ G zmt 6 yt, aI G zmu 16 yu, aZ G zme 16 ye, aJ G zma 16 ya, aJ G zmb 16 yb, aZ G zmk 8 yk, aJ G zmc 8 yc, aJ G zmd 8 yd, aJ G zmi 8 yi, aI G zmo 8 yo, aJ G zmf 5 yf, aJ G zmg 8 yg, aJ G zmn 16 (g_M_sealBlock_zmn (g_M_pinKey_zmn yc yd yi yo (g_M_openBlock_zmn (g_M_pinKey_zmn yc yd yi yo yn k) (g_M_pinKey_zm_22 ya yc yd yi yo yn k) (g_M_pinKey_zm_23 yb yc yd yi yo yn k)) k2) (g_M_pinKey_zm_22 ya yc yd yi yo (g_M_openBlock_zmn (g_M_pinKey_zmn yc yd yi yo yn k) (g_M_pinKey_zm_22 ya yc yd yi yo yn k) (g_M_pinKey_zm_23 yb yc yd yi yo yn k)) k2) (g_M_pinKey_zm_23 yb yc yd yi yo (g_M_openBlock_zmn (g_M_pinKey_zmn yc yd yi yo yn k) (g_M_pinKey_zm_22 ya yc yd yi yo yn k) (g_M_pinKey_zm_23 yb yc yd yi yo yn k)) k2))]) rfl ?_
                            refine pv_last (ws2 := [ob zm 5 [.ref zmp, .ref zm1, .ref zm2, .ref zmx, .int 0, .ref zmh, .ref zmt, .int ys, .long yl, .long yr, .ref zmu, .ref zme, .ref zma, .ref zmb, .ref zmk, .ref zmc, .ref zmd, .ref zmi, .ref zmo, .ref zmf, .ref zmg, .ref zmn, .long (g_M_pinKey_zm_22 ya yc yd yi yo (g_M_openBlock_zmn (g_M_pinKey_zmn yc yd yi yo yn k) (g_M_pinKey_zm_22 ya yc yd yi yo yn k) (g_M_pinKey_zm_23 yb yc yd yi yo yn k)) k2), .long (g_M_pinKey_zm_23 yb yc yd yi yo (g_M_openBlock_zmn (g_M_pinKey_zmn yc yd yi yo yn k) (g_M_pinKey_zm_22 ya yc yd yi yo yn k) (g_M_pinKey_zm_23 yb yc yd yi yo yn k)) k2), .int (g_M_reads_zm_24 yw (f_M_openBlock (g_M_pinKey_zm_22 ya yc yd yi yo yn k) (g_M_pinKey_zm_23 yb yc yd yi yo yn k) (yf 0)) (g >>> (4 &&& 31)) a), .long (g_M_reads_zm_25 yx (f_M_openBlock (g_M_pinKey_zm_22 ya yc yd yi yo yn k) (g_M_pinKey_zm_23 yb yc yd yi yo yn k) (yf 0)) (g >>> (4 &&& 31)) a)], aI G zmp 32 tb_perm, aI G zm1 56 tb_c1, aI G zm2 48 tb_c2, aI G zmx 512 tb_box, aJ G zmh 6 yv, aZ G zmt 6 yt, aI G zmu 16 yu, aZ G zme 16 ye, aJ G zma 16 ya, aJ G zmb 16 yb, aZ G zmk 8 yk, aJ G zmc 8 yc, aJ G zmd 8 yd, aJ G zmi 8 yi, aI G zmo 8 yo, aJ G zmf 5 (vp_updL yf 0 (f_M_sealBlock (g_M_pinKey_zm_22 ya yc yd yi yo (g_M_openBlock_zmn (g_M_pinKey_zmn yc yd yi yo yn k) (g_M_pinKey_zm_22 ya yc yd yi yo yn k) (g_M_pinKey_zm_23 yb yc yd yi yo yn k)) k2) (g_M_pinKey_zm_23 yb yc yd yi yo (g_M_openBlock_zmn (g_M_pinKey_zmn yc yd yi yo yn k) (g_M_pinKey_zm_22 ya yc yd yi yo yn k) (g_M_pinKey_zm_23 yb yc yd yi yo yn k)) k2) (f_M_form (g &&& 15) (g_M_reads_zm_24 yw (f_M_openBlock (g_M_pinKey_zm_22 ya yc yd yi yo yn k) (g_M_pinKey_zm_23 yb yc yd yi yo yn k) (yf 0)) (g >>> (4 &&& 31)) a) (g_M_reads_zm_25 yx (f_M_openBlock (g_M_pinKey_zm_22 ya yc yd yi yo yn k) (g_M_pinKey_zm_23 yb yc yd yi yo yn k) (yf 0)) (g >>> (4 &&& 31)) a) a z))), aJ G zmg 8 yg, aJ G zmn 16 (g_M_sealBlock_zmn (g_M_pinKey_zmn yc yd yi yo (g_M_openBlock_zmn (g_M_pinKey_zmn yc yd yi yo yn k) (g_M_pinKey_zm_22 ya yc yd yi yo yn k) (g_M_pinKey_zm_23 yb yc yd yi yo yn k)) k2) (g_M_pinKey_zm_22 ya yc yd yi yo (g_M_openBlock_zmn (g_M_pinKey_zmn yc yd yi yo yn k) (g_M_pinKey_zm_22 ya yc yd yi yo yn k) (g_M_pinKey_zm_23 yb yc yd yi yo yn k)) k2) (g_M_pinKey_zm_23 yb yc yd yi yo (g_M_openBlock_zmn (g_M_pinKey_zmn yc yd yi yo yn k) (g_M_pinKey_zm_22 ya yc yd yi yo yn k) (g_M_pinKey_zm_23 yb yc yd yi yo yn k)) k2))]) X 16 rfl (by unfold vp_in; decide) rfl d_M_translate_214 ?_
                            refine pv_aload_n X 2 d_M_translate_215 rfl ?_
                            refine pv_get X 0 24 u_M_in m_598 rfl rfl (by decide) ⟨rfl, rfl, rfl⟩ rfl d_M_translate_216 ?_
                            exact pv_iret X hr hlk (g_M_sealBlock_zmn (g_M_pinKey_zmn yc yd yi yo (g_M_openBlock_zmn (g_M_pinKey_zmn yc yd yi yo yn k) (g_M_pinKey_zm_22 ya yc yd yi yo yn k) (g_M_pinKey_zm_23 yb yc yd yi yo yn k)) k2) (g_M_pinKey_zm_22 ya yc yd yi yo (g_M_openBlock_zmn (g_M_pinKey_zmn yc yd yi yo yn k) (g_M_pinKey_zm_22 ya yc yd yi yo yn k) (g_M_pinKey_zm_23 yb yc yd yi yo yn k)) k2) (g_M_pinKey_zm_23 yb yc yd yi yo (g_M_openBlock_zmn (g_M_pinKey_zmn yc yd yi yo yn k) (g_M_pinKey_zm_22 ya yc yd yi yo yn k) (g_M_pinKey_zm_23 yb yc yd yi yo yn k)) k2), g_M_pinKey_zm_22 ya yc yd yi yo (g_M_openBlock_zmn (g_M_pinKey_zmn yc yd yi yo yn k) (g_M_pinKey_zm_22 ya yc yd yi yo yn k) (g_M_pinKey_zm_23 yb yc yd yi yo yn k)) k2, g_M_pinKey_zm_23 yb yc yd yi yo (g_M_openBlock_zmn (g_M_pinKey_zmn yc yd yi yo yn k) (g_M_pinKey_zm_22 ya yc yd yi yo yn k) (g_M_pinKey_zm_23 yb yc yd yi yo yn k)) k2, g_M_reads_zm_24 yw (f_M_openBlock (g_M_pinKey_zm_22 ya yc yd yi yo yn k) (g_M_pinKey_zm_23 yb yc yd yi yo yn k) (yf 0)) (g >>> (4 &&& 31)) a, g_M_reads_zm_25 yx (f_M_openBlock (g_M_pinKey_zm_22 ya yc yd yi yo yn k) (g_M_pinKey_zm_23 yb yc yd yi yo yn k) (yf 0)) (g >>> (4 &&& 31)) a) (by show _ = f_M_translate ys yu ya yb yk yc yd yi yo yf yn yw k k2 g a z; simp only [f_M_translate, if_neg h1, if_neg h3n, if_neg h5n, if_neg h7n, if_neg h9n, if_neg h11, if_pos h12n, if_neg h29, if_neg h31n, if_neg h33, if_neg h35n, if_neg h37, if_neg h41]) (by simp only [g_M_translate_zm_4, g_M_translate_zmf, if_neg h1, if_neg h3n, if_neg h5n, if_neg h7n, if_neg h9n, if_neg h11, if_pos h12n, if_neg h29, if_neg h31n, if_neg h33, if_neg h35n, if_neg h37, if_neg h41]) d_M_translate_219
                          · skip
                            refine pv_bipush X (-6) d_M_translate_172 (by decide) ?_
                            exact pv_iret X hr hlk (g_M_openBlock_zmn (g_M_pinKey_zmn yc yd yi yo yn k) (g_M_pinKey_zm_22 ya yc yd yi yo yn k) (g_M_pinKey_zm_23 yb yc yd yi yo yn k), g_M_pinKey_zm_22 ya yc yd yi yo yn k, g_M_pinKey_zm_23 yb yc yd yi yo yn k, g_M_reads_zm_24 yw (f_M_openBlock (g_M_pinKey_zm_22 ya yc yd yi yo yn k) (g_M_pinKey_zm_23 yb yc yd yi yo yn k) (yf 0)) (g >>> (4 &&& 31)) a, g_M_reads_zm_25 yx (f_M_openBlock (g_M_pinKey_zm_22 ya yc yd yi yo yn k) (g_M_pinKey_zm_23 yb yc yd yi yo yn k) (yf 0)) (g >>> (4 &&& 31)) a) (by show _ = f_M_translate ys yu ya yb yk yc yd yi yo yf yn yw k k2 g a z; simp only [f_M_translate, if_neg h1, if_neg h3n, if_neg h5n, if_neg h7n, if_neg h9n, if_neg h11, if_pos h12n, if_neg h29, if_neg h31n, if_neg h33, if_neg h35n, if_neg h37, if_pos h41n]) (by simp only [g_M_translate_zm_4, g_M_translate_zmf, if_neg h1, if_neg h3n, if_neg h5n, if_neg h7n, if_neg h9n, if_neg h11, if_pos h12n, if_neg h29, if_neg h31n, if_neg h33, if_neg h35n, if_neg h37, if_pos h41n]) d_M_translate_174
                        · skip
                          refine pv_bipush X (-4) d_M_translate_135 (by decide) ?_
                          exact pv_iret X hr hlk (yn, yp, yq, yw, yx) (by show _ = f_M_translate ys yu ya yb yk yc yd yi yo yf yn yw k k2 g a z; simp only [f_M_translate, if_neg h1, if_neg h3n, if_neg h5n, if_neg h7n, if_neg h9n, if_neg h11, if_pos h12n, if_neg h29, if_neg h31n, if_neg h33, if_neg h35n, if_pos h37n]) (by simp only [g_M_translate_zm_4, g_M_translate_zmf, if_neg h1, if_neg h3n, if_neg h5n, if_neg h7n, if_neg h9n, if_neg h11, if_pos h12n, if_neg h29, if_neg h31n, if_neg h33, if_neg h35n, if_pos h37n]) d_M_translate_137
                    · skip
                      refine pv_bipush X (-3) d_M_translate_116 (by decide) ?_
                      exact pv_iret X hr hlk (yn, yp, yq, yw, yx) (by show _ = f_M_translate ys yu ya yb yk yc yd yi yo yf yn yw k k2 g a z; simp only [f_M_translate, if_neg h1, if_neg h3n, if_neg h5n, if_neg h7n, if_neg h9n, if_neg h11, if_pos h12n, if_neg h29, if_neg h31n, if_pos h33n]) (by simp only [g_M_translate_zm_4, g_M_translate_zmf, if_neg h1, if_neg h3n, if_neg h5n, if_neg h7n, if_neg h9n, if_neg h11, if_pos h12n, if_neg h29, if_neg h31n, if_pos h33n]) d_M_translate_118
                · skip
                  refine pv_bipush X (-2) d_M_translate_97 (by decide) ?_
                  exact pv_iret X hr hlk (yn, yp, yq, yw, yx) (by show _ = f_M_translate ys yu ya yb yk yc yd yi yo yf yn yw k k2 g a z; simp only [f_M_translate, if_neg h1, if_neg h3n, if_neg h5n, if_neg h7n, if_neg h9n, if_neg h11, if_pos h12n, if_pos h29n]) (by simp only [g_M_translate_zm_4, g_M_translate_zmf, if_neg h1, if_neg h3n, if_neg h5n, if_neg h7n, if_neg h9n, if_neg h11, if_pos h12n, if_pos h29n]) d_M_translate_99
            · skip
              refine pv_bipush X (-2) d_M_translate_73 (by decide) ?_
              exact pv_iret X hr hlk (yn, yp, yq, yw, yx) (by show _ = f_M_translate ys yu ya yb yk yc yd yi yo yf yn yw k k2 g a z; simp only [f_M_translate, if_neg h1, if_neg h3n, if_neg h5n, if_neg h7n, if_neg h9n, if_pos h11n]) (by simp only [g_M_translate_zm_4, g_M_translate_zmf, if_neg h1, if_neg h3n, if_neg h5n, if_neg h7n, if_neg h9n, if_pos h11n]) d_M_translate_75
  · skip
    refine pv_iconst X (-1) d_M_translate_23 (by decide) ?_
    exact pv_iret X hr hlk (yn, yp, yq, yw, yx) (by show _ = f_M_translate ys yu ya yb yk yc yd yi yo yf yn yw k k2 g a z; simp only [f_M_translate, if_pos h1n]) (by simp only [g_M_translate_zm_4, g_M_translate_zmf, if_pos h1n]) d_M_translate_24
abbrev mvd (n : Int64) (i : Nat) : Int32 := ((n >>> ((4 * nI i).toInt64 &&& 63)) &&& 15).toInt32
def mve (n : Int64) (i : Nat) : Int32 := if mvd n i ≤ 9 then mvd n i else mvd n i - 10
abbrev mvs (n : Int64) (o : Int32) (i : Nat) : Int32 := mve n i + ((o >>> ((4 * nI i) &&& 31)) &&& 15)
def mvr (n : Int64) (o : Int32) (d : Int64) : Nat → Int32
  | 0 => 1
  | i + 1 => if mvr n o d i = 0 then 0 else if lg_cmp ((mvs n o i - mvs n o i / 10 * 10).toInt64) ((d >>> ((4 * nI i).toInt64 &&& 63)) &&& 15) = 0 then 1 else 0
def f_M_verify (ys : Int32) (yu : Nat → Int32) (ya : Nat → Int64) (yb : Nat → Int64) (yk : Nat → Int32) (yc : Nat → Int64) (yd : Nat → Int64) (yi : Nat → Int64) (yo : Nat → Int32) (yf : Nat → Int64) (yn : Nat → Int64) (yw : Int32) (yx : Int64) (k : Int32) (g : Int32) (a : Int64) (o : Int32) : Int32 := if ys = 0 then (-1) else (if (f_M_in k.toInt64 (0 : Int64) (23 : Int64)) = 0 then (-2) else (if (f_M_isSlot (g >>> (4 &&& 31))) = 0 then (-2) else (if (f_M_isFormat (g &&& 15)) = 0 then (-2) else (if (f_M_isAccount a) = 0 then (-2) else (if (f_M_in o.toInt64 (0 : Int64) (65535 : Int64)) = 0 then (-2) else (if (f_M_areDigits o.toInt64 0 4 0 9) = 0 then (-2) else (if (f_M_isThere yu yk k) = 0 then (-3) else (if (0 : Int32) ≤ (yu (g >>> (4 &&& 31)).toNatClampNeg) then (if (f_M_isPinKey yu k) = 0 then (-4) else (if (yu (g >>> (4 &&& 31)).toNatClampNeg) = 3 then (if (f_M_reads (f_M_openBlock (g_M_pinKey_zm_22 ya yc yd yi yo yn k) (g_M_pinKey_zm_23 yb yc yd yi yo yn k) (yf 0)) (g &&& 15) a) = 0 then (-6) else (if (g_M_reads_zm_24 yw (f_M_openBlock (g_M_pinKey_zm_22 ya yc yd yi yo yn k) (g_M_pinKey_zm_23 yb yc yd yi yo yn k) (yf 0)) (g &&& 15) a) = 4 then (if (mvr (((f_M_sealBlock (ya (g >>> (4 &&& 31)).toNatClampNeg) (yb (g >>> (4 &&& 31)).toNatClampNeg) a).toUInt64 >>> ((48 : Int32).toInt64.toUInt64 &&& Int64.toUInt64 63)).toInt64) o (g_M_reads_zm_25 yx (f_M_openBlock (g_M_pinKey_zm_22 ya yc yd yi yo yn k) (g_M_pinKey_zm_23 yb yc yd yi yo yn k) (yf 0)) (g &&& 15) a) 4) = 0 then (-6) else 0) else (-6))) else (-4))) else (-3)))))))))
def g_M_verify_zm_4  : Int32 := 0
abbrev rm_M_verify : Room := { frames := 6, cells := 0, slots := 0, locals := 167 }
theorem mf_M_verify : MF y_M_verify b_M_verify 13 (some .int) 4 := ⟨m_854, m_6, by decide, by decide, by decide +kernel⟩
theorem d_M_verify_0 : decode b_M_verify 0 = .ok (.aload_n 0, 1) := by decide +kernel
theorem d_M_verify_1 : decode b_M_verify 1 = .ok (.iconst 0, 1) := by decide +kernel
theorem d_M_verify_2 : decode b_M_verify 2 = .ok (.putfield 66, 3) := by decide +kernel
theorem d_M_verify_5 : decode b_M_verify 5 = .ok (.iload_n 2, 1) := by decide +kernel
theorem d_M_verify_6 : decode b_M_verify 6 = .ok (.iconst 4, 1) := by decide +kernel
theorem d_M_verify_7 : decode b_M_verify 7 = .ok (.ishr, 1) := by decide +kernel
theorem d_M_verify_8 : decode b_M_verify 8 = .ok (.istore 6, 2) := by decide +kernel
theorem d_M_verify_10 : decode b_M_verify 10 = .ok (.iload_n 2, 1) := by decide +kernel
theorem d_M_verify_11 : decode b_M_verify 11 = .ok (.bipush 15, 2) := by decide +kernel
theorem d_M_verify_13 : decode b_M_verify 13 = .ok (.iand, 1) := by decide +kernel
theorem d_M_verify_14 : decode b_M_verify 14 = .ok (.istore 7, 2) := by decide +kernel
theorem d_M_verify_16 : decode b_M_verify 16 = .ok (.aload_n 0, 1) := by decide +kernel
theorem d_M_verify_17 : decode b_M_verify 17 = .ok (.getfield 108, 3) := by decide +kernel
theorem d_M_verify_20 : decode b_M_verify 20 = .ok (.ifCond .ne 5, 3) := by decide +kernel
theorem d_M_verify_23 : decode b_M_verify 23 = .ok (.iconst (-1), 1) := by decide +kernel
theorem d_M_verify_24 : decode b_M_verify 24 = .ok (.ireturn, 1) := by decide +kernel
theorem d_M_verify_25 : decode b_M_verify 25 = .ok (.iload_n 1, 1) := by decide +kernel
theorem d_M_verify_26 : decode b_M_verify 26 = .ok (.i2l, 1) := by decide +kernel
theorem d_M_verify_27 : decode b_M_verify 27 = .ok (.lconst 0, 1) := by decide +kernel
theorem d_M_verify_28 : decode b_M_verify 28 = .ok (.ldc2_w 211, 3) := by decide +kernel
theorem d_M_verify_31 : decode b_M_verify 31 = .ok (.invokestatic 104, 3) := by decide +kernel
theorem d_M_verify_34 : decode b_M_verify 34 = .ok (.ifCond .eq 53, 3) := by decide +kernel
theorem d_M_verify_37 : decode b_M_verify 37 = .ok (.iload 6, 2) := by decide +kernel
theorem d_M_verify_39 : decode b_M_verify 39 = .ok (.invokestatic 137, 3) := by decide +kernel
theorem d_M_verify_42 : decode b_M_verify 42 = .ok (.ifCond .eq 45, 3) := by decide +kernel
theorem d_M_verify_45 : decode b_M_verify 45 = .ok (.iload 7, 2) := by decide +kernel
theorem d_M_verify_47 : decode b_M_verify 47 = .ok (.invokestatic 232, 3) := by decide +kernel
theorem d_M_verify_50 : decode b_M_verify 50 = .ok (.ifCond .eq 37, 3) := by decide +kernel
theorem d_M_verify_53 : decode b_M_verify 53 = .ok (.lload_n 3, 1) := by decide +kernel
theorem d_M_verify_54 : decode b_M_verify 54 = .ok (.invokestatic 235, 3) := by decide +kernel
theorem d_M_verify_57 : decode b_M_verify 57 = .ok (.ifCond .eq 30, 3) := by decide +kernel
theorem d_M_verify_60 : decode b_M_verify 60 = .ok (.iload 5, 2) := by decide +kernel
theorem d_M_verify_62 : decode b_M_verify 62 = .ok (.i2l, 1) := by decide +kernel
theorem d_M_verify_63 : decode b_M_verify 63 = .ok (.lconst 0, 1) := by decide +kernel
theorem d_M_verify_64 : decode b_M_verify 64 = .ok (.ldc2_w 256, 3) := by decide +kernel
theorem d_M_verify_67 : decode b_M_verify 67 = .ok (.invokestatic 104, 3) := by decide +kernel
theorem d_M_verify_70 : decode b_M_verify 70 = .ok (.ifCond .eq 17, 3) := by decide +kernel
theorem d_M_verify_73 : decode b_M_verify 73 = .ok (.iload 5, 2) := by decide +kernel
theorem d_M_verify_75 : decode b_M_verify 75 = .ok (.i2l, 1) := by decide +kernel
theorem d_M_verify_76 : decode b_M_verify 76 = .ok (.iconst 0, 1) := by decide +kernel
theorem d_M_verify_77 : decode b_M_verify 77 = .ok (.iconst 4, 1) := by decide +kernel
theorem d_M_verify_78 : decode b_M_verify 78 = .ok (.iconst 0, 1) := by decide +kernel
theorem d_M_verify_79 : decode b_M_verify 79 = .ok (.bipush 9, 2) := by decide +kernel
theorem d_M_verify_81 : decode b_M_verify 81 = .ok (.invokestatic 217, 3) := by decide +kernel
theorem d_M_verify_84 : decode b_M_verify 84 = .ok (.ifCond .ne 6, 3) := by decide +kernel
theorem d_M_verify_87 : decode b_M_verify 87 = .ok (.bipush (-2), 2) := by decide +kernel
theorem d_M_verify_89 : decode b_M_verify 89 = .ok (.ireturn, 1) := by decide +kernel
theorem d_M_verify_90 : decode b_M_verify 90 = .ok (.aload_n 0, 1) := by decide +kernel
theorem d_M_verify_91 : decode b_M_verify 91 = .ok (.iload_n 1, 1) := by decide +kernel
theorem d_M_verify_92 : decode b_M_verify 92 = .ok (.invokevirtual 239, 3) := by decide +kernel
theorem d_M_verify_95 : decode b_M_verify 95 = .ok (.ifCond .eq 13, 3) := by decide +kernel
theorem d_M_verify_98 : decode b_M_verify 98 = .ok (.aload_n 0, 1) := by decide +kernel
theorem d_M_verify_99 : decode b_M_verify 99 = .ok (.getfield 30, 3) := by decide +kernel
theorem d_M_verify_102 : decode b_M_verify 102 = .ok (.iload 6, 2) := by decide +kernel
theorem d_M_verify_104 : decode b_M_verify 104 = .ok (.iaload, 1) := by decide +kernel
theorem d_M_verify_105 : decode b_M_verify 105 = .ok (.ifCond .ge 6, 3) := by decide +kernel
theorem d_M_verify_108 : decode b_M_verify 108 = .ok (.bipush (-3), 2) := by decide +kernel
theorem d_M_verify_110 : decode b_M_verify 110 = .ok (.ireturn, 1) := by decide +kernel
theorem d_M_verify_111 : decode b_M_verify 111 = .ok (.aload_n 0, 1) := by decide +kernel
theorem d_M_verify_112 : decode b_M_verify 112 = .ok (.iload_n 1, 1) := by decide +kernel
theorem d_M_verify_113 : decode b_M_verify 113 = .ok (.invokevirtual 242, 3) := by decide +kernel
theorem d_M_verify_116 : decode b_M_verify 116 = .ok (.ifCond .eq 14, 3) := by decide +kernel
theorem d_M_verify_119 : decode b_M_verify 119 = .ok (.aload_n 0, 1) := by decide +kernel
theorem d_M_verify_120 : decode b_M_verify 120 = .ok (.getfield 30, 3) := by decide +kernel
theorem d_M_verify_123 : decode b_M_verify 123 = .ok (.iload 6, 2) := by decide +kernel
theorem d_M_verify_125 : decode b_M_verify 125 = .ok (.iaload, 1) := by decide +kernel
theorem d_M_verify_126 : decode b_M_verify 126 = .ok (.iconst 3, 1) := by decide +kernel
theorem d_M_verify_127 : decode b_M_verify 127 = .ok (.if_icmp .eq 6, 3) := by decide +kernel
theorem d_M_verify_130 : decode b_M_verify 130 = .ok (.bipush (-4), 2) := by decide +kernel
theorem d_M_verify_132 : decode b_M_verify 132 = .ok (.ireturn, 1) := by decide +kernel
theorem d_M_verify_133 : decode b_M_verify 133 = .ok (.aload_n 0, 1) := by decide +kernel
theorem d_M_verify_134 : decode b_M_verify 134 = .ok (.iload_n 1, 1) := by decide +kernel
theorem d_M_verify_135 : decode b_M_verify 135 = .ok (.invokevirtual 245, 3) := by decide +kernel
theorem d_M_verify_138 : decode b_M_verify 138 = .ok (.aload_n 0, 1) := by decide +kernel
theorem d_M_verify_139 : decode b_M_verify 139 = .ok (.aload_n 0, 1) := by decide +kernel
theorem d_M_verify_140 : decode b_M_verify 140 = .ok (.aload_n 0, 1) := by decide +kernel
theorem d_M_verify_141 : decode b_M_verify 141 = .ok (.getfield 203, 3) := by decide +kernel
theorem d_M_verify_144 : decode b_M_verify 144 = .ok (.aload_n 0, 1) := by decide +kernel
theorem d_M_verify_145 : decode b_M_verify 145 = .ok (.getfield 208, 3) := by decide +kernel
theorem d_M_verify_148 : decode b_M_verify 148 = .ok (.aload_n 0, 1) := by decide +kernel
theorem d_M_verify_149 : decode b_M_verify 149 = .ok (.getfield 57, 3) := by decide +kernel
theorem d_M_verify_152 : decode b_M_verify 152 = .ok (.iconst 0, 1) := by decide +kernel
theorem d_M_verify_153 : decode b_M_verify 153 = .ok (.laload, 1) := by decide +kernel
theorem d_M_verify_154 : decode b_M_verify 154 = .ok (.invokevirtual 180, 3) := by decide +kernel
theorem d_M_verify_157 : decode b_M_verify 157 = .ok (.iload 7, 2) := by decide +kernel
theorem d_M_verify_159 : decode b_M_verify 159 = .ok (.lload_n 3, 1) := by decide +kernel
theorem d_M_verify_160 : decode b_M_verify 160 = .ok (.invokevirtual 252, 3) := by decide +kernel
theorem d_M_verify_163 : decode b_M_verify 163 = .ok (.ifCond .eq 11, 3) := by decide +kernel
theorem d_M_verify_166 : decode b_M_verify 166 = .ok (.aload_n 0, 1) := by decide +kernel
theorem d_M_verify_167 : decode b_M_verify 167 = .ok (.getfield 226, 3) := by decide +kernel
theorem d_M_verify_170 : decode b_M_verify 170 = .ok (.iconst 4, 1) := by decide +kernel
theorem d_M_verify_171 : decode b_M_verify 171 = .ok (.if_icmp .eq 6, 3) := by decide +kernel
theorem d_M_verify_174 : decode b_M_verify 174 = .ok (.bipush (-6), 2) := by decide +kernel
theorem d_M_verify_176 : decode b_M_verify 176 = .ok (.ireturn, 1) := by decide +kernel
theorem d_M_verify_177 : decode b_M_verify 177 = .ok (.aload_n 0, 1) := by decide +kernel
theorem d_M_verify_178 : decode b_M_verify 178 = .ok (.aload_n 0, 1) := by decide +kernel
theorem d_M_verify_179 : decode b_M_verify 179 = .ok (.getfield 36, 3) := by decide +kernel
theorem d_M_verify_182 : decode b_M_verify 182 = .ok (.iload 6, 2) := by decide +kernel
theorem d_M_verify_184 : decode b_M_verify 184 = .ok (.laload, 1) := by decide +kernel
theorem d_M_verify_185 : decode b_M_verify 185 = .ok (.aload_n 0, 1) := by decide +kernel
theorem d_M_verify_186 : decode b_M_verify 186 = .ok (.getfield 39, 3) := by decide +kernel
theorem d_M_verify_189 : decode b_M_verify 189 = .ok (.iload 6, 2) := by decide +kernel
theorem d_M_verify_191 : decode b_M_verify 191 = .ok (.laload, 1) := by decide +kernel
theorem d_M_verify_192 : decode b_M_verify 192 = .ok (.lload_n 3, 1) := by decide +kernel
theorem d_M_verify_193 : decode b_M_verify 193 = .ok (.invokevirtual 98, 3) := by decide +kernel
theorem d_M_verify_196 : decode b_M_verify 196 = .ok (.bipush 48, 2) := by decide +kernel
theorem d_M_verify_198 : decode b_M_verify 198 = .ok (.lushr, 1) := by decide +kernel
theorem d_M_verify_199 : decode b_M_verify 199 = .ok (.lstore 8, 2) := by decide +kernel
theorem d_M_verify_201 : decode b_M_verify 201 = .ok (.iconst 1, 1) := by decide +kernel
theorem d_M_verify_202 : decode b_M_verify 202 = .ok (.istore 10, 2) := by decide +kernel
theorem d_M_verify_204 : decode b_M_verify 204 = .ok (.iconst 0, 1) := by decide +kernel
theorem d_M_verify_205 : decode b_M_verify 205 = .ok (.istore 11, 2) := by decide +kernel
theorem d_M_verify_207 : decode b_M_verify 207 = .ok (.iload 11, 2) := by decide +kernel
theorem d_M_verify_209 : decode b_M_verify 209 = .ok (.iconst 4, 1) := by decide +kernel
theorem d_M_verify_210 : decode b_M_verify 210 = .ok (.if_icmp .ge 88, 3) := by decide +kernel
theorem d_M_verify_213 : decode b_M_verify 213 = .ok (.lload 8, 2) := by decide +kernel
theorem d_M_verify_215 : decode b_M_verify 215 = .ok (.iconst 4, 1) := by decide +kernel
theorem d_M_verify_216 : decode b_M_verify 216 = .ok (.iload 11, 2) := by decide +kernel
theorem d_M_verify_218 : decode b_M_verify 218 = .ok (.imul, 1) := by decide +kernel
theorem d_M_verify_219 : decode b_M_verify 219 = .ok (.lshr, 1) := by decide +kernel
theorem d_M_verify_220 : decode b_M_verify 220 = .ok (.ldc2_w 135, 3) := by decide +kernel
theorem d_M_verify_223 : decode b_M_verify 223 = .ok (.land, 1) := by decide +kernel
theorem d_M_verify_224 : decode b_M_verify 224 = .ok (.l2i, 1) := by decide +kernel
theorem d_M_verify_225 : decode b_M_verify 225 = .ok (.istore 12, 2) := by decide +kernel
theorem d_M_verify_227 : decode b_M_verify 227 = .ok (.iload 12, 2) := by decide +kernel
theorem d_M_verify_229 : decode b_M_verify 229 = .ok (.bipush 9, 2) := by decide +kernel
theorem d_M_verify_231 : decode b_M_verify 231 = .ok (.if_icmp .le 11, 3) := by decide +kernel
theorem d_M_verify_234 : decode b_M_verify 234 = .ok (.iload 12, 2) := by decide +kernel
theorem d_M_verify_236 : decode b_M_verify 236 = .ok (.bipush 10, 2) := by decide +kernel
theorem d_M_verify_238 : decode b_M_verify 238 = .ok (.isub, 1) := by decide +kernel
theorem d_M_verify_239 : decode b_M_verify 239 = .ok (.goto 5, 3) := by decide +kernel
theorem d_M_verify_242 : decode b_M_verify 242 = .ok (.iload 12, 2) := by decide +kernel
theorem d_M_verify_244 : decode b_M_verify 244 = .ok (.istore 12, 2) := by decide +kernel
theorem d_M_verify_246 : decode b_M_verify 246 = .ok (.iload 10, 2) := by decide +kernel
theorem d_M_verify_248 : decode b_M_verify 248 = .ok (.ifCond .eq 41, 3) := by decide +kernel
theorem d_M_verify_251 : decode b_M_verify 251 = .ok (.iload 12, 2) := by decide +kernel
theorem d_M_verify_253 : decode b_M_verify 253 = .ok (.iload 5, 2) := by decide +kernel
theorem d_M_verify_255 : decode b_M_verify 255 = .ok (.iconst 4, 1) := by decide +kernel
theorem d_M_verify_256 : decode b_M_verify 256 = .ok (.iload 11, 2) := by decide +kernel
theorem d_M_verify_258 : decode b_M_verify 258 = .ok (.imul, 1) := by decide +kernel
theorem d_M_verify_259 : decode b_M_verify 259 = .ok (.ishr, 1) := by decide +kernel
theorem d_M_verify_260 : decode b_M_verify 260 = .ok (.bipush 15, 2) := by decide +kernel
theorem d_M_verify_262 : decode b_M_verify 262 = .ok (.iand, 1) := by decide +kernel
theorem d_M_verify_263 : decode b_M_verify 263 = .ok (.iadd, 1) := by decide +kernel
theorem d_M_verify_264 : decode b_M_verify 264 = .ok (.bipush 10, 2) := by decide +kernel
theorem d_M_verify_266 : decode b_M_verify 266 = .ok (.irem, 1) := by decide +kernel
theorem d_M_verify_267 : decode b_M_verify 267 = .ok (.i2l, 1) := by decide +kernel
theorem d_M_verify_268 : decode b_M_verify 268 = .ok (.aload_n 0, 1) := by decide +kernel
theorem d_M_verify_269 : decode b_M_verify 269 = .ok (.getfield 229, 3) := by decide +kernel
theorem d_M_verify_272 : decode b_M_verify 272 = .ok (.iconst 4, 1) := by decide +kernel
theorem d_M_verify_273 : decode b_M_verify 273 = .ok (.iload 11, 2) := by decide +kernel
theorem d_M_verify_275 : decode b_M_verify 275 = .ok (.imul, 1) := by decide +kernel
theorem d_M_verify_276 : decode b_M_verify 276 = .ok (.lshr, 1) := by decide +kernel
theorem d_M_verify_277 : decode b_M_verify 277 = .ok (.ldc2_w 135, 3) := by decide +kernel
theorem d_M_verify_280 : decode b_M_verify 280 = .ok (.land, 1) := by decide +kernel
theorem d_M_verify_281 : decode b_M_verify 281 = .ok (.lcmp, 1) := by decide +kernel
theorem d_M_verify_282 : decode b_M_verify 282 = .ok (.ifCond .ne 7, 3) := by decide +kernel
theorem d_M_verify_285 : decode b_M_verify 285 = .ok (.iconst 1, 1) := by decide +kernel
theorem d_M_verify_286 : decode b_M_verify 286 = .ok (.goto 4, 3) := by decide +kernel
theorem d_M_verify_289 : decode b_M_verify 289 = .ok (.iconst 0, 1) := by decide +kernel
theorem d_M_verify_290 : decode b_M_verify 290 = .ok (.istore 10, 2) := by decide +kernel
theorem d_M_verify_292 : decode b_M_verify 292 = .ok (.iinc 11 1, 3) := by decide +kernel
theorem d_M_verify_295 : decode b_M_verify 295 = .ok (.goto (-88), 3) := by decide +kernel
theorem d_M_verify_298 : decode b_M_verify 298 = .ok (.iload 10, 2) := by decide +kernel
theorem d_M_verify_300 : decode b_M_verify 300 = .ok (.ifCond .eq 7, 3) := by decide +kernel
theorem d_M_verify_303 : decode b_M_verify 303 = .ok (.iconst 0, 1) := by decide +kernel
theorem d_M_verify_304 : decode b_M_verify 304 = .ok (.goto 5, 3) := by decide +kernel
theorem d_M_verify_307 : decode b_M_verify 307 = .ok (.bipush (-6), 2) := by decide +kernel
theorem d_M_verify_309 : decode b_M_verify 309 = .ok (.ireturn, 1) := by decide +kernel
set_option maxRecDepth 100000 in
set_option maxHeartbeats 4000000 in
theorem c_M_verify (l : Launch) (G : Gt) (zm zmp zm1 zm2 zmx zmh zmt zmu zme zma zmb zmk zmc zmd zmi zmo zmf zmg zmn : Nat) (th ys : Int32) (yl yr : Int64) (yv : Nat → Int64) (yt yu ye : Nat → Int32) (ya yb : Nat → Int64) (yk : Nat → Int32) (yc yd yi : Nat → Int64) (yo : Nat → Int32) (yf yg yn : Nat → Int64) (yp yq : Int64) (yw : Int32) (yx : Int64) (k g : Int32) (a : Int64) (o : Int32) (hyk : ∀ j, Bo (yk j)) : CtI l G y_M_verify b_M_verify 13 (some .int) rm_M_verify E0 [.ref zm, .int k, .int g, .long a, .int o] [ob zm 5 [.ref zmp, .ref zm1, .ref zm2, .ref zmx, .int th, .ref zmh, .ref zmt, .int ys, .long yl, .long yr, .ref zmu, .ref zme, .ref zma, .ref zmb, .ref zmk, .ref zmc, .ref zmd, .ref zmi, .ref zmo, .ref zmf, .ref zmg, .ref zmn, .long yp, .long yq, .int yw, .long yx], aI G zmp 32 tb_perm, aI G zm1 56 tb_c1, aI G zm2 48 tb_c2, aI G zmx 512 tb_box, aJ G zmh 6 yv, aZ G zmt 6 yt, aI G zmu 16 yu, aZ G zme 16 ye, aJ G zma 16 ya, aJ G zmb 16 yb, aZ G zmk 8 yk, aJ G zmc 8 yc, aJ G zmd 8 yd, aJ G zmi 8 yi, aI G zmo 8 yo, aJ G zmf 5 yf, aJ G zmg 8 yg, aJ G zmn 16 yn] (fun r (_ : (Nat → Int64) × Int64 × Int64 × Int32 × Int64) => r = f_M_verify ys yu ya yb yk yc yd yi yo yf yn yw yx k g a o) (fun x => [ob zm 5 [.ref zmp, .ref zm1, .ref zm2, .ref zmx, .int g_M_verify_zm_4, .ref zmh, .ref zmt, .int ys, .long yl, .long yr, .ref zmu, .ref zme, .ref zma, .ref zmb, .ref zmk, .ref zmc, .ref zmd, .ref zmi, .ref zmo, .ref zmf, .ref zmg, .ref zmn, .long x.2.1, .long x.2.2.1, .int x.2.2.2.1, .long x.2.2.2.2], aI G zmp 32 tb_perm, aI G zm1 56 tb_c1, aI G zm2 48 tb_c2, aI G zmx 512 tb_box, aJ G zmh 6 yv, aZ G zmt 6 yt, aI G zmu 16 yu, aZ G zme 16 ye, aJ G zma 16 ya, aJ G zmb 16 yb, aZ G zmk 8 yk, aJ G zmc 8 yc, aJ G zmd 8 yd, aJ G zmi 8 yi, aI G zmo 8 yo, aJ G zmf 5 yf, aJ G zmg 8 yg, aJ G zmn 16 x.1]) 0 0 := by
  refine Ct.of (Qp := fun A => va_Qi _ (qB G A _) A) Stb_0 (by decide) (Nat.le_of_ble_eq_true rfl) ?_
  intro p e s m args below meth c A X hE hr hlk hini
  refine pv_eql (ll2 := [(0, .ref zm), (1, .int k), (2, .int g), (3, .long a), (5, .int o)]) rfl ?_
  refine pv_aload_n X 0 d_M_verify_0 rfl ?_
  refine pv_iconst X 0 d_M_verify_1 (by decide) ?_
  refine pv_put X (ty := .int) (ws2 := [ob zm 5 [.ref zmp, .ref zm1, .ref zm2, .ref zmx, .int 0, .ref zmh, .ref zmt, .int ys, .long yl, .long yr, .ref zmu, .ref zme, .ref zma, .ref zmb, .ref zmk, .ref zmc, .ref zmd, .ref zmi, .ref zmo, .ref zmf, .ref zmg, .ref zmn, .long yp, .long yq, .int yw, .long yx], aI G zmp 32 tb_perm, aI G zm1 56 tb_c1, aI G zm2 48 tb_c2, aI G zmx 512 tb_box, aJ G zmh 6 yv, aZ G zmt 6 yt, aI G zmu 16 yu, aZ G zme 16 ye, aJ G zma 16 ya, aJ G zmb 16 yb, aZ G zmk 8 yk, aJ G zmc 8 yc, aJ G zmd 8 yd, aJ G zmi 8 yi, aI G zmo 8 yo, aJ G zmf 5 yf, aJ G zmg 8 yg, aJ G zmn 16 yn]) 0 4 ty_M ty_M_ok n_M u_M_in m_578 rfl rfl (by decide) ⟨rfl, rfl, rfl⟩ rfl (by decide +kernel) rfl rfl (Nat.le_of_ble_eq_true rfl) rfl d_M_verify_2 ?_
  refine pv_iload_n X 2 d_M_verify_5 rfl ?_
  refine pv_iconst X 4 d_M_verify_6 (by decide) ?_
  refine pv_ishr X d_M_verify_7 ?_
  refine pv_istore (ll2 := [(6, .int (g >>> (4 &&& 31))), (0, .ref zm), (1, .int k), (2, .int g), (3, .long a), (5, .int o)]) X d_M_verify_8 (by decide) rfl ?_
  refine pv_iload_n X 3 d_M_verify_10 rfl ?_
  refine pv_bipush X 15 d_M_verify_11 (by decide) ?_
  refine pv_iand X d_M_verify_13 ?_
  refine pv_istore (ll2 := [(7, .int (g &&& 15)), (6, .int (g >>> (4 &&& 31))), (0, .ref zm), (1, .int k), (2, .int g), (3, .long a), (5, .int o)]) X d_M_verify_14 (by decide) rfl ?_
  refine pv_aload_n X 2 d_M_verify_16 rfl ?_
  refine pv_get X 0 7 u_M_in m_581 rfl rfl (by decide) ⟨rfl, rfl, rfl⟩ rfl d_M_verify_17 ?_
  refine pv_if_ne X 25 d_M_verify_20 rfl (fun h1 => ?_) (fun h1n => ?_)
  · skip
    refine pv_iload_n X 3 d_M_verify_25 rfl ?_
    refine pv_i2l X d_M_verify_26 ?_
    refine pv_lconst X 0 d_M_verify_27 (by decide) ?_
    refine pv_ldc2_w X m_804 d_M_verify_28 ?_
    refine pv_calli0 X (rn_S X (c_M_in l G k.toInt64 (0 : Int64) (23 : Int64)) trivial mf_M_in m_662 m_663 rfl (by decide) (by decide) rfl (Nat.le_of_ble_eq_true rfl) d_M_verify_31) ?_
    refine pv_if_eq X 87 d_M_verify_34 rfl (fun h3 => ?_) (fun h3n => ?_)
    · skip
      refine pv_bipush X (-2) d_M_verify_87 (by decide) ?_
      exact pv_iret X hr hlk (yn, yp, yq, yw, yx) (by show _ = f_M_verify ys yu ya yb yk yc yd yi yo yf yn yw yx k g a o; simp only [f_M_verify, if_neg h1, if_pos h3]) (by simp only [g_M_verify_zm_4, if_neg h1, if_pos h3]) d_M_verify_89
    · skip
      refine pv_iload X 1 d_M_verify_37 rfl ?_
      refine pv_calli0 X (rn_S X (c_M_isSlot l G (g >>> (4 &&& 31))) trivial mf_M_isSlot m_724 m_725 rfl (by decide) (by decide) rfl (Nat.le_of_ble_eq_true rfl) d_M_verify_39) ?_
      refine pv_if_eq X 87 d_M_verify_42 rfl (fun h5 => ?_) (fun h5n => ?_)
      · skip
        refine pv_bipush X (-2) d_M_verify_87 (by decide) ?_
        exact pv_iret X hr hlk (yn, yp, yq, yw, yx) (by show _ = f_M_verify ys yu ya yb yk yc yd yi yo yf yn yw yx k g a o; simp only [f_M_verify, if_neg h1, if_neg h3n, if_pos h5]) (by simp only [g_M_verify_zm_4, if_neg h1, if_neg h3n, if_pos h5]) d_M_verify_89
      · skip
        refine pv_iload X 0 d_M_verify_45 rfl ?_
        refine pv_calli0 X (rn_S X (c_M_isFormat l G (g &&& 15)) trivial mf_M_isFormat m_815 m_816 rfl (by decide) (by decide) rfl (Nat.le_of_ble_eq_true rfl) d_M_verify_47) ?_
        refine pv_if_eq X 87 d_M_verify_50 rfl (fun h7 => ?_) (fun h7n => ?_)
        · skip
          refine pv_bipush X (-2) d_M_verify_87 (by decide) ?_
          exact pv_iret X hr hlk (yn, yp, yq, yw, yx) (by show _ = f_M_verify ys yu ya yb yk yc yd yi yo yf yn yw yx k g a o; simp only [f_M_verify, if_neg h1, if_neg h3n, if_neg h5n, if_pos h7]) (by simp only [g_M_verify_zm_4, if_neg h1, if_neg h3n, if_neg h5n, if_pos h7]) d_M_verify_89
        · skip
          refine pv_lload_n X 5 d_M_verify_53 rfl ?_
          refine pv_calli0 X (rn_S X (c_M_isAccount l G a) trivial mf_M_isAccount m_819 m_820 rfl (by decide) (by decide) rfl (Nat.le_of_ble_eq_true rfl) d_M_verify_54) ?_
          refine pv_if_eq X 87 d_M_verify_57 rfl (fun h9 => ?_) (fun h9n => ?_)
          · skip
            refine pv_bipush X (-2) d_M_verify_87 (by decide) ?_
            exact pv_iret X hr hlk (yn, yp, yq, yw, yx) (by show _ = f_M_verify ys yu ya yb yk yc yd yi yo yf yn yw yx k g a o; simp only [f_M_verify, if_neg h1, if_neg h3n, if_neg h5n, if_neg h7n, if_pos h9]) (by simp only [g_M_verify_zm_4, if_neg h1, if_neg h3n, if_neg h5n, if_neg h7n, if_pos h9]) d_M_verify_89
          · skip
            refine pv_iload X 6 d_M_verify_60 rfl ?_
            refine pv_i2l X d_M_verify_62 ?_
            refine pv_lconst X 0 d_M_verify_63 (by decide) ?_
            refine pv_ldc2_w X m_855 d_M_verify_64 ?_
            refine pv_calli0 X (rn_S X (c_M_in l G o.toInt64 (0 : Int64) (65535 : Int64)) trivial mf_M_in m_662 m_663 rfl (by decide) (by decide) rfl (Nat.le_of_ble_eq_true rfl) d_M_verify_67) ?_
            refine pv_if_eq X 87 d_M_verify_70 rfl (fun h11 => ?_) (fun h11n => ?_)
            · skip
              refine pv_bipush X (-2) d_M_verify_87 (by decide) ?_
              exact pv_iret X hr hlk (yn, yp, yq, yw, yx) (by show _ = f_M_verify ys yu ya yb yk yc yd yi yo yf yn yw yx k g a o; simp only [f_M_verify, if_neg h1, if_neg h3n, if_neg h5n, if_neg h7n, if_neg h9n, if_pos h11]) (by simp only [g_M_verify_zm_4, if_neg h1, if_neg h3n, if_neg h5n, if_neg h7n, if_neg h9n, if_pos h11]) d_M_verify_89
            · skip
              refine pv_iload X 6 d_M_verify_73 rfl ?_
              refine pv_i2l X d_M_verify_75 ?_
              refine pv_iconst X 0 d_M_verify_76 (by decide) ?_
              refine pv_iconst X 4 d_M_verify_77 (by decide) ?_
              refine pv_iconst X 0 d_M_verify_78 (by decide) ?_
              refine pv_bipush X 9 d_M_verify_79 (by decide) ?_
              refine pv_calli0 X (rn_S X (c_M_areDigits l G o.toInt64 0 4 0 9 rfl) trivial mf_M_areDigits m_822 m_823 rfl (by decide) (by decide) rfl (Nat.le_of_ble_eq_true rfl) d_M_verify_81) ?_
              refine pv_if_ne X 90 d_M_verify_84 rfl (fun h13 => ?_) (fun h13n => ?_)
              · skip
                refine pv_aload_n X 2 d_M_verify_90 rfl ?_
                refine pv_iload_n X 3 d_M_verify_91 rfl ?_
                refine pv_calliE X (Cut.all _) (rn_V X (c_M_isThere l G zm zmp zm1 zm2 zmx zmh zmt zmu zme zma zmb zmk zmc zmd zmi zmo zmf zmg zmn 0 ys yl yr yv yt yu ye ya yb yk yc yd yi yo yf yg yn yp yq yw yx k h3n hyk) trivial mf_M_isThere m_825 m_827 ms_22 rfl 0 rfl rfl rfl (by decide) (by decide) rfl (Nat.le_of_ble_eq_true rfl) d_M_verify_92) (fun x14 => ?_)
                refine pv_eqw (ws2 := [ob zm 5 [.ref zmp, .ref zm1, .ref zm2, .ref zmx, .int 0, .ref zmh, .ref zmt, .int ys, .long yl, .long yr, .ref zmu, .ref zme, .ref zma, .ref zmb, .ref zmk, .ref zmc, .ref zmd, .ref zmi, .ref zmo, .ref zmf, .ref zmg, .ref zmn, .long yp, .long yq, .int yw, .long yx], aI G zmp 32 tb_perm, aI G zm1 56 tb_c1, aI G zm2 48 tb_c2, aI G zmx 512 tb_box, aJ G zmh 6 yv, aZ G zmt 6 yt, aI G zmu 16 yu, aZ G zme 16 ye, aJ G zma 16 ya, aJ G zmb 16 yb, aZ G zmk 8 yk, aJ G zmc 8 yc, aJ G zmd 8 yd, aJ G zmi 8 yi, aI G zmo 8 yo, aJ G zmf 5 yf, aJ G zmg 8 yg, aJ G zmn 16 yn]) rfl ?_
                refine pv_if_eq X 108 d_M_verify_95 rfl (fun h15 => ?_) (fun h15n => ?_)
                · skip
                  refine pv_bipush X (-3) d_M_verify_108 (by decide) ?_
                  exact pv_iret X hr hlk (yn, yp, yq, yw, yx) (by show _ = f_M_verify ys yu ya yb yk yc yd yi yo yf yn yw yx k g a o; simp only [f_M_verify, if_neg h1, if_neg h3n, if_neg h5n, if_neg h7n, if_neg h9n, if_neg h11n, if_neg h13, if_pos h15]) (by simp only [g_M_verify_zm_4, if_neg h1, if_neg h3n, if_neg h5n, if_neg h7n, if_neg h9n, if_neg h11n, if_neg h13, if_pos h15]) d_M_verify_110
                · skip
                  refine pv_aload_n X 2 d_M_verify_98 rfl ?_
                  refine pv_get X 0 10 u_M_in m_584 rfl rfl (by decide) ⟨rfl, rfl, rfl⟩ rfl d_M_verify_99 ?_
                  refine pv_iload X 1 d_M_verify_102 rfl ?_
                  refine pv_iald X 7 rfl (Mslot_in h5n) d_M_verify_104 ?_
                  refine pv_if_ge X 111 d_M_verify_105 rfl (fun h16 => ?_) (fun h16n => ?_)
                  · skip
                    refine pv_aload_n X 2 d_M_verify_111 rfl ?_
                    refine pv_iload_n X 3 d_M_verify_112 rfl ?_
                    refine pv_calliE X (Cut.all _) (rn_V X (c_M_isPinKey l G zm zmp zm1 zm2 zmx zmh zmt zmu zme zma zmb zmk zmc zmd zmi zmo zmf zmg zmn 0 ys yl yr yv yt yu ye ya yb yk yc yd yi yo yf yg yn yp yq yw yx k h3n) trivial mf_M_isPinKey m_829 m_831 ms_23 rfl 0 rfl rfl rfl (by decide) (by decide) rfl (Nat.le_of_ble_eq_true rfl) d_M_verify_113) (fun x17 => ?_)
                    refine pv_eqw (ws2 := [ob zm 5 [.ref zmp, .ref zm1, .ref zm2, .ref zmx, .int 0, .ref zmh, .ref zmt, .int ys, .long yl, .long yr, .ref zmu, .ref zme, .ref zma, .ref zmb, .ref zmk, .ref zmc, .ref zmd, .ref zmi, .ref zmo, .ref zmf, .ref zmg, .ref zmn, .long yp, .long yq, .int yw, .long yx], aI G zmp 32 tb_perm, aI G zm1 56 tb_c1, aI G zm2 48 tb_c2, aI G zmx 512 tb_box, aJ G zmh 6 yv, aZ G zmt 6 yt, aI G zmu 16 yu, aZ G zme 16 ye, aJ G zma 16 ya, aJ G zmb 16 yb, aZ G zmk 8 yk, aJ G zmc 8 yc, aJ G zmd 8 yd, aJ G zmi 8 yi, aI G zmo 8 yo, aJ G zmf 5 yf, aJ G zmg 8 yg, aJ G zmn 16 yn]) rfl ?_
                    refine pv_if_eq X 130 d_M_verify_116 rfl (fun h18 => ?_) (fun h18n => ?_)
                    · skip
                      refine pv_bipush X (-4) d_M_verify_130 (by decide) ?_
                      exact pv_iret X hr hlk (yn, yp, yq, yw, yx) (by show _ = f_M_verify ys yu ya yb yk yc yd yi yo yf yn yw yx k g a o; simp only [f_M_verify, if_neg h1, if_neg h3n, if_neg h5n, if_neg h7n, if_neg h9n, if_neg h11n, if_neg h13, if_neg h15n, if_pos h16, if_pos h18]) (by simp only [g_M_verify_zm_4, if_neg h1, if_neg h3n, if_neg h5n, if_neg h7n, if_neg h9n, if_neg h11n, if_neg h13, if_neg h15n, if_pos h16, if_pos h18]) d_M_verify_132
                    · skip
                      refine pv_aload_n X 2 d_M_verify_119 rfl ?_
                      refine pv_get X 0 10 u_M_in m_584 rfl rfl (by decide) ⟨rfl, rfl, rfl⟩ rfl d_M_verify_120 ?_
                      refine pv_iload X 1 d_M_verify_123 rfl ?_
                      refine pv_iald X 7 rfl (Mslot_in h5n) d_M_verify_125 ?_
                      refine pv_iconst X 3 d_M_verify_126 (by decide) ?_
                      refine pv_icmp_eq X 133 d_M_verify_127 rfl (fun h19 => ?_) (fun h19n => ?_)
                      · skip
                        refine pv_aload_n X 2 d_M_verify_133 rfl ?_
                        refine pv_iload_n X 3 d_M_verify_134 rfl ?_
                        refine pv_callv X (Cut.all _) (rn_V X (c_M_pinKey l G zm zmp zm1 zm2 zmx zmh zmt zmu zme zma zmb zmk zmc zmd zmi zmo zmf zmg zmn 0 ys yl yr yv yt yu ye ya yb yk yc yd yi yo yf yg yn yp yq yw yx k h3n) trivial mf_M_pinKey m_833 m_835 ms_24 rfl 0 rfl rfl rfl (by decide) (by decide) rfl (Nat.le_of_ble_eq_true rfl) d_M_verify_135) (fun x20 e20 => ?_)
                        refine pv_eqw (ws2 := [ob zm 5 [.ref zmp, .ref zm1, .ref zm2, .ref zmx, .int 0, .ref zmh, .ref zmt, .int ys, .long yl, .long yr, .ref zmu, .ref zme, .ref zma, .ref zmb, .ref zmk, .ref zmc, .ref zmd, .ref zmi, .ref zmo, .ref zmf, .ref zmg, .ref zmn, .long (g_M_pinKey_zm_22 ya yc yd yi yo yn k), .long (g_M_pinKey_zm_23 yb yc yd yi yo yn k), .int yw, .long yx], aI G zmp 32 tb_perm, aI G zm1 56 tb_c1, aI G zm2 48 tb_c2, aI G zmx 512 tb_box, aJ G zmh 6 yv, aZ G zmt 6 yt, aI G zmu 16 yu, aZ G zme 16 ye, aJ G zma 16 ya, aJ G zmb 16 yb, aZ G zmk 8 yk, aJ G zmc 8 yc, aJ G zmd 8 yd, aJ G zmi 8 yi, aI G zmo 8 yo, aJ G zmf 5 yf, aJ G zmg 8 yg, aJ G zmn 16 (g_M_pinKey_zmn yc yd yi yo yn k)]) rfl ?_
                        refine pv_aload_n X 2 d_M_verify_138 rfl ?_
                        refine pv_aload_n X 2 d_M_verify_139 rfl ?_
                        refine pv_aload_n X 2 d_M_verify_140 rfl ?_
                        refine pv_get X 0 22 u_M_in m_596 rfl rfl (by decide) ⟨rfl, rfl, rfl⟩ rfl d_M_verify_141 ?_
                        refine pv_aload_n X 2 d_M_verify_144 rfl ?_
                        refine pv_get X 0 23 u_M_in m_597 rfl rfl (by decide) ⟨rfl, rfl, rfl⟩ rfl d_M_verify_145 ?_
                        refine pv_aload_n X 2 d_M_verify_148 rfl ?_
                        refine pv_get X 0 19 u_M_in m_593 rfl rfl (by decide) ⟨rfl, rfl, rfl⟩ rfl d_M_verify_149 ?_
                        refine pv_iconst X 0 d_M_verify_152 (by decide) ?_
                        refine pv_lald X 16 rfl (by unfold vp_in; decide) d_M_verify_153 ?_
                        refine pv_topl (yf 0) rfl ?_
                        refine pv_calllE X (Cut.all _) (rn_V X (c_M_openBlock l G zm zmp zm1 zm2 zmx zmh zmt zmu zme zma zmb zmk zmc zmd zmi zmo zmf zmg zmn 0 ys yl yr yv yt yu ye ya yb yk yc yd yi yo yf yg (g_M_pinKey_zmn yc yd yi yo yn k) (g_M_pinKey_zm_22 ya yc yd yi yo yn k) (g_M_pinKey_zm_23 yb yc yd yi yo yn k) yw yx (g_M_pinKey_zm_22 ya yc yd yi yo yn k) (g_M_pinKey_zm_23 yb yc yd yi yo yn k) (yf 0) ) trivial mf_M_openBlock m_770 m_772 ms_20 rfl 0 rfl rfl rfl (by decide) (by decide) rfl (Nat.le_of_ble_eq_true rfl) d_M_verify_154) (fun x21 => ?_)
                        refine pv_eqw (ws2 := [ob zm 5 [.ref zmp, .ref zm1, .ref zm2, .ref zmx, .int 0, .ref zmh, .ref zmt, .int ys, .long yl, .long yr, .ref zmu, .ref zme, .ref zma, .ref zmb, .ref zmk, .ref zmc, .ref zmd, .ref zmi, .ref zmo, .ref zmf, .ref zmg, .ref zmn, .long (g_M_pinKey_zm_22 ya yc yd yi yo yn k), .long (g_M_pinKey_zm_23 yb yc yd yi yo yn k), .int yw, .long yx], aI G zmp 32 tb_perm, aI G zm1 56 tb_c1, aI G zm2 48 tb_c2, aI G zmx 512 tb_box, aJ G zmh 6 yv, aZ G zmt 6 yt, aI G zmu 16 yu, aZ G zme 16 ye, aJ G zma 16 ya, aJ G zmb 16 yb, aZ G zmk 8 yk, aJ G zmc 8 yc, aJ G zmd 8 yd, aJ G zmi 8 yi, aI G zmo 8 yo, aJ G zmf 5 yf, aJ G zmg 8 yg, aJ G zmn 16 (g_M_openBlock_zmn (g_M_pinKey_zmn yc yd yi yo yn k) (g_M_pinKey_zm_22 ya yc yd yi yo yn k) (g_M_pinKey_zm_23 yb yc yd yi yo yn k))]) rfl ?_
                        refine pv_iload X 0 d_M_verify_157 rfl ?_
                        refine pv_lload_n X 5 d_M_verify_159 rfl ?_
                        refine pv_calliE X (Cut.all _) (rn_V X (c_M_reads l G zm zmp zm1 zm2 zmx zmh zmt zmu zme zma zmb zmk zmc zmd zmi zmo zmf zmg zmn 0 ys yl yr yv yt yu ye ya yb yk yc yd yi yo yf yg (g_M_openBlock_zmn (g_M_pinKey_zmn yc yd yi yo yn k) (g_M_pinKey_zm_22 ya yc yd yi yo yn k) (g_M_pinKey_zm_23 yb yc yd yi yo yn k)) (g_M_pinKey_zm_22 ya yc yd yi yo yn k) (g_M_pinKey_zm_23 yb yc yd yi yo yn k) yw yx (f_M_openBlock (g_M_pinKey_zm_22 ya yc yd yi yo yn k) (g_M_pinKey_zm_23 yb yc yd yi yo yn k) (yf 0)) (g &&& 15) a ) trivial mf_M_reads m_847 m_849 ms_25 rfl 0 rfl rfl rfl (by decide) (by decide) rfl (Nat.le_of_ble_eq_true rfl) d_M_verify_160) (fun x22 => ?_)
                        refine pv_eqw (ws2 := [ob zm 5 [.ref zmp, .ref zm1, .ref zm2, .ref zmx, .int 0, .ref zmh, .ref zmt, .int ys, .long yl, .long yr, .ref zmu, .ref zme, .ref zma, .ref zmb, .ref zmk, .ref zmc, .ref zmd, .ref zmi, .ref zmo, .ref zmf, .ref zmg, .ref zmn, .long (g_M_pinKey_zm_22 ya yc yd yi yo yn k), .long (g_M_pinKey_zm_23 yb yc yd yi yo yn k), .int (g_M_reads_zm_24 yw (f_M_openBlock (g_M_pinKey_zm_22 ya yc yd yi yo yn k) (g_M_pinKey_zm_23 yb yc yd yi yo yn k) (yf 0)) (g &&& 15) a), .long (g_M_reads_zm_25 yx (f_M_openBlock (g_M_pinKey_zm_22 ya yc yd yi yo yn k) (g_M_pinKey_zm_23 yb yc yd yi yo yn k) (yf 0)) (g &&& 15) a)], aI G zmp 32 tb_perm, aI G zm1 56 tb_c1, aI G zm2 48 tb_c2, aI G zmx 512 tb_box, aJ G zmh 6 yv, aZ G zmt 6 yt, aI G zmu 16 yu, aZ G zme 16 ye, aJ G zma 16 ya, aJ G zmb 16 yb, aZ G zmk 8 yk, aJ G zmc 8 yc, aJ G zmd 8 yd, aJ G zmi 8 yi, aI G zmo 8 yo, aJ G zmf 5 yf, aJ G zmg 8 yg, aJ G zmn 16 (g_M_openBlock_zmn (g_M_pinKey_zmn yc yd yi yo yn k) (g_M_pinKey_zm_22 ya yc yd yi yo yn k) (g_M_pinKey_zm_23 yb yc yd yi yo yn k))]) rfl ?_
                        refine pv_if_eq X 174 d_M_verify_163 rfl (fun h23 => ?_) (fun h23n => ?_)
                        · skip
                          refine pv_bipush X (-6) d_M_verify_174 (by decide) ?_
                          exact pv_iret X hr hlk (g_M_openBlock_zmn (g_M_pinKey_zmn yc yd yi yo yn k) (g_M_pinKey_zm_22 ya yc yd yi yo yn k) (g_M_pinKey_zm_23 yb yc yd yi yo yn k), g_M_pinKey_zm_22 ya yc yd yi yo yn k, g_M_pinKey_zm_23 yb yc yd yi yo yn k, g_M_reads_zm_24 yw (f_M_openBlock (g_M_pinKey_zm_22 ya yc yd yi yo yn k) (g_M_pinKey_zm_23 yb yc yd yi yo yn k) (yf 0)) (g &&& 15) a, g_M_reads_zm_25 yx (f_M_openBlock (g_M_pinKey_zm_22 ya yc yd yi yo yn k) (g_M_pinKey_zm_23 yb yc yd yi yo yn k) (yf 0)) (g &&& 15) a) (by show _ = f_M_verify ys yu ya yb yk yc yd yi yo yf yn yw yx k g a o; simp only [f_M_verify, if_neg h1, if_neg h3n, if_neg h5n, if_neg h7n, if_neg h9n, if_neg h11n, if_neg h13, if_neg h15n, if_pos h16, if_neg h18n, if_pos h19, if_pos h23]) (by simp only [g_M_verify_zm_4, if_neg h1, if_neg h3n, if_neg h5n, if_neg h7n, if_neg h9n, if_neg h11n, if_neg h13, if_neg h15n, if_pos h16, if_neg h18n, if_pos h19, if_pos h23]) d_M_verify_176
                        · skip
                          refine pv_aload_n X 2 d_M_verify_166 rfl ?_
                          refine pv_get X 0 24 u_M_in m_598 rfl rfl (by decide) ⟨rfl, rfl, rfl⟩ rfl d_M_verify_167 ?_
                          refine pv_iconst X 4 d_M_verify_170 (by decide) ?_
                          refine pv_icmp_eq X 177 d_M_verify_171 rfl (fun h24 => ?_) (fun h24n => ?_)
                          · skip
                            refine pv_aload_n X 2 d_M_verify_177 rfl ?_
                            refine pv_aload_n X 2 d_M_verify_178 rfl ?_
                            refine pv_get X 0 12 u_M_in m_586 rfl rfl (by decide) ⟨rfl, rfl, rfl⟩ rfl d_M_verify_179 ?_
                            refine pv_iload X 1 d_M_verify_182 rfl ?_
                            refine pv_lald X 9 rfl (Mslot_in h5n) d_M_verify_184 ?_
                            refine pv_aload_n X 2 d_M_verify_185 rfl ?_
                            refine pv_get X 0 13 u_M_in m_587 rfl rfl (by decide) ⟨rfl, rfl, rfl⟩ rfl d_M_verify_186 ?_
                            refine pv_iload X 1 d_M_verify_189 rfl ?_
                            refine pv_lald X 10 rfl (Mslot_in h5n) d_M_verify_191 ?_
                            refine pv_lload_n X 5 d_M_verify_192 rfl ?_
                            refine pv_calllE X (Cut.all _) (rn_V X (c_M_sealBlock l G zm zmp zm1 zm2 zmx zmh zmt zmu zme zma zmb zmk zmc zmd zmi zmo zmf zmg zmn 0 ys yl yr yv yt yu ye ya yb yk yc yd yi yo yf yg (g_M_openBlock_zmn (g_M_pinKey_zmn yc yd yi yo yn k) (g_M_pinKey_zm_22 ya yc yd yi yo yn k) (g_M_pinKey_zm_23 yb yc yd yi yo yn k)) (g_M_pinKey_zm_22 ya yc yd yi yo yn k) (g_M_pinKey_zm_23 yb yc yd yi yo yn k) (g_M_reads_zm_24 yw (f_M_openBlock (g_M_pinKey_zm_22 ya yc yd yi yo yn k) (g_M_pinKey_zm_23 yb yc yd yi yo yn k) (yf 0)) (g &&& 15) a) (g_M_reads_zm_25 yx (f_M_openBlock (g_M_pinKey_zm_22 ya yc yd yi yo yn k) (g_M_pinKey_zm_23 yb yc yd yi yo yn k) (yf 0)) (g &&& 15) a) (ya (g >>> (4 &&& 31)).toNatClampNeg) (yb (g >>> (4 &&& 31)).toNatClampNeg) a ) trivial mf_M_sealBlock m_682 m_684 ms_14 rfl 0 rfl rfl rfl (by decide) (by decide) rfl (Nat.le_of_ble_eq_true rfl) d_M_verify_193) (fun x25 => ?_)
                            refine pv_eqw (ws2 := [ob zm 5 [.ref zmp, .ref zm1, .ref zm2, .ref zmx, .int 0, .ref zmh, .ref zmt, .int ys, .long yl, .long yr, .ref zmu, .ref zme, .ref zma, .ref zmb, .ref zmk, .ref zmc, .ref zmd, .ref zmi, .ref zmo, .ref zmf, .ref zmg, .ref zmn, .long (g_M_pinKey_zm_22 ya yc yd yi yo yn k), .long (g_M_pinKey_zm_23 yb yc yd yi yo yn k), .int (g_M_reads_zm_24 yw (f_M_openBlock (g_M_pinKey_zm_22 ya yc yd yi yo yn k) (g_M_pinKey_zm_23 yb yc yd yi yo yn k) (yf 0)) (g &&& 15) a), .long (g_M_reads_zm_25 yx (f_M_openBlock (g_M_pinKey_zm_22 ya yc yd yi yo yn k) (g_M_pinKey_zm_23 yb yc yd yi yo yn k) (yf 0)) (g &&& 15) a)], aI G zmp 32 tb_perm, aI G zm1 56 tb_c1, aI G zm2 48 tb_c2, aI G zmx 512 tb_box, aJ G zmh 6 yv, aZ G zmt 6 yt, aI G zmu 16 yu, aZ G zme 16 ye, aJ G zma 16 ya, aJ G zmb 16 yb, aZ G zmk 8 yk, aJ G zmc 8 yc, aJ G zmd 8 yd, aJ G zmi 8 yi, aI G zmo 8 yo, aJ G zmf 5 yf, aJ G zmg 8 yg, aJ G zmn 16 (g_M_sealBlock_zmn (g_M_openBlock_zmn (g_M_pinKey_zmn yc yd yi yo yn k) (g_M_pinKey_zm_22 ya yc yd yi yo yn k) (g_M_pinKey_zm_23 yb yc yd yi yo yn k)) (ya (g >>> (4 &&& 31)).toNatClampNeg) (yb (g >>> (4 &&& 31)).toNatClampNeg))]) rfl ?_
                            refine pv_bipush X 48 d_M_verify_196 (by decide) ?_
                            refine pv_lushr X d_M_verify_198 ?_
                            refine pv_lstore (ll2 := [(8, .long (((f_M_sealBlock (ya (g >>> (4 &&& 31)).toNatClampNeg) (yb (g >>> (4 &&& 31)).toNatClampNeg) a).toUInt64 >>> ((48 : Int32).toInt64.toUInt64 &&& Int64.toUInt64 63)).toInt64)), (7, .int (g &&& 15)), (6, .int (g >>> (4 &&& 31))), (0, .ref zm), (1, .int k), (2, .int g), (3, .long a), (5, .int o)]) X d_M_verify_199 (by decide) rfl ?_
                            refine pv_iconst X 1 d_M_verify_201 (by decide) ?_
                            refine pv_istore (ll2 := [(10, .int 1), (8, .long (((f_M_sealBlock (ya (g >>> (4 &&& 31)).toNatClampNeg) (yb (g >>> (4 &&& 31)).toNatClampNeg) a).toUInt64 >>> ((48 : Int32).toInt64.toUInt64 &&& Int64.toUInt64 63)).toInt64)), (7, .int (g &&& 15)), (6, .int (g >>> (4 &&& 31))), (0, .ref zm), (1, .int k), (2, .int g), (3, .long a), (5, .int o)]) X d_M_verify_202 (by decide) rfl ?_
                            refine pv_iconst X 0 d_M_verify_204 (by decide) ?_
                            refine pv_istore (ll2 := [(11, .int 0), (10, .int 1), (8, .long (((f_M_sealBlock (ya (g >>> (4 &&& 31)).toNatClampNeg) (yb (g >>> (4 &&& 31)).toNatClampNeg) a).toUInt64 >>> ((48 : Int32).toInt64.toUInt64 &&& Int64.toUInt64 63)).toInt64)), (7, .int (g &&& 15)), (6, .int (g >>> (4 &&& 31))), (0, .ref zm), (1, .int k), (2, .int g), (3, .long a), (5, .int o)]) X d_M_verify_205 (by decide) rfl ?_
                            refine pv_lpick (ll2 := [(11, .int (nI 0)), (10, .int (mvr (((f_M_sealBlock (ya (g >>> (4 &&& 31)).toNatClampNeg) (yb (g >>> (4 &&& 31)).toNatClampNeg) a).toUInt64 >>> ((48 : Int32).toInt64.toUInt64 &&& Int64.toUInt64 63)).toInt64) o (g_M_reads_zm_25 yx (f_M_openBlock (g_M_pinKey_zm_22 ya yc yd yi yo yn k) (g_M_pinKey_zm_23 yb yc yd yi yo yn k) (yf 0)) (g &&& 15) a) 0)), (8, .long (((f_M_sealBlock (ya (g >>> (4 &&& 31)).toNatClampNeg) (yb (g >>> (4 &&& 31)).toNatClampNeg) a).toUInt64 >>> ((48 : Int32).toInt64.toUInt64 &&& Int64.toUInt64 63)).toInt64)), (0, .ref zm), (5, .int o)]) [0, 1, 2, 5, 9] rfl ?_
                            refine pv_eqw (ws2 := [ob zm 5 [.ref zmp, .ref zm1, .ref zm2, .ref zmx, .int 0, .ref zmh, .ref zmt, .int ys, .long yl, .long yr, .ref zmu, .ref zme, .ref zma, .ref zmb, .ref zmk, .ref zmc, .ref zmd, .ref zmi, .ref zmo, .ref zmf, .ref zmg, .ref zmn, .long (g_M_pinKey_zm_22 ya yc yd yi yo yn k), .long (g_M_pinKey_zm_23 yb yc yd yi yo yn k), .int (g_M_reads_zm_24 yw (f_M_openBlock (g_M_pinKey_zm_22 ya yc yd yi yo yn k) (g_M_pinKey_zm_23 yb yc yd yi yo yn k) (yf 0)) (g &&& 15) a), .long (g_M_reads_zm_25 yx (f_M_openBlock (g_M_pinKey_zm_22 ya yc yd yi yo yn k) (g_M_pinKey_zm_23 yb yc yd yi yo yn k) (yf 0)) (g &&& 15) a)], aI G zmp 32 tb_perm, aI G zm1 56 tb_c1, aI G zm2 48 tb_c2, aI G zmx 512 tb_box, aJ G zmh 6 yv, aZ G zmt 6 yt, aI G zmu 16 yu, aZ G zme 16 ye, aJ G zma 16 ya, aJ G zmb 16 yb, aZ G zmk 8 yk, aJ G zmc 8 yc, aJ G zmd 8 yd, aJ G zmi 8 yi, aI G zmo 8 yo, aJ G zmf 5 yf, aJ G zmg 8 yg, aJ G zmn 16 (g_M_sealBlock_zmn (g_M_openBlock_zmn (g_M_pinKey_zmn yc yd yi yo yn k) (g_M_pinKey_zm_22 ya yc yd yi yo yn k) (g_M_pinKey_zm_23 yb yc yd yi yo yn k)) (ya (g >>> (4 &&& 31)).toNatClampNeg) (yb (g >>> (4 &&& 31)).toNatClampNeg))]) rfl ?_
                            refine pv_loop 4 (fun i => True) (fun i => [ob zm 5 [.ref zmp, .ref zm1, .ref zm2, .ref zmx, .int 0, .ref zmh, .ref zmt, .int ys, .long yl, .long yr, .ref zmu, .ref zme, .ref zma, .ref zmb, .ref zmk, .ref zmc, .ref zmd, .ref zmi, .ref zmo, .ref zmf, .ref zmg, .ref zmn, .long (g_M_pinKey_zm_22 ya yc yd yi yo yn k), .long (g_M_pinKey_zm_23 yb yc yd yi yo yn k), .int (g_M_reads_zm_24 yw (f_M_openBlock (g_M_pinKey_zm_22 ya yc yd yi yo yn k) (g_M_pinKey_zm_23 yb yc yd yi yo yn k) (yf 0)) (g &&& 15) a), .long (g_M_reads_zm_25 yx (f_M_openBlock (g_M_pinKey_zm_22 ya yc yd yi yo yn k) (g_M_pinKey_zm_23 yb yc yd yi yo yn k) (yf 0)) (g &&& 15) a)], aI G zmp 32 tb_perm, aI G zm1 56 tb_c1, aI G zm2 48 tb_c2, aI G zmx 512 tb_box, aJ G zmh 6 yv, aZ G zmt 6 yt, aI G zmu 16 yu, aZ G zme 16 ye, aJ G zma 16 ya, aJ G zmb 16 yb, aZ G zmk 8 yk, aJ G zmc 8 yc, aJ G zmd 8 yd, aJ G zmi 8 yi, aI G zmo 8 yo, aJ G zmf 5 yf, aJ G zmg 8 yg, aJ G zmn 16 (g_M_sealBlock_zmn (g_M_openBlock_zmn (g_M_pinKey_zmn yc yd yi yo yn k) (g_M_pinKey_zm_22 ya yc yd yi yo yn k) (g_M_pinKey_zm_23 yb yc yd yi yo yn k)) (ya (g >>> (4 &&& 31)).toNatClampNeg) (yb (g >>> (4 &&& 31)).toNatClampNeg))]) (fun i => [(11, .int (nI i)), (10, .int (mvr (((f_M_sealBlock (ya (g >>> (4 &&& 31)).toNatClampNeg) (yb (g >>> (4 &&& 31)).toNatClampNeg) a).toUInt64 >>> ((48 : Int32).toInt64.toUInt64 &&& Int64.toUInt64 63)).toInt64) o (g_M_reads_zm_25 yx (f_M_openBlock (g_M_pinKey_zm_22 ya yc yd yi yo yn k) (g_M_pinKey_zm_23 yb yc yd yi yo yn k) (yf 0)) (g &&& 15) a) i)), (8, .long (((f_M_sealBlock (ya (g >>> (4 &&& 31)).toNatClampNeg) (yb (g >>> (4 &&& 31)).toNatClampNeg) a).toUInt64 >>> ((48 : Int32).toInt64.toUInt64 &&& Int64.toUInt64 63)).toInt64)), (0, .ref zm), (5, .int o)]) 0 (by omega) trivial (fun hI_i => ?_) (fun i h_i hI_i ih_i => ?_)
                            · skip
                              refine pv_iload X 0 d_M_verify_207 rfl ?_
                              refine pv_iconst X 4 d_M_verify_209 (by decide) ?_
                              refine pv_icmp_ge X 298 d_M_verify_210 rfl (fun _ => ?_) (fun h => absurd (by decide) h)
                              refine pv_iload X 1 d_M_verify_298 rfl ?_
                              refine pv_if_eq X 307 d_M_verify_300 rfl (fun h26 => ?_) (fun h26n => ?_)
                              · skip
                                refine pv_bipush X (-6) d_M_verify_307 (by decide) ?_
                                exact pv_iret X hr hlk (g_M_sealBlock_zmn (g_M_openBlock_zmn (g_M_pinKey_zmn yc yd yi yo yn k) (g_M_pinKey_zm_22 ya yc yd yi yo yn k) (g_M_pinKey_zm_23 yb yc yd yi yo yn k)) (ya (g >>> (4 &&& 31)).toNatClampNeg) (yb (g >>> (4 &&& 31)).toNatClampNeg), g_M_pinKey_zm_22 ya yc yd yi yo yn k, g_M_pinKey_zm_23 yb yc yd yi yo yn k, g_M_reads_zm_24 yw (f_M_openBlock (g_M_pinKey_zm_22 ya yc yd yi yo yn k) (g_M_pinKey_zm_23 yb yc yd yi yo yn k) (yf 0)) (g &&& 15) a, g_M_reads_zm_25 yx (f_M_openBlock (g_M_pinKey_zm_22 ya yc yd yi yo yn k) (g_M_pinKey_zm_23 yb yc yd yi yo yn k) (yf 0)) (g &&& 15) a) (by show _ = f_M_verify ys yu ya yb yk yc yd yi yo yf yn yw yx k g a o; simp only [f_M_verify, if_neg h1, if_neg h3n, if_neg h5n, if_neg h7n, if_neg h9n, if_neg h11n, if_neg h13, if_neg h15n, if_pos h16, if_neg h18n, if_pos h19, if_neg h23n, if_pos h24, if_pos h26]) (by simp only [g_M_verify_zm_4, if_neg h1, if_neg h3n, if_neg h5n, if_neg h7n, if_neg h9n, if_neg h11n, if_neg h13, if_neg h15n, if_pos h16, if_neg h18n, if_pos h19, if_neg h23n, if_pos h24, if_pos h26]) d_M_verify_309
                              · skip
                                refine pv_iconst X 0 d_M_verify_303 (by decide) ?_
                                refine pv_goto X 309 d_M_verify_304 rfl ?_
                                exact pv_iret X hr hlk (g_M_sealBlock_zmn (g_M_openBlock_zmn (g_M_pinKey_zmn yc yd yi yo yn k) (g_M_pinKey_zm_22 ya yc yd yi yo yn k) (g_M_pinKey_zm_23 yb yc yd yi yo yn k)) (ya (g >>> (4 &&& 31)).toNatClampNeg) (yb (g >>> (4 &&& 31)).toNatClampNeg), g_M_pinKey_zm_22 ya yc yd yi yo yn k, g_M_pinKey_zm_23 yb yc yd yi yo yn k, g_M_reads_zm_24 yw (f_M_openBlock (g_M_pinKey_zm_22 ya yc yd yi yo yn k) (g_M_pinKey_zm_23 yb yc yd yi yo yn k) (yf 0)) (g &&& 15) a, g_M_reads_zm_25 yx (f_M_openBlock (g_M_pinKey_zm_22 ya yc yd yi yo yn k) (g_M_pinKey_zm_23 yb yc yd yi yo yn k) (yf 0)) (g &&& 15) a) (by show _ = f_M_verify ys yu ya yb yk yc yd yi yo yf yn yw yx k g a o; simp only [f_M_verify, if_neg h1, if_neg h3n, if_neg h5n, if_neg h7n, if_neg h9n, if_neg h11n, if_neg h13, if_neg h15n, if_pos h16, if_neg h18n, if_pos h19, if_neg h23n, if_pos h24, if_neg h26n]) (by simp only [g_M_verify_zm_4, if_neg h1, if_neg h3n, if_neg h5n, if_neg h7n, if_neg h9n, if_neg h11n, if_neg h13, if_neg h15n, if_pos h16, if_neg h18n, if_pos h19, if_neg h23n, if_pos h24, if_neg h26n]) d_M_verify_309
                            · skip
                              refine pv_iload X 0 d_M_verify_207 rfl ?_
                              refine pv_iconst X 4 d_M_verify_209 (by decide) ?_
                              refine pv_icmp_ge X 298 d_M_verify_210 rfl (fun h => absurd h (nI_ge h_i (by decide))) (fun _ => ?_)
                              refine pv_lload X 2 d_M_verify_213 rfl ?_
                              refine pv_iconst X 4 d_M_verify_215 (by decide) ?_
                              refine pv_iload X 0 d_M_verify_216 rfl ?_
                              refine pv_imul X d_M_verify_218 ?_
                              refine pv_lshr X d_M_verify_219 ?_
                              refine pv_ldc2_w X m_727 d_M_verify_220 ?_
                              refine pv_land X d_M_verify_223 ?_
                              refine pv_l2i X d_M_verify_224 ?_
                              refine pv_istore (ll2 := [(12, .int ((((((f_M_sealBlock (ya (g >>> (4 &&& 31)).toNatClampNeg) (yb (g >>> (4 &&& 31)).toNatClampNeg) a).toUInt64 >>> ((48 : Int32).toInt64.toUInt64 &&& Int64.toUInt64 63)).toInt64) >>> ((4 * (nI i)).toInt64 &&& 63)) &&& (15 : Int64)).toInt32)), (11, .int (nI i)), (10, .int (mvr (((f_M_sealBlock (ya (g >>> (4 &&& 31)).toNatClampNeg) (yb (g >>> (4 &&& 31)).toNatClampNeg) a).toUInt64 >>> ((48 : Int32).toInt64.toUInt64 &&& Int64.toUInt64 63)).toInt64) o (g_M_reads_zm_25 yx (f_M_openBlock (g_M_pinKey_zm_22 ya yc yd yi yo yn k) (g_M_pinKey_zm_23 yb yc yd yi yo yn k) (yf 0)) (g &&& 15) a) i)), (8, .long (((f_M_sealBlock (ya (g >>> (4 &&& 31)).toNatClampNeg) (yb (g >>> (4 &&& 31)).toNatClampNeg) a).toUInt64 >>> ((48 : Int32).toInt64.toUInt64 &&& Int64.toUInt64 63)).toInt64)), (0, .ref zm), (5, .int o)]) X d_M_verify_225 (by decide) rfl ?_
                              refine pv_iload X 0 d_M_verify_227 rfl ?_
                              refine pv_bipush X 9 d_M_verify_229 (by decide) ?_
                              refine pv_icmp_le X 242 d_M_verify_231 rfl (fun h27 => ?_) (fun h27n => ?_)
                              · skip
                                refine pv_iload X 0 d_M_verify_242 rfl ?_
                                refine pv_topi (mve (((f_M_sealBlock (ya (g >>> (4 &&& 31)).toNatClampNeg) (yb (g >>> (4 &&& 31)).toNatClampNeg) a).toUInt64 >>> ((48 : Int32).toInt64.toUInt64 &&& Int64.toUInt64 63)).toInt64) i) (by unfold mve; rw [if_pos h27]) ?_
                                refine pv_istore (ll2 := [(12, .int (mve (((f_M_sealBlock (ya (g >>> (4 &&& 31)).toNatClampNeg) (yb (g >>> (4 &&& 31)).toNatClampNeg) a).toUInt64 >>> ((48 : Int32).toInt64.toUInt64 &&& Int64.toUInt64 63)).toInt64) i)), (11, .int (nI i)), (10, .int (mvr (((f_M_sealBlock (ya (g >>> (4 &&& 31)).toNatClampNeg) (yb (g >>> (4 &&& 31)).toNatClampNeg) a).toUInt64 >>> ((48 : Int32).toInt64.toUInt64 &&& Int64.toUInt64 63)).toInt64) o (g_M_reads_zm_25 yx (f_M_openBlock (g_M_pinKey_zm_22 ya yc yd yi yo yn k) (g_M_pinKey_zm_23 yb yc yd yi yo yn k) (yf 0)) (g &&& 15) a) i)), (8, .long (((f_M_sealBlock (ya (g >>> (4 &&& 31)).toNatClampNeg) (yb (g >>> (4 &&& 31)).toNatClampNeg) a).toUInt64 >>> ((48 : Int32).toInt64.toUInt64 &&& Int64.toUInt64 63)).toInt64)), (0, .ref zm), (5, .int o)]) X d_M_verify_244 (by decide) rfl ?_
                                refine pv_iload X 2 d_M_verify_246 rfl ?_
                                refine pv_if_eq X 289 d_M_verify_248 rfl (fun h28 => ?_) (fun h28n => ?_)
                                · skip
                                  refine pv_iconst X 0 d_M_verify_289 (by decide) ?_
                                  refine pv_topi (mvr (((f_M_sealBlock (ya (g >>> (4 &&& 31)).toNatClampNeg) (yb (g >>> (4 &&& 31)).toNatClampNeg) a).toUInt64 >>> ((48 : Int32).toInt64.toUInt64 &&& Int64.toUInt64 63)).toInt64) o (g_M_reads_zm_25 yx (f_M_openBlock (g_M_pinKey_zm_22 ya yc yd yi yo yn k) (g_M_pinKey_zm_23 yb yc yd yi yo yn k) (yf 0)) (g &&& 15) a) (i + 1)) (by simp only [mvr, if_pos h27, if_pos h28]) ?_
                                  refine pv_istore (ll2 := [(10, .int (mvr (((f_M_sealBlock (ya (g >>> (4 &&& 31)).toNatClampNeg) (yb (g >>> (4 &&& 31)).toNatClampNeg) a).toUInt64 >>> ((48 : Int32).toInt64.toUInt64 &&& Int64.toUInt64 63)).toInt64) o (g_M_reads_zm_25 yx (f_M_openBlock (g_M_pinKey_zm_22 ya yc yd yi yo yn k) (g_M_pinKey_zm_23 yb yc yd yi yo yn k) (yf 0)) (g &&& 15) a) (i + 1))), (12, .int (mve (((f_M_sealBlock (ya (g >>> (4 &&& 31)).toNatClampNeg) (yb (g >>> (4 &&& 31)).toNatClampNeg) a).toUInt64 >>> ((48 : Int32).toInt64.toUInt64 &&& Int64.toUInt64 63)).toInt64) i)), (11, .int (nI i)), (8, .long (((f_M_sealBlock (ya (g >>> (4 &&& 31)).toNatClampNeg) (yb (g >>> (4 &&& 31)).toNatClampNeg) a).toUInt64 >>> ((48 : Int32).toInt64.toUInt64 &&& Int64.toUInt64 63)).toInt64)), (0, .ref zm), (5, .int o)]) X d_M_verify_290 (by decide) rfl ?_
                                  refine pv_iinc (ll2 := [(11, .int (nI (i + 1))), (10, .int (mvr (((f_M_sealBlock (ya (g >>> (4 &&& 31)).toNatClampNeg) (yb (g >>> (4 &&& 31)).toNatClampNeg) a).toUInt64 >>> ((48 : Int32).toInt64.toUInt64 &&& Int64.toUInt64 63)).toInt64) o (g_M_reads_zm_25 yx (f_M_openBlock (g_M_pinKey_zm_22 ya yc yd yi yo yn k) (g_M_pinKey_zm_23 yb yc yd yi yo yn k) (yf 0)) (g &&& 15) a) (i + 1))), (12, .int (mve (((f_M_sealBlock (ya (g >>> (4 &&& 31)).toNatClampNeg) (yb (g >>> (4 &&& 31)).toNatClampNeg) a).toUInt64 >>> ((48 : Int32).toInt64.toUInt64 &&& Int64.toUInt64 63)).toInt64) i)), (8, .long (((f_M_sealBlock (ya (g >>> (4 &&& 31)).toNatClampNeg) (yb (g >>> (4 &&& 31)).toNatClampNeg) a).toUInt64 >>> ((48 : Int32).toInt64.toUInt64 &&& Int64.toUInt64 63)).toInt64)), (0, .ref zm), (5, .int o)]) X 2 (nI (i + 1)) d_M_verify_292 rfl (nI_1 _) (by decide) rfl ?_
                                  refine pv_goto X 207 d_M_verify_295 rfl ?_
                                  refine pv_lpick (ll2 := [(11, .int (nI (i + 1))), (10, .int (mvr (((f_M_sealBlock (ya (g >>> (4 &&& 31)).toNatClampNeg) (yb (g >>> (4 &&& 31)).toNatClampNeg) a).toUInt64 >>> ((48 : Int32).toInt64.toUInt64 &&& Int64.toUInt64 63)).toInt64) o (g_M_reads_zm_25 yx (f_M_openBlock (g_M_pinKey_zm_22 ya yc yd yi yo yn k) (g_M_pinKey_zm_23 yb yc yd yi yo yn k) (yf 0)) (g &&& 15) a) (i + 1))), (8, .long (((f_M_sealBlock (ya (g >>> (4 &&& 31)).toNatClampNeg) (yb (g >>> (4 &&& 31)).toNatClampNeg) a).toUInt64 >>> ((48 : Int32).toInt64.toUInt64 &&& Int64.toUInt64 63)).toInt64)), (0, .ref zm), (5, .int o)]) [0, 1, 3, 4, 5] rfl ?_
                                  refine pv_eqw (ws2 := [ob zm 5 [.ref zmp, .ref zm1, .ref zm2, .ref zmx, .int 0, .ref zmh, .ref zmt, .int ys, .long yl, .long yr, .ref zmu, .ref zme, .ref zma, .ref zmb, .ref zmk, .ref zmc, .ref zmd, .ref zmi, .ref zmo, .ref zmf, .ref zmg, .ref zmn, .long (g_M_pinKey_zm_22 ya yc yd yi yo yn k), .long (g_M_pinKey_zm_23 yb yc yd yi yo yn k), .int (g_M_reads_zm_24 yw (f_M_openBlock (g_M_pinKey_zm_22 ya yc yd yi yo yn k) (g_M_pinKey_zm_23 yb yc yd yi yo yn k) (yf 0)) (g &&& 15) a), .long (g_M_reads_zm_25 yx (f_M_openBlock (g_M_pinKey_zm_22 ya yc yd yi yo yn k) (g_M_pinKey_zm_23 yb yc yd yi yo yn k) (yf 0)) (g &&& 15) a)], aI G zmp 32 tb_perm, aI G zm1 56 tb_c1, aI G zm2 48 tb_c2, aI G zmx 512 tb_box, aJ G zmh 6 yv, aZ G zmt 6 yt, aI G zmu 16 yu, aZ G zme 16 ye, aJ G zma 16 ya, aJ G zmb 16 yb, aZ G zmk 8 yk, aJ G zmc 8 yc, aJ G zmd 8 yd, aJ G zmi 8 yi, aI G zmo 8 yo, aJ G zmf 5 yf, aJ G zmg 8 yg, aJ G zmn 16 (g_M_sealBlock_zmn (g_M_openBlock_zmn (g_M_pinKey_zmn yc yd yi yo yn k) (g_M_pinKey_zm_22 ya yc yd yi yo yn k) (g_M_pinKey_zm_23 yb yc yd yi yo yn k)) (ya (g >>> (4 &&& 31)).toNatClampNeg) (yb (g >>> (4 &&& 31)).toNatClampNeg))]) rfl ?_
                                  exact ih_i trivial
                                · skip
                                  refine pv_iload X 0 d_M_verify_251 rfl ?_
                                  refine pv_iload X 5 d_M_verify_253 rfl ?_
                                  refine pv_iconst X 4 d_M_verify_255 (by decide) ?_
                                  refine pv_iload X 1 d_M_verify_256 rfl ?_
                                  refine pv_imul X d_M_verify_258 ?_
                                  refine pv_ishr X d_M_verify_259 ?_
                                  refine pv_bipush X 15 d_M_verify_260 (by decide) ?_
                                  refine pv_iand X d_M_verify_262 ?_
                                  refine pv_iadd X d_M_verify_263 ?_
                                  refine pv_bipush X 10 d_M_verify_264 (by decide) ?_
                                  refine pv_irem X d_M_verify_266 (by decide) ?_
                                  refine pv_i2l X d_M_verify_267 ?_
                                  refine pv_aload_n X 4 d_M_verify_268 rfl ?_
                                  refine pv_get X 0 25 u_M_in m_599 rfl rfl (by decide) ⟨rfl, rfl, rfl⟩ rfl d_M_verify_269 ?_
                                  refine pv_iconst X 4 d_M_verify_272 (by decide) ?_
                                  refine pv_iload X 1 d_M_verify_273 rfl ?_
                                  refine pv_imul X d_M_verify_275 ?_
                                  refine pv_lshr X d_M_verify_276 ?_
                                  refine pv_ldc2_w X m_727 d_M_verify_277 ?_
                                  refine pv_land X d_M_verify_280 ?_
                                  refine pv_lcmp X d_M_verify_281 ?_
                                  refine pv_if_ne X 289 d_M_verify_282 rfl (fun h29 => ?_) (fun h29n => ?_)
                                  · skip
                                    refine pv_iconst X 0 d_M_verify_289 (by decide) ?_
                                    refine pv_topi (mvr (((f_M_sealBlock (ya (g >>> (4 &&& 31)).toNatClampNeg) (yb (g >>> (4 &&& 31)).toNatClampNeg) a).toUInt64 >>> ((48 : Int32).toInt64.toUInt64 &&& Int64.toUInt64 63)).toInt64) o (g_M_reads_zm_25 yx (f_M_openBlock (g_M_pinKey_zm_22 ya yc yd yi yo yn k) (g_M_pinKey_zm_23 yb yc yd yi yo yn k) (yf 0)) (g &&& 15) a) (i + 1)) (by simp only [mvr, if_pos h27, if_neg h28n, if_neg h29]) ?_
                                    refine pv_istore (ll2 := [(10, .int (mvr (((f_M_sealBlock (ya (g >>> (4 &&& 31)).toNatClampNeg) (yb (g >>> (4 &&& 31)).toNatClampNeg) a).toUInt64 >>> ((48 : Int32).toInt64.toUInt64 &&& Int64.toUInt64 63)).toInt64) o (g_M_reads_zm_25 yx (f_M_openBlock (g_M_pinKey_zm_22 ya yc yd yi yo yn k) (g_M_pinKey_zm_23 yb yc yd yi yo yn k) (yf 0)) (g &&& 15) a) (i + 1))), (12, .int (mve (((f_M_sealBlock (ya (g >>> (4 &&& 31)).toNatClampNeg) (yb (g >>> (4 &&& 31)).toNatClampNeg) a).toUInt64 >>> ((48 : Int32).toInt64.toUInt64 &&& Int64.toUInt64 63)).toInt64) i)), (11, .int (nI i)), (8, .long (((f_M_sealBlock (ya (g >>> (4 &&& 31)).toNatClampNeg) (yb (g >>> (4 &&& 31)).toNatClampNeg) a).toUInt64 >>> ((48 : Int32).toInt64.toUInt64 &&& Int64.toUInt64 63)).toInt64)), (0, .ref zm), (5, .int o)]) X d_M_verify_290 (by decide) rfl ?_
                                    refine pv_iinc (ll2 := [(11, .int (nI (i + 1))), (10, .int (mvr (((f_M_sealBlock (ya (g >>> (4 &&& 31)).toNatClampNeg) (yb (g >>> (4 &&& 31)).toNatClampNeg) a).toUInt64 >>> ((48 : Int32).toInt64.toUInt64 &&& Int64.toUInt64 63)).toInt64) o (g_M_reads_zm_25 yx (f_M_openBlock (g_M_pinKey_zm_22 ya yc yd yi yo yn k) (g_M_pinKey_zm_23 yb yc yd yi yo yn k) (yf 0)) (g &&& 15) a) (i + 1))), (12, .int (mve (((f_M_sealBlock (ya (g >>> (4 &&& 31)).toNatClampNeg) (yb (g >>> (4 &&& 31)).toNatClampNeg) a).toUInt64 >>> ((48 : Int32).toInt64.toUInt64 &&& Int64.toUInt64 63)).toInt64) i)), (8, .long (((f_M_sealBlock (ya (g >>> (4 &&& 31)).toNatClampNeg) (yb (g >>> (4 &&& 31)).toNatClampNeg) a).toUInt64 >>> ((48 : Int32).toInt64.toUInt64 &&& Int64.toUInt64 63)).toInt64)), (0, .ref zm), (5, .int o)]) X 2 (nI (i + 1)) d_M_verify_292 rfl (nI_1 _) (by decide) rfl ?_
                                    refine pv_goto X 207 d_M_verify_295 rfl ?_
                                    refine pv_lpick (ll2 := [(11, .int (nI (i + 1))), (10, .int (mvr (((f_M_sealBlock (ya (g >>> (4 &&& 31)).toNatClampNeg) (yb (g >>> (4 &&& 31)).toNatClampNeg) a).toUInt64 >>> ((48 : Int32).toInt64.toUInt64 &&& Int64.toUInt64 63)).toInt64) o (g_M_reads_zm_25 yx (f_M_openBlock (g_M_pinKey_zm_22 ya yc yd yi yo yn k) (g_M_pinKey_zm_23 yb yc yd yi yo yn k) (yf 0)) (g &&& 15) a) (i + 1))), (8, .long (((f_M_sealBlock (ya (g >>> (4 &&& 31)).toNatClampNeg) (yb (g >>> (4 &&& 31)).toNatClampNeg) a).toUInt64 >>> ((48 : Int32).toInt64.toUInt64 &&& Int64.toUInt64 63)).toInt64)), (0, .ref zm), (5, .int o)]) [0, 1, 3, 4, 5] rfl ?_
                                    refine pv_eqw (ws2 := [ob zm 5 [.ref zmp, .ref zm1, .ref zm2, .ref zmx, .int 0, .ref zmh, .ref zmt, .int ys, .long yl, .long yr, .ref zmu, .ref zme, .ref zma, .ref zmb, .ref zmk, .ref zmc, .ref zmd, .ref zmi, .ref zmo, .ref zmf, .ref zmg, .ref zmn, .long (g_M_pinKey_zm_22 ya yc yd yi yo yn k), .long (g_M_pinKey_zm_23 yb yc yd yi yo yn k), .int (g_M_reads_zm_24 yw (f_M_openBlock (g_M_pinKey_zm_22 ya yc yd yi yo yn k) (g_M_pinKey_zm_23 yb yc yd yi yo yn k) (yf 0)) (g &&& 15) a), .long (g_M_reads_zm_25 yx (f_M_openBlock (g_M_pinKey_zm_22 ya yc yd yi yo yn k) (g_M_pinKey_zm_23 yb yc yd yi yo yn k) (yf 0)) (g &&& 15) a)], aI G zmp 32 tb_perm, aI G zm1 56 tb_c1, aI G zm2 48 tb_c2, aI G zmx 512 tb_box, aJ G zmh 6 yv, aZ G zmt 6 yt, aI G zmu 16 yu, aZ G zme 16 ye, aJ G zma 16 ya, aJ G zmb 16 yb, aZ G zmk 8 yk, aJ G zmc 8 yc, aJ G zmd 8 yd, aJ G zmi 8 yi, aI G zmo 8 yo, aJ G zmf 5 yf, aJ G zmg 8 yg, aJ G zmn 16 (g_M_sealBlock_zmn (g_M_openBlock_zmn (g_M_pinKey_zmn yc yd yi yo yn k) (g_M_pinKey_zm_22 ya yc yd yi yo yn k) (g_M_pinKey_zm_23 yb yc yd yi yo yn k)) (ya (g >>> (4 &&& 31)).toNatClampNeg) (yb (g >>> (4 &&& 31)).toNatClampNeg))]) rfl ?_
                                    exact ih_i trivial
                                  · skip
                                    refine pv_iconst X 1 d_M_verify_285 (by decide) ?_
                                    refine pv_goto X 290 d_M_verify_286 rfl ?_
                                    refine pv_topi (mvr (((f_M_sealBlock (ya (g >>> (4 &&& 31)).toNatClampNeg) (yb (g >>> (4 &&& 31)).toNatClampNeg) a).toUInt64 >>> ((48 : Int32).toInt64.toUInt64 &&& Int64.toUInt64 63)).toInt64) o (g_M_reads_zm_25 yx (f_M_openBlock (g_M_pinKey_zm_22 ya yc yd yi yo yn k) (g_M_pinKey_zm_23 yb yc yd yi yo yn k) (yf 0)) (g &&& 15) a) (i + 1)) (by simp only [mvr, if_pos h27, if_neg h28n, if_pos h29n]) ?_
                                    refine pv_istore (ll2 := [(10, .int (mvr (((f_M_sealBlock (ya (g >>> (4 &&& 31)).toNatClampNeg) (yb (g >>> (4 &&& 31)).toNatClampNeg) a).toUInt64 >>> ((48 : Int32).toInt64.toUInt64 &&& Int64.toUInt64 63)).toInt64) o (g_M_reads_zm_25 yx (f_M_openBlock (g_M_pinKey_zm_22 ya yc yd yi yo yn k) (g_M_pinKey_zm_23 yb yc yd yi yo yn k) (yf 0)) (g &&& 15) a) (i + 1))), (12, .int (mve (((f_M_sealBlock (ya (g >>> (4 &&& 31)).toNatClampNeg) (yb (g >>> (4 &&& 31)).toNatClampNeg) a).toUInt64 >>> ((48 : Int32).toInt64.toUInt64 &&& Int64.toUInt64 63)).toInt64) i)), (11, .int (nI i)), (8, .long (((f_M_sealBlock (ya (g >>> (4 &&& 31)).toNatClampNeg) (yb (g >>> (4 &&& 31)).toNatClampNeg) a).toUInt64 >>> ((48 : Int32).toInt64.toUInt64 &&& Int64.toUInt64 63)).toInt64)), (0, .ref zm), (5, .int o)]) X d_M_verify_290 (by decide) rfl ?_
                                    refine pv_iinc (ll2 := [(11, .int (nI (i + 1))), (10, .int (mvr (((f_M_sealBlock (ya (g >>> (4 &&& 31)).toNatClampNeg) (yb (g >>> (4 &&& 31)).toNatClampNeg) a).toUInt64 >>> ((48 : Int32).toInt64.toUInt64 &&& Int64.toUInt64 63)).toInt64) o (g_M_reads_zm_25 yx (f_M_openBlock (g_M_pinKey_zm_22 ya yc yd yi yo yn k) (g_M_pinKey_zm_23 yb yc yd yi yo yn k) (yf 0)) (g &&& 15) a) (i + 1))), (12, .int (mve (((f_M_sealBlock (ya (g >>> (4 &&& 31)).toNatClampNeg) (yb (g >>> (4 &&& 31)).toNatClampNeg) a).toUInt64 >>> ((48 : Int32).toInt64.toUInt64 &&& Int64.toUInt64 63)).toInt64) i)), (8, .long (((f_M_sealBlock (ya (g >>> (4 &&& 31)).toNatClampNeg) (yb (g >>> (4 &&& 31)).toNatClampNeg) a).toUInt64 >>> ((48 : Int32).toInt64.toUInt64 &&& Int64.toUInt64 63)).toInt64)), (0, .ref zm), (5, .int o)]) X 2 (nI (i + 1)) d_M_verify_292 rfl (nI_1 _) (by decide) rfl ?_
                                    refine pv_goto X 207 d_M_verify_295 rfl ?_
                                    refine pv_lpick (ll2 := [(11, .int (nI (i + 1))), (10, .int (mvr (((f_M_sealBlock (ya (g >>> (4 &&& 31)).toNatClampNeg) (yb (g >>> (4 &&& 31)).toNatClampNeg) a).toUInt64 >>> ((48 : Int32).toInt64.toUInt64 &&& Int64.toUInt64 63)).toInt64) o (g_M_reads_zm_25 yx (f_M_openBlock (g_M_pinKey_zm_22 ya yc yd yi yo yn k) (g_M_pinKey_zm_23 yb yc yd yi yo yn k) (yf 0)) (g &&& 15) a) (i + 1))), (8, .long (((f_M_sealBlock (ya (g >>> (4 &&& 31)).toNatClampNeg) (yb (g >>> (4 &&& 31)).toNatClampNeg) a).toUInt64 >>> ((48 : Int32).toInt64.toUInt64 &&& Int64.toUInt64 63)).toInt64)), (0, .ref zm), (5, .int o)]) [0, 1, 3, 4, 5] rfl ?_
                                    refine pv_eqw (ws2 := [ob zm 5 [.ref zmp, .ref zm1, .ref zm2, .ref zmx, .int 0, .ref zmh, .ref zmt, .int ys, .long yl, .long yr, .ref zmu, .ref zme, .ref zma, .ref zmb, .ref zmk, .ref zmc, .ref zmd, .ref zmi, .ref zmo, .ref zmf, .ref zmg, .ref zmn, .long (g_M_pinKey_zm_22 ya yc yd yi yo yn k), .long (g_M_pinKey_zm_23 yb yc yd yi yo yn k), .int (g_M_reads_zm_24 yw (f_M_openBlock (g_M_pinKey_zm_22 ya yc yd yi yo yn k) (g_M_pinKey_zm_23 yb yc yd yi yo yn k) (yf 0)) (g &&& 15) a), .long (g_M_reads_zm_25 yx (f_M_openBlock (g_M_pinKey_zm_22 ya yc yd yi yo yn k) (g_M_pinKey_zm_23 yb yc yd yi yo yn k) (yf 0)) (g &&& 15) a)], aI G zmp 32 tb_perm, aI G zm1 56 tb_c1, aI G zm2 48 tb_c2, aI G zmx 512 tb_box, aJ G zmh 6 yv, aZ G zmt 6 yt, aI G zmu 16 yu, aZ G zme 16 ye, aJ G zma 16 ya, aJ G zmb 16 yb, aZ G zmk 8 yk, aJ G zmc 8 yc, aJ G zmd 8 yd, aJ G zmi 8 yi, aI G zmo 8 yo, aJ G zmf 5 yf, aJ G zmg 8 yg, aJ G zmn 16 (g_M_sealBlock_zmn (g_M_openBlock_zmn (g_M_pinKey_zmn yc yd yi yo yn k) (g_M_pinKey_zm_22 ya yc yd yi yo yn k) (g_M_pinKey_zm_23 yb yc yd yi yo yn k)) (ya (g >>> (4 &&& 31)).toNatClampNeg) (yb (g >>> (4 &&& 31)).toNatClampNeg))]) rfl ?_
                                    exact ih_i trivial
                              · skip
                                refine pv_iload X 0 d_M_verify_234 rfl ?_
                                refine pv_bipush X 10 d_M_verify_236 (by decide) ?_
                                refine pv_isub X d_M_verify_238 ?_
                                refine pv_goto X 244 d_M_verify_239 rfl ?_
                                refine pv_topi (mve (((f_M_sealBlock (ya (g >>> (4 &&& 31)).toNatClampNeg) (yb (g >>> (4 &&& 31)).toNatClampNeg) a).toUInt64 >>> ((48 : Int32).toInt64.toUInt64 &&& Int64.toUInt64 63)).toInt64) i) (by unfold mve; rw [if_neg h27n]) ?_
                                refine pv_istore (ll2 := [(12, .int (mve (((f_M_sealBlock (ya (g >>> (4 &&& 31)).toNatClampNeg) (yb (g >>> (4 &&& 31)).toNatClampNeg) a).toUInt64 >>> ((48 : Int32).toInt64.toUInt64 &&& Int64.toUInt64 63)).toInt64) i)), (11, .int (nI i)), (10, .int (mvr (((f_M_sealBlock (ya (g >>> (4 &&& 31)).toNatClampNeg) (yb (g >>> (4 &&& 31)).toNatClampNeg) a).toUInt64 >>> ((48 : Int32).toInt64.toUInt64 &&& Int64.toUInt64 63)).toInt64) o (g_M_reads_zm_25 yx (f_M_openBlock (g_M_pinKey_zm_22 ya yc yd yi yo yn k) (g_M_pinKey_zm_23 yb yc yd yi yo yn k) (yf 0)) (g &&& 15) a) i)), (8, .long (((f_M_sealBlock (ya (g >>> (4 &&& 31)).toNatClampNeg) (yb (g >>> (4 &&& 31)).toNatClampNeg) a).toUInt64 >>> ((48 : Int32).toInt64.toUInt64 &&& Int64.toUInt64 63)).toInt64)), (0, .ref zm), (5, .int o)]) X d_M_verify_244 (by decide) rfl ?_
                                refine pv_iload X 2 d_M_verify_246 rfl ?_
                                refine pv_if_eq X 289 d_M_verify_248 rfl (fun h30 => ?_) (fun h30n => ?_)
                                · skip
                                  refine pv_iconst X 0 d_M_verify_289 (by decide) ?_
                                  refine pv_topi (mvr (((f_M_sealBlock (ya (g >>> (4 &&& 31)).toNatClampNeg) (yb (g >>> (4 &&& 31)).toNatClampNeg) a).toUInt64 >>> ((48 : Int32).toInt64.toUInt64 &&& Int64.toUInt64 63)).toInt64) o (g_M_reads_zm_25 yx (f_M_openBlock (g_M_pinKey_zm_22 ya yc yd yi yo yn k) (g_M_pinKey_zm_23 yb yc yd yi yo yn k) (yf 0)) (g &&& 15) a) (i + 1)) (by simp only [mvr, if_neg h27n, if_pos h30]) ?_
                                  refine pv_istore (ll2 := [(10, .int (mvr (((f_M_sealBlock (ya (g >>> (4 &&& 31)).toNatClampNeg) (yb (g >>> (4 &&& 31)).toNatClampNeg) a).toUInt64 >>> ((48 : Int32).toInt64.toUInt64 &&& Int64.toUInt64 63)).toInt64) o (g_M_reads_zm_25 yx (f_M_openBlock (g_M_pinKey_zm_22 ya yc yd yi yo yn k) (g_M_pinKey_zm_23 yb yc yd yi yo yn k) (yf 0)) (g &&& 15) a) (i + 1))), (12, .int (mve (((f_M_sealBlock (ya (g >>> (4 &&& 31)).toNatClampNeg) (yb (g >>> (4 &&& 31)).toNatClampNeg) a).toUInt64 >>> ((48 : Int32).toInt64.toUInt64 &&& Int64.toUInt64 63)).toInt64) i)), (11, .int (nI i)), (8, .long (((f_M_sealBlock (ya (g >>> (4 &&& 31)).toNatClampNeg) (yb (g >>> (4 &&& 31)).toNatClampNeg) a).toUInt64 >>> ((48 : Int32).toInt64.toUInt64 &&& Int64.toUInt64 63)).toInt64)), (0, .ref zm), (5, .int o)]) X d_M_verify_290 (by decide) rfl ?_
                                  refine pv_iinc (ll2 := [(11, .int (nI (i + 1))), (10, .int (mvr (((f_M_sealBlock (ya (g >>> (4 &&& 31)).toNatClampNeg) (yb (g >>> (4 &&& 31)).toNatClampNeg) a).toUInt64 >>> ((48 : Int32).toInt64.toUInt64 &&& Int64.toUInt64 63)).toInt64) o (g_M_reads_zm_25 yx (f_M_openBlock (g_M_pinKey_zm_22 ya yc yd yi yo yn k) (g_M_pinKey_zm_23 yb yc yd yi yo yn k) (yf 0)) (g &&& 15) a) (i + 1))), (12, .int (mve (((f_M_sealBlock (ya (g >>> (4 &&& 31)).toNatClampNeg) (yb (g >>> (4 &&& 31)).toNatClampNeg) a).toUInt64 >>> ((48 : Int32).toInt64.toUInt64 &&& Int64.toUInt64 63)).toInt64) i)), (8, .long (((f_M_sealBlock (ya (g >>> (4 &&& 31)).toNatClampNeg) (yb (g >>> (4 &&& 31)).toNatClampNeg) a).toUInt64 >>> ((48 : Int32).toInt64.toUInt64 &&& Int64.toUInt64 63)).toInt64)), (0, .ref zm), (5, .int o)]) X 2 (nI (i + 1)) d_M_verify_292 rfl (nI_1 _) (by decide) rfl ?_
                                  refine pv_goto X 207 d_M_verify_295 rfl ?_
                                  refine pv_lpick (ll2 := [(11, .int (nI (i + 1))), (10, .int (mvr (((f_M_sealBlock (ya (g >>> (4 &&& 31)).toNatClampNeg) (yb (g >>> (4 &&& 31)).toNatClampNeg) a).toUInt64 >>> ((48 : Int32).toInt64.toUInt64 &&& Int64.toUInt64 63)).toInt64) o (g_M_reads_zm_25 yx (f_M_openBlock (g_M_pinKey_zm_22 ya yc yd yi yo yn k) (g_M_pinKey_zm_23 yb yc yd yi yo yn k) (yf 0)) (g &&& 15) a) (i + 1))), (8, .long (((f_M_sealBlock (ya (g >>> (4 &&& 31)).toNatClampNeg) (yb (g >>> (4 &&& 31)).toNatClampNeg) a).toUInt64 >>> ((48 : Int32).toInt64.toUInt64 &&& Int64.toUInt64 63)).toInt64)), (0, .ref zm), (5, .int o)]) [0, 1, 3, 4, 5] rfl ?_
                                  refine pv_eqw (ws2 := [ob zm 5 [.ref zmp, .ref zm1, .ref zm2, .ref zmx, .int 0, .ref zmh, .ref zmt, .int ys, .long yl, .long yr, .ref zmu, .ref zme, .ref zma, .ref zmb, .ref zmk, .ref zmc, .ref zmd, .ref zmi, .ref zmo, .ref zmf, .ref zmg, .ref zmn, .long (g_M_pinKey_zm_22 ya yc yd yi yo yn k), .long (g_M_pinKey_zm_23 yb yc yd yi yo yn k), .int (g_M_reads_zm_24 yw (f_M_openBlock (g_M_pinKey_zm_22 ya yc yd yi yo yn k) (g_M_pinKey_zm_23 yb yc yd yi yo yn k) (yf 0)) (g &&& 15) a), .long (g_M_reads_zm_25 yx (f_M_openBlock (g_M_pinKey_zm_22 ya yc yd yi yo yn k) (g_M_pinKey_zm_23 yb yc yd yi yo yn k) (yf 0)) (g &&& 15) a)], aI G zmp 32 tb_perm, aI G zm1 56 tb_c1, aI G zm2 48 tb_c2, aI G zmx 512 tb_box, aJ G zmh 6 yv, aZ G zmt 6 yt, aI G zmu 16 yu, aZ G zme 16 ye, aJ G zma 16 ya, aJ G zmb 16 yb, aZ G zmk 8 yk, aJ G zmc 8 yc, aJ G zmd 8 yd, aJ G zmi 8 yi, aI G zmo 8 yo, aJ G zmf 5 yf, aJ G zmg 8 yg, aJ G zmn 16 (g_M_sealBlock_zmn (g_M_openBlock_zmn (g_M_pinKey_zmn yc yd yi yo yn k) (g_M_pinKey_zm_22 ya yc yd yi yo yn k) (g_M_pinKey_zm_23 yb yc yd yi yo yn k)) (ya (g >>> (4 &&& 31)).toNatClampNeg) (yb (g >>> (4 &&& 31)).toNatClampNeg))]) rfl ?_
                                  exact ih_i trivial
                                · skip
                                  refine pv_iload X 0 d_M_verify_251 rfl ?_
                                  refine pv_iload X 5 d_M_verify_253 rfl ?_
                                  refine pv_iconst X 4 d_M_verify_255 (by decide) ?_
                                  refine pv_iload X 1 d_M_verify_256 rfl ?_
                                  refine pv_imul X d_M_verify_258 ?_
                                  refine pv_ishr X d_M_verify_259 ?_
                                  refine pv_bipush X 15 d_M_verify_260 (by decide) ?_
                                  refine pv_iand X d_M_verify_262 ?_
                                  refine pv_iadd X d_M_verify_263 ?_
                                  refine pv_bipush X 10 d_M_verify_264 (by decide) ?_
                                  refine pv_irem X d_M_verify_266 (by decide) ?_
                                  refine pv_i2l X d_M_verify_267 ?_
                                  refine pv_aload_n X 4 d_M_verify_268 rfl ?_
                                  refine pv_get X 0 25 u_M_in m_599 rfl rfl (by decide) ⟨rfl, rfl, rfl⟩ rfl d_M_verify_269 ?_
                                  refine pv_iconst X 4 d_M_verify_272 (by decide) ?_
                                  refine pv_iload X 1 d_M_verify_273 rfl ?_
                                  refine pv_imul X d_M_verify_275 ?_
                                  refine pv_lshr X d_M_verify_276 ?_
                                  refine pv_ldc2_w X m_727 d_M_verify_277 ?_
                                  refine pv_land X d_M_verify_280 ?_
                                  refine pv_lcmp X d_M_verify_281 ?_
                                  refine pv_if_ne X 289 d_M_verify_282 rfl (fun h31 => ?_) (fun h31n => ?_)
                                  · skip
                                    refine pv_iconst X 0 d_M_verify_289 (by decide) ?_
                                    refine pv_topi (mvr (((f_M_sealBlock (ya (g >>> (4 &&& 31)).toNatClampNeg) (yb (g >>> (4 &&& 31)).toNatClampNeg) a).toUInt64 >>> ((48 : Int32).toInt64.toUInt64 &&& Int64.toUInt64 63)).toInt64) o (g_M_reads_zm_25 yx (f_M_openBlock (g_M_pinKey_zm_22 ya yc yd yi yo yn k) (g_M_pinKey_zm_23 yb yc yd yi yo yn k) (yf 0)) (g &&& 15) a) (i + 1)) (by simp only [mvr, if_neg h27n, if_neg h30n, if_neg h31]) ?_
                                    refine pv_istore (ll2 := [(10, .int (mvr (((f_M_sealBlock (ya (g >>> (4 &&& 31)).toNatClampNeg) (yb (g >>> (4 &&& 31)).toNatClampNeg) a).toUInt64 >>> ((48 : Int32).toInt64.toUInt64 &&& Int64.toUInt64 63)).toInt64) o (g_M_reads_zm_25 yx (f_M_openBlock (g_M_pinKey_zm_22 ya yc yd yi yo yn k) (g_M_pinKey_zm_23 yb yc yd yi yo yn k) (yf 0)) (g &&& 15) a) (i + 1))), (12, .int (mve (((f_M_sealBlock (ya (g >>> (4 &&& 31)).toNatClampNeg) (yb (g >>> (4 &&& 31)).toNatClampNeg) a).toUInt64 >>> ((48 : Int32).toInt64.toUInt64 &&& Int64.toUInt64 63)).toInt64) i)), (11, .int (nI i)), (8, .long (((f_M_sealBlock (ya (g >>> (4 &&& 31)).toNatClampNeg) (yb (g >>> (4 &&& 31)).toNatClampNeg) a).toUInt64 >>> ((48 : Int32).toInt64.toUInt64 &&& Int64.toUInt64 63)).toInt64)), (0, .ref zm), (5, .int o)]) X d_M_verify_290 (by decide) rfl ?_
                                    refine pv_iinc (ll2 := [(11, .int (nI (i + 1))), (10, .int (mvr (((f_M_sealBlock (ya (g >>> (4 &&& 31)).toNatClampNeg) (yb (g >>> (4 &&& 31)).toNatClampNeg) a).toUInt64 >>> ((48 : Int32).toInt64.toUInt64 &&& Int64.toUInt64 63)).toInt64) o (g_M_reads_zm_25 yx (f_M_openBlock (g_M_pinKey_zm_22 ya yc yd yi yo yn k) (g_M_pinKey_zm_23 yb yc yd yi yo yn k) (yf 0)) (g &&& 15) a) (i + 1))), (12, .int (mve (((f_M_sealBlock (ya (g >>> (4 &&& 31)).toNatClampNeg) (yb (g >>> (4 &&& 31)).toNatClampNeg) a).toUInt64 >>> ((48 : Int32).toInt64.toUInt64 &&& Int64.toUInt64 63)).toInt64) i)), (8, .long (((f_M_sealBlock (ya (g >>> (4 &&& 31)).toNatClampNeg) (yb (g >>> (4 &&& 31)).toNatClampNeg) a).toUInt64 >>> ((48 : Int32).toInt64.toUInt64 &&& Int64.toUInt64 63)).toInt64)), (0, .ref zm), (5, .int o)]) X 2 (nI (i + 1)) d_M_verify_292 rfl (nI_1 _) (by decide) rfl ?_
                                    refine pv_goto X 207 d_M_verify_295 rfl ?_
                                    refine pv_lpick (ll2 := [(11, .int (nI (i + 1))), (10, .int (mvr (((f_M_sealBlock (ya (g >>> (4 &&& 31)).toNatClampNeg) (yb (g >>> (4 &&& 31)).toNatClampNeg) a).toUInt64 >>> ((48 : Int32).toInt64.toUInt64 &&& Int64.toUInt64 63)).toInt64) o (g_M_reads_zm_25 yx (f_M_openBlock (g_M_pinKey_zm_22 ya yc yd yi yo yn k) (g_M_pinKey_zm_23 yb yc yd yi yo yn k) (yf 0)) (g &&& 15) a) (i + 1))), (8, .long (((f_M_sealBlock (ya (g >>> (4 &&& 31)).toNatClampNeg) (yb (g >>> (4 &&& 31)).toNatClampNeg) a).toUInt64 >>> ((48 : Int32).toInt64.toUInt64 &&& Int64.toUInt64 63)).toInt64)), (0, .ref zm), (5, .int o)]) [0, 1, 3, 4, 5] rfl ?_
                                    refine pv_eqw (ws2 := [ob zm 5 [.ref zmp, .ref zm1, .ref zm2, .ref zmx, .int 0, .ref zmh, .ref zmt, .int ys, .long yl, .long yr, .ref zmu, .ref zme, .ref zma, .ref zmb, .ref zmk, .ref zmc, .ref zmd, .ref zmi, .ref zmo, .ref zmf, .ref zmg, .ref zmn, .long (g_M_pinKey_zm_22 ya yc yd yi yo yn k), .long (g_M_pinKey_zm_23 yb yc yd yi yo yn k), .int (g_M_reads_zm_24 yw (f_M_openBlock (g_M_pinKey_zm_22 ya yc yd yi yo yn k) (g_M_pinKey_zm_23 yb yc yd yi yo yn k) (yf 0)) (g &&& 15) a), .long (g_M_reads_zm_25 yx (f_M_openBlock (g_M_pinKey_zm_22 ya yc yd yi yo yn k) (g_M_pinKey_zm_23 yb yc yd yi yo yn k) (yf 0)) (g &&& 15) a)], aI G zmp 32 tb_perm, aI G zm1 56 tb_c1, aI G zm2 48 tb_c2, aI G zmx 512 tb_box, aJ G zmh 6 yv, aZ G zmt 6 yt, aI G zmu 16 yu, aZ G zme 16 ye, aJ G zma 16 ya, aJ G zmb 16 yb, aZ G zmk 8 yk, aJ G zmc 8 yc, aJ G zmd 8 yd, aJ G zmi 8 yi, aI G zmo 8 yo, aJ G zmf 5 yf, aJ G zmg 8 yg, aJ G zmn 16 (g_M_sealBlock_zmn (g_M_openBlock_zmn (g_M_pinKey_zmn yc yd yi yo yn k) (g_M_pinKey_zm_22 ya yc yd yi yo yn k) (g_M_pinKey_zm_23 yb yc yd yi yo yn k)) (ya (g >>> (4 &&& 31)).toNatClampNeg) (yb (g >>> (4 &&& 31)).toNatClampNeg))]) rfl ?_
                                    exact ih_i trivial
                                  · skip
                                    refine pv_iconst X 1 d_M_verify_285 (by decide) ?_
                                    refine pv_goto X 290 d_M_verify_286 rfl ?_
                                    refine pv_topi (mvr (((f_M_sealBlock (ya (g >>> (4 &&& 31)).toNatClampNeg) (yb (g >>> (4 &&& 31)).toNatClampNeg) a).toUInt64 >>> ((48 : Int32).toInt64.toUInt64 &&& Int64.toUInt64 63)).toInt64) o (g_M_reads_zm_25 yx (f_M_openBlock (g_M_pinKey_zm_22 ya yc yd yi yo yn k) (g_M_pinKey_zm_23 yb yc yd yi yo yn k) (yf 0)) (g &&& 15) a) (i + 1)) (by simp only [mvr, if_neg h27n, if_neg h30n, if_pos h31n]) ?_
                                    refine pv_istore (ll2 := [(10, .int (mvr (((f_M_sealBlock (ya (g >>> (4 &&& 31)).toNatClampNeg) (yb (g >>> (4 &&& 31)).toNatClampNeg) a).toUInt64 >>> ((48 : Int32).toInt64.toUInt64 &&& Int64.toUInt64 63)).toInt64) o (g_M_reads_zm_25 yx (f_M_openBlock (g_M_pinKey_zm_22 ya yc yd yi yo yn k) (g_M_pinKey_zm_23 yb yc yd yi yo yn k) (yf 0)) (g &&& 15) a) (i + 1))), (12, .int (mve (((f_M_sealBlock (ya (g >>> (4 &&& 31)).toNatClampNeg) (yb (g >>> (4 &&& 31)).toNatClampNeg) a).toUInt64 >>> ((48 : Int32).toInt64.toUInt64 &&& Int64.toUInt64 63)).toInt64) i)), (11, .int (nI i)), (8, .long (((f_M_sealBlock (ya (g >>> (4 &&& 31)).toNatClampNeg) (yb (g >>> (4 &&& 31)).toNatClampNeg) a).toUInt64 >>> ((48 : Int32).toInt64.toUInt64 &&& Int64.toUInt64 63)).toInt64)), (0, .ref zm), (5, .int o)]) X d_M_verify_290 (by decide) rfl ?_
                                    refine pv_iinc (ll2 := [(11, .int (nI (i + 1))), (10, .int (mvr (((f_M_sealBlock (ya (g >>> (4 &&& 31)).toNatClampNeg) (yb (g >>> (4 &&& 31)).toNatClampNeg) a).toUInt64 >>> ((48 : Int32).toInt64.toUInt64 &&& Int64.toUInt64 63)).toInt64) o (g_M_reads_zm_25 yx (f_M_openBlock (g_M_pinKey_zm_22 ya yc yd yi yo yn k) (g_M_pinKey_zm_23 yb yc yd yi yo yn k) (yf 0)) (g &&& 15) a) (i + 1))), (12, .int (mve (((f_M_sealBlock (ya (g >>> (4 &&& 31)).toNatClampNeg) (yb (g >>> (4 &&& 31)).toNatClampNeg) a).toUInt64 >>> ((48 : Int32).toInt64.toUInt64 &&& Int64.toUInt64 63)).toInt64) i)), (8, .long (((f_M_sealBlock (ya (g >>> (4 &&& 31)).toNatClampNeg) (yb (g >>> (4 &&& 31)).toNatClampNeg) a).toUInt64 >>> ((48 : Int32).toInt64.toUInt64 &&& Int64.toUInt64 63)).toInt64)), (0, .ref zm), (5, .int o)]) X 2 (nI (i + 1)) d_M_verify_292 rfl (nI_1 _) (by decide) rfl ?_
                                    refine pv_goto X 207 d_M_verify_295 rfl ?_
                                    refine pv_lpick (ll2 := [(11, .int (nI (i + 1))), (10, .int (mvr (((f_M_sealBlock (ya (g >>> (4 &&& 31)).toNatClampNeg) (yb (g >>> (4 &&& 31)).toNatClampNeg) a).toUInt64 >>> ((48 : Int32).toInt64.toUInt64 &&& Int64.toUInt64 63)).toInt64) o (g_M_reads_zm_25 yx (f_M_openBlock (g_M_pinKey_zm_22 ya yc yd yi yo yn k) (g_M_pinKey_zm_23 yb yc yd yi yo yn k) (yf 0)) (g &&& 15) a) (i + 1))), (8, .long (((f_M_sealBlock (ya (g >>> (4 &&& 31)).toNatClampNeg) (yb (g >>> (4 &&& 31)).toNatClampNeg) a).toUInt64 >>> ((48 : Int32).toInt64.toUInt64 &&& Int64.toUInt64 63)).toInt64)), (0, .ref zm), (5, .int o)]) [0, 1, 3, 4, 5] rfl ?_
                                    refine pv_eqw (ws2 := [ob zm 5 [.ref zmp, .ref zm1, .ref zm2, .ref zmx, .int 0, .ref zmh, .ref zmt, .int ys, .long yl, .long yr, .ref zmu, .ref zme, .ref zma, .ref zmb, .ref zmk, .ref zmc, .ref zmd, .ref zmi, .ref zmo, .ref zmf, .ref zmg, .ref zmn, .long (g_M_pinKey_zm_22 ya yc yd yi yo yn k), .long (g_M_pinKey_zm_23 yb yc yd yi yo yn k), .int (g_M_reads_zm_24 yw (f_M_openBlock (g_M_pinKey_zm_22 ya yc yd yi yo yn k) (g_M_pinKey_zm_23 yb yc yd yi yo yn k) (yf 0)) (g &&& 15) a), .long (g_M_reads_zm_25 yx (f_M_openBlock (g_M_pinKey_zm_22 ya yc yd yi yo yn k) (g_M_pinKey_zm_23 yb yc yd yi yo yn k) (yf 0)) (g &&& 15) a)], aI G zmp 32 tb_perm, aI G zm1 56 tb_c1, aI G zm2 48 tb_c2, aI G zmx 512 tb_box, aJ G zmh 6 yv, aZ G zmt 6 yt, aI G zmu 16 yu, aZ G zme 16 ye, aJ G zma 16 ya, aJ G zmb 16 yb, aZ G zmk 8 yk, aJ G zmc 8 yc, aJ G zmd 8 yd, aJ G zmi 8 yi, aI G zmo 8 yo, aJ G zmf 5 yf, aJ G zmg 8 yg, aJ G zmn 16 (g_M_sealBlock_zmn (g_M_openBlock_zmn (g_M_pinKey_zmn yc yd yi yo yn k) (g_M_pinKey_zm_22 ya yc yd yi yo yn k) (g_M_pinKey_zm_23 yb yc yd yi yo yn k)) (ya (g >>> (4 &&& 31)).toNatClampNeg) (yb (g >>> (4 &&& 31)).toNatClampNeg))]) rfl ?_
                                    exact ih_i trivial
                          · skip
                            refine pv_bipush X (-6) d_M_verify_174 (by decide) ?_
                            exact pv_iret X hr hlk (g_M_openBlock_zmn (g_M_pinKey_zmn yc yd yi yo yn k) (g_M_pinKey_zm_22 ya yc yd yi yo yn k) (g_M_pinKey_zm_23 yb yc yd yi yo yn k), g_M_pinKey_zm_22 ya yc yd yi yo yn k, g_M_pinKey_zm_23 yb yc yd yi yo yn k, g_M_reads_zm_24 yw (f_M_openBlock (g_M_pinKey_zm_22 ya yc yd yi yo yn k) (g_M_pinKey_zm_23 yb yc yd yi yo yn k) (yf 0)) (g &&& 15) a, g_M_reads_zm_25 yx (f_M_openBlock (g_M_pinKey_zm_22 ya yc yd yi yo yn k) (g_M_pinKey_zm_23 yb yc yd yi yo yn k) (yf 0)) (g &&& 15) a) (by show _ = f_M_verify ys yu ya yb yk yc yd yi yo yf yn yw yx k g a o; simp only [f_M_verify, if_neg h1, if_neg h3n, if_neg h5n, if_neg h7n, if_neg h9n, if_neg h11n, if_neg h13, if_neg h15n, if_pos h16, if_neg h18n, if_pos h19, if_neg h23n, if_neg h24n]) (by simp only [g_M_verify_zm_4, if_neg h1, if_neg h3n, if_neg h5n, if_neg h7n, if_neg h9n, if_neg h11n, if_neg h13, if_neg h15n, if_pos h16, if_neg h18n, if_pos h19, if_neg h23n, if_neg h24n]) d_M_verify_176
                      · skip
                        refine pv_bipush X (-4) d_M_verify_130 (by decide) ?_
                        exact pv_iret X hr hlk (yn, yp, yq, yw, yx) (by show _ = f_M_verify ys yu ya yb yk yc yd yi yo yf yn yw yx k g a o; simp only [f_M_verify, if_neg h1, if_neg h3n, if_neg h5n, if_neg h7n, if_neg h9n, if_neg h11n, if_neg h13, if_neg h15n, if_pos h16, if_neg h18n, if_neg h19n]) (by simp only [g_M_verify_zm_4, if_neg h1, if_neg h3n, if_neg h5n, if_neg h7n, if_neg h9n, if_neg h11n, if_neg h13, if_neg h15n, if_pos h16, if_neg h18n, if_neg h19n]) d_M_verify_132
                  · skip
                    refine pv_bipush X (-3) d_M_verify_108 (by decide) ?_
                    exact pv_iret X hr hlk (yn, yp, yq, yw, yx) (by show _ = f_M_verify ys yu ya yb yk yc yd yi yo yf yn yw yx k g a o; simp only [f_M_verify, if_neg h1, if_neg h3n, if_neg h5n, if_neg h7n, if_neg h9n, if_neg h11n, if_neg h13, if_neg h15n, if_neg h16n]) (by simp only [g_M_verify_zm_4, if_neg h1, if_neg h3n, if_neg h5n, if_neg h7n, if_neg h9n, if_neg h11n, if_neg h13, if_neg h15n, if_neg h16n]) d_M_verify_110
              · skip
                refine pv_bipush X (-2) d_M_verify_87 (by decide) ?_
                exact pv_iret X hr hlk (yn, yp, yq, yw, yx) (by show _ = f_M_verify ys yu ya yb yk yc yd yi yo yf yn yw yx k g a o; simp only [f_M_verify, if_neg h1, if_neg h3n, if_neg h5n, if_neg h7n, if_neg h9n, if_neg h11n, if_pos h13n]) (by simp only [g_M_verify_zm_4, if_neg h1, if_neg h3n, if_neg h5n, if_neg h7n, if_neg h9n, if_neg h11n, if_pos h13n]) d_M_verify_89
  · skip
    refine pv_iconst X (-1) d_M_verify_23 (by decide) ?_
    exact pv_iret X hr hlk (yn, yp, yq, yw, yx) (by show _ = f_M_verify ys yu ya yb yk yc yd yi yo yf yn yw yx k g a o; simp only [f_M_verify, if_pos h1n]) (by simp only [g_M_verify_zm_4, if_pos h1n]) d_M_verify_24
