def tb_perm (j : Nat) : Int32 := ([16, 7, 20, 21, 29, 12, 28, 17, 1, 15, 23, 26, 5, 18, 31, 10, 2, 8, 24, 14, 32, 27, 3, 9, 19, 13, 30, 6, 22, 11, 4, 25] : List Int32).getD j 0
def tb_c1 (j : Nat) : Int32 := ([57, 49, 41, 33, 25, 17, 9, 1, 58, 50, 42, 34, 26, 18, 10, 2, 59, 51, 43, 35, 27, 19, 11, 3, 60, 52, 44, 36, 63, 55, 47, 39, 31, 23, 15, 7, 62, 54, 46, 38, 30, 22, 14, 6, 61, 53, 45, 37, 29, 21, 13, 5, 28, 20, 12, 4] : List Int32).getD j 0
def tb_c2 (j : Nat) : Int32 := ([14, 17, 11, 24, 1, 5, 3, 28, 15, 6, 21, 10, 23, 19, 12, 4, 26, 8, 16, 7, 27, 20, 13, 2, 41, 52, 31, 37, 47, 55, 30, 40, 51, 45, 33, 48, 44, 49, 39, 56, 34, 53, 46, 42, 50, 36, 29, 32] : List Int32).getD j 0
def tb_box (j : Nat) : Int32 := ([14, 4, 13, 1, 2, 15, 11, 8, 3, 10, 6, 12, 5, 9, 0, 7, 0, 15, 7, 4, 14, 2, 13, 1, 10, 6, 12, 11, 9, 5, 3, 8, 4, 1, 14, 8, 13, 6, 2, 11, 15, 12, 9, 7, 3, 10, 5, 0, 15, 12, 8, 2, 4, 9, 1, 7, 5, 11, 3, 14, 10, 0, 6, 13, 15, 1, 8, 14, 6, 11, 3, 4, 9, 7, 2, 13, 12, 0, 5, 10, 3, 13, 4, 7, 15, 2, 8, 14, 12, 0, 1, 10, 6, 9, 11, 5, 0, 14, 7, 11, 10, 4, 13, 1, 5, 8, 12, 6, 9, 3, 2, 15, 13, 8, 10, 1, 3, 15, 4, 2, 11, 6, 7, 12, 0, 5, 14, 9, 10, 0, 9, 14, 6, 3, 15, 5, 1, 13, 12, 7, 11, 4, 2, 8, 13, 7, 0, 9, 3, 4, 6, 10, 2, 8, 5, 14, 12, 11, 15, 1, 13, 6, 4, 9, 8, 15, 3, 0, 11, 1, 2, 12, 5, 10, 14, 7, 1, 10, 13, 0, 6, 9, 8, 7, 4, 15, 14, 3, 11, 5, 2, 12, 7, 13, 14, 3, 0, 6, 9, 10, 1, 2, 8, 5, 11, 12, 4, 15, 13, 8, 11, 5, 6, 15, 0, 3, 4, 7, 2, 12, 1, 10, 14, 9, 10, 6, 9, 0, 12, 11, 7, 13, 15, 1, 3, 14, 5, 2, 8, 4, 3, 15, 0, 6, 10, 1, 13, 8, 9, 4, 5, 11, 12, 7, 2, 14, 2, 12, 4, 1, 7, 10, 11, 6, 8, 5, 3, 15, 13, 0, 14, 9, 14, 11, 2, 12, 4, 7, 13, 1, 5, 0, 15, 10, 3, 9, 8, 6, 4, 2, 1, 11, 10, 13, 7, 8, 15, 9, 12, 5, 6, 3, 0, 14, 11, 8, 12, 7, 1, 14, 2, 13, 6, 15, 0, 9, 10, 4, 5, 3, 12, 1, 10, 15, 9, 2, 6, 8, 0, 13, 3, 4, 14, 7, 5, 11, 10, 15, 4, 2, 7, 12, 9, 5, 6, 1, 13, 14, 0, 11, 3, 8, 9, 14, 15, 5, 2, 8, 12, 3, 7, 0, 4, 10, 1, 13, 11, 6, 4, 3, 2, 12, 9, 5, 15, 10, 11, 14, 1, 7, 6, 0, 8, 13, 4, 11, 2, 14, 15, 0, 8, 13, 3, 12, 9, 7, 5, 10, 6, 1, 13, 0, 11, 7, 4, 9, 1, 10, 14, 3, 5, 12, 2, 15, 8, 6, 1, 4, 11, 13, 12, 3, 7, 14, 10, 15, 6, 8, 0, 5, 9, 2, 6, 11, 13, 8, 1, 4, 10, 7, 9, 5, 0, 15, 14, 2, 3, 12, 13, 2, 8, 4, 6, 15, 11, 1, 10, 9, 3, 14, 5, 0, 12, 7, 1, 15, 13, 8, 10, 3, 7, 4, 12, 5, 6, 11, 0, 14, 9, 2, 7, 11, 4, 1, 9, 12, 14, 2, 0, 6, 10, 13, 15, 3, 5, 8, 2, 1, 14, 7, 4, 10, 8, 13, 15, 12, 9, 0, 3, 5, 6, 11] : List Int32).getD j 0
def f_M_thrown (th : Int32) : Int32 := th
abbrev rm_M_thrown : Room := { frames := 0, cells := 0, slots := 0, locals := 0 }
theorem mf_M_thrown : MF y_M_thrown b_M_thrown 1 (some .int) 0 := ⟨m_656, m_6, by decide, by decide, by decide +kernel⟩
theorem d_M_thrown_0 : decode b_M_thrown 0 = .ok (.aload_n 0, 1) := by decide +kernel
theorem d_M_thrown_1 : decode b_M_thrown 1 = .ok (.getfield 66, 3) := by decide +kernel
theorem d_M_thrown_4 : decode b_M_thrown 4 = .ok (.ireturn, 1) := by decide +kernel
set_option maxRecDepth 100000 in
set_option maxHeartbeats 4000000 in
theorem c_M_thrown (l : Launch) (G : Gt) (zm zmp zm1 zm2 zmx zmh zmt zmu zme zma zmb zmk zmc zmd zmi zmo zmf zmg zmn : Nat) (th ys : Int32) (yl yr : Int64) (yv : Nat → Int64) (yt yu ye : Nat → Int32) (ya yb : Nat → Int64) (yk : Nat → Int32) (yc yd yi : Nat → Int64) (yo : Nat → Int32) (yf yg yn : Nat → Int64) (yp yq : Int64) (yw : Int32) (yx : Int64)  : CtI l G y_M_thrown b_M_thrown 1 (some .int) rm_M_thrown E0 [.ref zm] [ob zm 5 [.ref zmp, .ref zm1, .ref zm2, .ref zmx, .int th, .ref zmh, .ref zmt, .int ys, .long yl, .long yr, .ref zmu, .ref zme, .ref zma, .ref zmb, .ref zmk, .ref zmc, .ref zmd, .ref zmi, .ref zmo, .ref zmf, .ref zmg, .ref zmn, .long yp, .long yq, .int yw, .long yx], aI G zmp 32 tb_perm, aI G zm1 56 tb_c1, aI G zm2 48 tb_c2, aI G zmx 512 tb_box, aJ G zmh 6 yv, aZ G zmt 6 yt, aI G zmu 16 yu, aZ G zme 16 ye, aJ G zma 16 ya, aJ G zmb 16 yb, aZ G zmk 8 yk, aJ G zmc 8 yc, aJ G zmd 8 yd, aJ G zmi 8 yi, aI G zmo 8 yo, aJ G zmf 5 yf, aJ G zmg 8 yg, aJ G zmn 16 yn] (fun r (_ : Unit) => r = f_M_thrown th) (fun _ => [ob zm 5 [.ref zmp, .ref zm1, .ref zm2, .ref zmx, .int th, .ref zmh, .ref zmt, .int ys, .long yl, .long yr, .ref zmu, .ref zme, .ref zma, .ref zmb, .ref zmk, .ref zmc, .ref zmd, .ref zmi, .ref zmo, .ref zmf, .ref zmg, .ref zmn, .long yp, .long yq, .int yw, .long yx], aI G zmp 32 tb_perm, aI G zm1 56 tb_c1, aI G zm2 48 tb_c2, aI G zmx 512 tb_box, aJ G zmh 6 yv, aZ G zmt 6 yt, aI G zmu 16 yu, aZ G zme 16 ye, aJ G zma 16 ya, aJ G zmb 16 yb, aZ G zmk 8 yk, aJ G zmc 8 yc, aJ G zmd 8 yd, aJ G zmi 8 yi, aI G zmo 8 yo, aJ G zmf 5 yf, aJ G zmg 8 yg, aJ G zmn 16 yn]) 0 0 := by
  refine Ct.of (Qp := fun A => va_Qi _ (qB G A _) A) Stb_0 (by decide) (Nat.le_of_ble_eq_true rfl) ?_
  intro p e s m args below meth c A X hE hr hlk hini
  refine pv_eql (ll2 := [(0, .ref zm)]) rfl ?_
  refine pv_aload_n X 0 d_M_thrown_0 rfl ?_
  refine pv_get X 0 4 u_M_in m_578 rfl rfl (by decide) ⟨rfl, rfl, rfl⟩ rfl d_M_thrown_1 ?_
  exact pv_iret X hr hlk () rfl rfl d_M_thrown_4
def f_M_throwing (a : Int32) (b : Int32) : Int32 := if a = 0 then (if b = 0 then 0 else 1) else 1
theorem bo_M_throwing {a : Int32} {b : Int32} : Bo (f_M_throwing a b) := by
  unfold f_M_throwing
  repeat (first | with_reducible exact bo_0 | with_reducible exact bo_1 | split)
def g_M_throwing_zm_4 (a : Int32) (b : Int32) : Int32 := if a = 0 then (if b = 0 then 0 else 2) else 1
abbrev rm_M_throwing : Room := { frames := 0, cells := 0, slots := 0, locals := 0 }
theorem mf_M_throwing : MF y_M_throwing b_M_throwing 3 (some .boolean) 2 := ⟨m_668, m_6, by decide, by decide, by decide +kernel⟩
theorem d_M_throwing_0 : decode b_M_throwing 0 = .ok (.aload_n 0, 1) := by decide +kernel
theorem d_M_throwing_1 : decode b_M_throwing 1 = .ok (.iload_n 1, 1) := by decide +kernel
theorem d_M_throwing_2 : decode b_M_throwing 2 = .ok (.ifCond .eq 7, 3) := by decide +kernel
theorem d_M_throwing_5 : decode b_M_throwing 5 = .ok (.iconst 1, 1) := by decide +kernel
theorem d_M_throwing_6 : decode b_M_throwing 6 = .ok (.goto 12, 3) := by decide +kernel
theorem d_M_throwing_9 : decode b_M_throwing 9 = .ok (.iload_n 2, 1) := by decide +kernel
theorem d_M_throwing_10 : decode b_M_throwing 10 = .ok (.ifCond .eq 7, 3) := by decide +kernel
theorem d_M_throwing_13 : decode b_M_throwing 13 = .ok (.iconst 2, 1) := by decide +kernel
theorem d_M_throwing_14 : decode b_M_throwing 14 = .ok (.goto 4, 3) := by decide +kernel
theorem d_M_throwing_17 : decode b_M_throwing 17 = .ok (.iconst 0, 1) := by decide +kernel
theorem d_M_throwing_18 : decode b_M_throwing 18 = .ok (.putfield 66, 3) := by decide +kernel
theorem d_M_throwing_21 : decode b_M_throwing 21 = .ok (.aload_n 0, 1) := by decide +kernel
theorem d_M_throwing_22 : decode b_M_throwing 22 = .ok (.getfield 66, 3) := by decide +kernel
theorem d_M_throwing_25 : decode b_M_throwing 25 = .ok (.ifCond .le 7, 3) := by decide +kernel
theorem d_M_throwing_28 : decode b_M_throwing 28 = .ok (.iconst 1, 1) := by decide +kernel
theorem d_M_throwing_29 : decode b_M_throwing 29 = .ok (.goto 4, 3) := by decide +kernel
theorem d_M_throwing_32 : decode b_M_throwing 32 = .ok (.iconst 0, 1) := by decide +kernel
theorem d_M_throwing_33 : decode b_M_throwing 33 = .ok (.ireturn, 1) := by decide +kernel
set_option maxRecDepth 100000 in
set_option maxHeartbeats 4000000 in
theorem c_M_throwing (l : Launch) (G : Gt) (zm zmp zm1 zm2 zmx zmh zmt zmu zme zma zmb zmk zmc zmd zmi zmo zmf zmg zmn : Nat) (th ys : Int32) (yl yr : Int64) (yv : Nat → Int64) (yt yu ye : Nat → Int32) (ya yb : Nat → Int64) (yk : Nat → Int32) (yc yd yi : Nat → Int64) (yo : Nat → Int32) (yf yg yn : Nat → Int64) (yp yq : Int64) (yw : Int32) (yx : Int64) (a b : Int32) : CtI l G y_M_throwing b_M_throwing 3 (some .boolean) rm_M_throwing E0 [.ref zm, .int a, .int b] [ob zm 5 [.ref zmp, .ref zm1, .ref zm2, .ref zmx, .int th, .ref zmh, .ref zmt, .int ys, .long yl, .long yr, .ref zmu, .ref zme, .ref zma, .ref zmb, .ref zmk, .ref zmc, .ref zmd, .ref zmi, .ref zmo, .ref zmf, .ref zmg, .ref zmn, .long yp, .long yq, .int yw, .long yx], aI G zmp 32 tb_perm, aI G zm1 56 tb_c1, aI G zm2 48 tb_c2, aI G zmx 512 tb_box, aJ G zmh 6 yv, aZ G zmt 6 yt, aI G zmu 16 yu, aZ G zme 16 ye, aJ G zma 16 ya, aJ G zmb 16 yb, aZ G zmk 8 yk, aJ G zmc 8 yc, aJ G zmd 8 yd, aJ G zmi 8 yi, aI G zmo 8 yo, aJ G zmf 5 yf, aJ G zmg 8 yg, aJ G zmn 16 yn] (fun r (_ : Unit) => r = f_M_throwing a b) (fun _ => [ob zm 5 [.ref zmp, .ref zm1, .ref zm2, .ref zmx, .int (g_M_throwing_zm_4 a b), .ref zmh, .ref zmt, .int ys, .long yl, .long yr, .ref zmu, .ref zme, .ref zma, .ref zmb, .ref zmk, .ref zmc, .ref zmd, .ref zmi, .ref zmo, .ref zmf, .ref zmg, .ref zmn, .long yp, .long yq, .int yw, .long yx], aI G zmp 32 tb_perm, aI G zm1 56 tb_c1, aI G zm2 48 tb_c2, aI G zmx 512 tb_box, aJ G zmh 6 yv, aZ G zmt 6 yt, aI G zmu 16 yu, aZ G zme 16 ye, aJ G zma 16 ya, aJ G zmb 16 yb, aZ G zmk 8 yk, aJ G zmc 8 yc, aJ G zmd 8 yd, aJ G zmi 8 yi, aI G zmo 8 yo, aJ G zmf 5 yf, aJ G zmg 8 yg, aJ G zmn 16 yn]) 0 0 := by
  refine Ct.of (Qp := fun A => va_Qi _ (qB G A _) A) Stb_0 (by decide) (Nat.le_of_ble_eq_true rfl) ?_
  intro p e s m args below meth c A X hE hr hlk hini
  refine pv_eql (ll2 := [(0, .ref zm), (1, .int a), (2, .int b)]) rfl ?_
  refine pv_aload_n X 0 d_M_throwing_0 rfl ?_
  refine pv_iload_n X 1 d_M_throwing_1 rfl ?_
  refine pv_if_eq X 9 d_M_throwing_2 rfl (fun h1 => ?_) (fun h1n => ?_)
  · skip
    refine pv_iload_n X 2 d_M_throwing_9 rfl ?_
    refine pv_if_eq X 17 d_M_throwing_10 rfl (fun h2 => ?_) (fun h2n => ?_)
    · skip
      refine pv_iconst X 0 d_M_throwing_17 (by decide) ?_
      refine pv_put X (ty := .int) (ws2 := [ob zm 5 [.ref zmp, .ref zm1, .ref zm2, .ref zmx, .int 0, .ref zmh, .ref zmt, .int ys, .long yl, .long yr, .ref zmu, .ref zme, .ref zma, .ref zmb, .ref zmk, .ref zmc, .ref zmd, .ref zmi, .ref zmo, .ref zmf, .ref zmg, .ref zmn, .long yp, .long yq, .int yw, .long yx], aI G zmp 32 tb_perm, aI G zm1 56 tb_c1, aI G zm2 48 tb_c2, aI G zmx 512 tb_box, aJ G zmh 6 yv, aZ G zmt 6 yt, aI G zmu 16 yu, aZ G zme 16 ye, aJ G zma 16 ya, aJ G zmb 16 yb, aZ G zmk 8 yk, aJ G zmc 8 yc, aJ G zmd 8 yd, aJ G zmi 8 yi, aI G zmo 8 yo, aJ G zmf 5 yf, aJ G zmg 8 yg, aJ G zmn 16 yn]) 0 4 ty_M ty_M_ok n_M u_M_in m_578 rfl rfl (by decide) ⟨rfl, rfl, rfl⟩ rfl (by decide +kernel) rfl rfl (Nat.le_of_ble_eq_true rfl) rfl d_M_throwing_18 ?_
      refine pv_aload_n X 0 d_M_throwing_21 rfl ?_
      refine pv_get X 0 4 u_M_in m_578 rfl rfl (by decide) ⟨rfl, rfl, rfl⟩ rfl d_M_throwing_22 ?_
      refine pv_if_le X 32 d_M_throwing_25 rfl (fun _ => ?_) (fun h => absurd (by decide) h)
      refine pv_iconst X 0 d_M_throwing_32 (by decide) ?_
      exact pv_zret X hr hlk rfl () (by show _ = f_M_throwing a b; simp only [f_M_throwing, if_pos h1, if_pos h2]) (by simp only [g_M_throwing_zm_4, if_pos h1, if_pos h2]) d_M_throwing_33
    · skip
      refine pv_iconst X 2 d_M_throwing_13 (by decide) ?_
      refine pv_goto X 18 d_M_throwing_14 rfl ?_
      refine pv_put X (ty := .int) (ws2 := [ob zm 5 [.ref zmp, .ref zm1, .ref zm2, .ref zmx, .int 2, .ref zmh, .ref zmt, .int ys, .long yl, .long yr, .ref zmu, .ref zme, .ref zma, .ref zmb, .ref zmk, .ref zmc, .ref zmd, .ref zmi, .ref zmo, .ref zmf, .ref zmg, .ref zmn, .long yp, .long yq, .int yw, .long yx], aI G zmp 32 tb_perm, aI G zm1 56 tb_c1, aI G zm2 48 tb_c2, aI G zmx 512 tb_box, aJ G zmh 6 yv, aZ G zmt 6 yt, aI G zmu 16 yu, aZ G zme 16 ye, aJ G zma 16 ya, aJ G zmb 16 yb, aZ G zmk 8 yk, aJ G zmc 8 yc, aJ G zmd 8 yd, aJ G zmi 8 yi, aI G zmo 8 yo, aJ G zmf 5 yf, aJ G zmg 8 yg, aJ G zmn 16 yn]) 0 4 ty_M ty_M_ok n_M u_M_in m_578 rfl rfl (by decide) ⟨rfl, rfl, rfl⟩ rfl (by decide +kernel) rfl rfl (Nat.le_of_ble_eq_true rfl) rfl d_M_throwing_18 ?_
      refine pv_aload_n X 0 d_M_throwing_21 rfl ?_
      refine pv_get X 0 4 u_M_in m_578 rfl rfl (by decide) ⟨rfl, rfl, rfl⟩ rfl d_M_throwing_22 ?_
      refine pv_if_le X 32 d_M_throwing_25 rfl (fun h => absurd h (by decide)) (fun _ => ?_)
      refine pv_iconst X 1 d_M_throwing_28 (by decide) ?_
      refine pv_goto X 33 d_M_throwing_29 rfl ?_
      exact pv_zret X hr hlk rfl () (by show _ = f_M_throwing a b; simp only [f_M_throwing, if_pos h1, if_neg h2n]) (by simp only [g_M_throwing_zm_4, if_pos h1, if_neg h2n]) d_M_throwing_33
  · skip
    refine pv_iconst X 1 d_M_throwing_5 (by decide) ?_
    refine pv_goto X 18 d_M_throwing_6 rfl ?_
    refine pv_put X (ty := .int) (ws2 := [ob zm 5 [.ref zmp, .ref zm1, .ref zm2, .ref zmx, .int 1, .ref zmh, .ref zmt, .int ys, .long yl, .long yr, .ref zmu, .ref zme, .ref zma, .ref zmb, .ref zmk, .ref zmc, .ref zmd, .ref zmi, .ref zmo, .ref zmf, .ref zmg, .ref zmn, .long yp, .long yq, .int yw, .long yx], aI G zmp 32 tb_perm, aI G zm1 56 tb_c1, aI G zm2 48 tb_c2, aI G zmx 512 tb_box, aJ G zmh 6 yv, aZ G zmt 6 yt, aI G zmu 16 yu, aZ G zme 16 ye, aJ G zma 16 ya, aJ G zmb 16 yb, aZ G zmk 8 yk, aJ G zmc 8 yc, aJ G zmd 8 yd, aJ G zmi 8 yi, aI G zmo 8 yo, aJ G zmf 5 yf, aJ G zmg 8 yg, aJ G zmn 16 yn]) 0 4 ty_M ty_M_ok n_M u_M_in m_578 rfl rfl (by decide) ⟨rfl, rfl, rfl⟩ rfl (by decide +kernel) rfl rfl (Nat.le_of_ble_eq_true rfl) rfl d_M_throwing_18 ?_
    refine pv_aload_n X 0 d_M_throwing_21 rfl ?_
    refine pv_get X 0 4 u_M_in m_578 rfl rfl (by decide) ⟨rfl, rfl, rfl⟩ rfl d_M_throwing_22 ?_
    refine pv_if_le X 32 d_M_throwing_25 rfl (fun h => absurd h (by decide)) (fun _ => ?_)
    refine pv_iconst X 1 d_M_throwing_28 (by decide) ?_
    refine pv_goto X 33 d_M_throwing_29 rfl ?_
    exact pv_zret X hr hlk rfl () (by show _ = f_M_throwing a b; simp only [f_M_throwing, if_neg h1n]) (by simp only [g_M_throwing_zm_4, if_neg h1n]) d_M_throwing_33
def mturn (r : Nat) : Int32 := if nI r = 0 then 1 else if nI r = 1 then 1 else if nI r = 8 then 1 else if nI r = 15 then 1 else 2
def mrot (c : Int64) (b : Int32) : Int64 := ((c <<< (b.toInt64 &&& 63)) ||| (c.toUInt64 >>> ((28 - b).toInt64.toUInt64 &&& Int64.toUInt64 63)).toInt64) &&& 268435455
def mhi (k : Int64) : Nat → Int64
  | 0 => pk k 64 tb_c1 28
  | i + 1 => mrot (mhi k i) (mturn i)
def mlo (k : Int64) : Nat → Int64
  | 0 => pk k 64 (fun j => tb_c1 (28 + j)) 28
  | i + 1 => mrot (mlo k i) (mturn i)
def mbo (k : Int64) (i : Nat) : Int64 := (mhi k (i + 1) <<< ((28 : Int32).toInt64 &&& 63)) ||| mlo k (i + 1)
def mrk (k : Int64) (i : Nat) : Int64 := pk (mbo k i) 56 tb_c2 48
def rnd (k : Int64) (f : Nat → Int64) (i : Nat) : Nat → Int64 := fun j => if j < i then mrk k j else f j
theorem rnd_0 (k : Int64) (f : Nat → Int64) : f = rnd k f 0 := by funext j; unfold rnd; rw [if_neg (Nat.not_lt_zero _)]
theorem rnd_s (k : Int64) (f : Nat → Int64) (i : Nat) : vp_updL (rnd k f i) i (mrk k i) = rnd k f (i + 1) := by
  funext j; unfold rnd vp_updL
  by_cases h : j = i
  · subst h; rw [if_pos rfl, if_pos (Nat.lt_succ_self _)]
  · rw [if_neg h]
    show (if j < i then mrk k j else f j) = _
    by_cases h2 : j < i
    · rw [if_pos h2, if_pos (by omega)]
    · rw [if_neg h2, if_neg (by omega)]
theorem rnd_at {k : Int64} {f : Nat → Int64} {i : Nat} (h : i < 16) : rnd k f 16 i = mrk k i := if_pos h
abbrev rm_M_schedule : Room := { frames := 1, cells := 0, slots := 0, locals := 23 }
theorem mf_M_schedule : MF y_M_schedule b_M_schedule 14 none 1 := ⟨m_693, m_6, by decide, by decide, by decide +kernel⟩
theorem d_M_schedule_0 : decode b_M_schedule 0 = .ok (.lconst 0, 1) := by decide +kernel
theorem d_M_schedule_1 : decode b_M_schedule 1 = .ok (.lstore_n 3, 1) := by decide +kernel
theorem d_M_schedule_2 : decode b_M_schedule 2 = .ok (.lconst 0, 1) := by decide +kernel
theorem d_M_schedule_3 : decode b_M_schedule 3 = .ok (.lstore 5, 2) := by decide +kernel
theorem d_M_schedule_5 : decode b_M_schedule 5 = .ok (.iconst 0, 1) := by decide +kernel
theorem d_M_schedule_6 : decode b_M_schedule 6 = .ok (.istore 7, 2) := by decide +kernel
theorem d_M_schedule_8 : decode b_M_schedule 8 = .ok (.iload 7, 2) := by decide +kernel
theorem d_M_schedule_10 : decode b_M_schedule 10 = .ok (.bipush 28, 2) := by decide +kernel
theorem d_M_schedule_12 : decode b_M_schedule 12 = .ok (.if_icmp .ge 50, 3) := by decide +kernel
theorem d_M_schedule_15 : decode b_M_schedule 15 = .ok (.lload_n 3, 1) := by decide +kernel
theorem d_M_schedule_16 : decode b_M_schedule 16 = .ok (.iconst 1, 1) := by decide +kernel
theorem d_M_schedule_17 : decode b_M_schedule 17 = .ok (.lshl, 1) := by decide +kernel
theorem d_M_schedule_18 : decode b_M_schedule 18 = .ok (.lload_n 1, 1) := by decide +kernel
theorem d_M_schedule_19 : decode b_M_schedule 19 = .ok (.aload_n 0, 1) := by decide +kernel
theorem d_M_schedule_20 : decode b_M_schedule 20 = .ok (.getfield 13, 3) := by decide +kernel
theorem d_M_schedule_23 : decode b_M_schedule 23 = .ok (.iload 7, 2) := by decide +kernel
theorem d_M_schedule_25 : decode b_M_schedule 25 = .ok (.iaload, 1) := by decide +kernel
theorem d_M_schedule_26 : decode b_M_schedule 26 = .ok (.bipush 64, 2) := by decide +kernel
theorem d_M_schedule_28 : decode b_M_schedule 28 = .ok (.invokestatic 70, 3) := by decide +kernel
theorem d_M_schedule_31 : decode b_M_schedule 31 = .ok (.lor, 1) := by decide +kernel
theorem d_M_schedule_32 : decode b_M_schedule 32 = .ok (.lstore_n 3, 1) := by decide +kernel
theorem d_M_schedule_33 : decode b_M_schedule 33 = .ok (.lload 5, 2) := by decide +kernel
theorem d_M_schedule_35 : decode b_M_schedule 35 = .ok (.iconst 1, 1) := by decide +kernel
theorem d_M_schedule_36 : decode b_M_schedule 36 = .ok (.lshl, 1) := by decide +kernel
theorem d_M_schedule_37 : decode b_M_schedule 37 = .ok (.lload_n 1, 1) := by decide +kernel
theorem d_M_schedule_38 : decode b_M_schedule 38 = .ok (.aload_n 0, 1) := by decide +kernel
theorem d_M_schedule_39 : decode b_M_schedule 39 = .ok (.getfield 13, 3) := by decide +kernel
theorem d_M_schedule_42 : decode b_M_schedule 42 = .ok (.bipush 28, 2) := by decide +kernel
theorem d_M_schedule_44 : decode b_M_schedule 44 = .ok (.iload 7, 2) := by decide +kernel
theorem d_M_schedule_46 : decode b_M_schedule 46 = .ok (.iadd, 1) := by decide +kernel
theorem d_M_schedule_47 : decode b_M_schedule 47 = .ok (.iaload, 1) := by decide +kernel
theorem d_M_schedule_48 : decode b_M_schedule 48 = .ok (.bipush 64, 2) := by decide +kernel
theorem d_M_schedule_50 : decode b_M_schedule 50 = .ok (.invokestatic 70, 3) := by decide +kernel
theorem d_M_schedule_53 : decode b_M_schedule 53 = .ok (.lor, 1) := by decide +kernel
theorem d_M_schedule_54 : decode b_M_schedule 54 = .ok (.lstore 5, 2) := by decide +kernel
theorem d_M_schedule_56 : decode b_M_schedule 56 = .ok (.iinc 7 1, 3) := by decide +kernel
theorem d_M_schedule_59 : decode b_M_schedule 59 = .ok (.goto (-51), 3) := by decide +kernel
theorem d_M_schedule_62 : decode b_M_schedule 62 = .ok (.iconst 0, 1) := by decide +kernel
theorem d_M_schedule_63 : decode b_M_schedule 63 = .ok (.istore 7, 2) := by decide +kernel
theorem d_M_schedule_65 : decode b_M_schedule 65 = .ok (.iload 7, 2) := by decide +kernel
theorem d_M_schedule_67 : decode b_M_schedule 67 = .ok (.bipush 16, 2) := by decide +kernel
theorem d_M_schedule_69 : decode b_M_schedule 69 = .ok (.if_icmp .ge 136, 3) := by decide +kernel
theorem d_M_schedule_72 : decode b_M_schedule 72 = .ok (.iload 7, 2) := by decide +kernel
theorem d_M_schedule_74 : decode b_M_schedule 74 = .ok (.ifCond .eq 23, 3) := by decide +kernel
theorem d_M_schedule_77 : decode b_M_schedule 77 = .ok (.iload 7, 2) := by decide +kernel
theorem d_M_schedule_79 : decode b_M_schedule 79 = .ok (.iconst 1, 1) := by decide +kernel
theorem d_M_schedule_80 : decode b_M_schedule 80 = .ok (.if_icmp .eq 17, 3) := by decide +kernel
theorem d_M_schedule_83 : decode b_M_schedule 83 = .ok (.iload 7, 2) := by decide +kernel
theorem d_M_schedule_85 : decode b_M_schedule 85 = .ok (.bipush 8, 2) := by decide +kernel
theorem d_M_schedule_87 : decode b_M_schedule 87 = .ok (.if_icmp .eq 10, 3) := by decide +kernel
theorem d_M_schedule_90 : decode b_M_schedule 90 = .ok (.iload 7, 2) := by decide +kernel
theorem d_M_schedule_92 : decode b_M_schedule 92 = .ok (.bipush 15, 2) := by decide +kernel
theorem d_M_schedule_94 : decode b_M_schedule 94 = .ok (.if_icmp .ne 7, 3) := by decide +kernel
theorem d_M_schedule_97 : decode b_M_schedule 97 = .ok (.iconst 1, 1) := by decide +kernel
theorem d_M_schedule_98 : decode b_M_schedule 98 = .ok (.goto 4, 3) := by decide +kernel
theorem d_M_schedule_101 : decode b_M_schedule 101 = .ok (.iconst 2, 1) := by decide +kernel
theorem d_M_schedule_102 : decode b_M_schedule 102 = .ok (.istore 8, 2) := by decide +kernel
theorem d_M_schedule_104 : decode b_M_schedule 104 = .ok (.lload_n 3, 1) := by decide +kernel
theorem d_M_schedule_105 : decode b_M_schedule 105 = .ok (.iload 8, 2) := by decide +kernel
theorem d_M_schedule_107 : decode b_M_schedule 107 = .ok (.lshl, 1) := by decide +kernel
theorem d_M_schedule_108 : decode b_M_schedule 108 = .ok (.lload_n 3, 1) := by decide +kernel
theorem d_M_schedule_109 : decode b_M_schedule 109 = .ok (.bipush 28, 2) := by decide +kernel
theorem d_M_schedule_111 : decode b_M_schedule 111 = .ok (.iload 8, 2) := by decide +kernel
theorem d_M_schedule_113 : decode b_M_schedule 113 = .ok (.isub, 1) := by decide +kernel
theorem d_M_schedule_114 : decode b_M_schedule 114 = .ok (.lushr, 1) := by decide +kernel
theorem d_M_schedule_115 : decode b_M_schedule 115 = .ok (.lor, 1) := by decide +kernel
theorem d_M_schedule_116 : decode b_M_schedule 116 = .ok (.ldc2_w 74, 3) := by decide +kernel
theorem d_M_schedule_119 : decode b_M_schedule 119 = .ok (.land, 1) := by decide +kernel
theorem d_M_schedule_120 : decode b_M_schedule 120 = .ok (.lstore_n 3, 1) := by decide +kernel
theorem d_M_schedule_121 : decode b_M_schedule 121 = .ok (.lload 5, 2) := by decide +kernel
theorem d_M_schedule_123 : decode b_M_schedule 123 = .ok (.iload 8, 2) := by decide +kernel
theorem d_M_schedule_125 : decode b_M_schedule 125 = .ok (.lshl, 1) := by decide +kernel
theorem d_M_schedule_126 : decode b_M_schedule 126 = .ok (.lload 5, 2) := by decide +kernel
theorem d_M_schedule_128 : decode b_M_schedule 128 = .ok (.bipush 28, 2) := by decide +kernel
theorem d_M_schedule_130 : decode b_M_schedule 130 = .ok (.iload 8, 2) := by decide +kernel
theorem d_M_schedule_132 : decode b_M_schedule 132 = .ok (.isub, 1) := by decide +kernel
theorem d_M_schedule_133 : decode b_M_schedule 133 = .ok (.lushr, 1) := by decide +kernel
theorem d_M_schedule_134 : decode b_M_schedule 134 = .ok (.lor, 1) := by decide +kernel
theorem d_M_schedule_135 : decode b_M_schedule 135 = .ok (.ldc2_w 74, 3) := by decide +kernel
theorem d_M_schedule_138 : decode b_M_schedule 138 = .ok (.land, 1) := by decide +kernel
theorem d_M_schedule_139 : decode b_M_schedule 139 = .ok (.lstore 5, 2) := by decide +kernel
theorem d_M_schedule_141 : decode b_M_schedule 141 = .ok (.lload_n 3, 1) := by decide +kernel
theorem d_M_schedule_142 : decode b_M_schedule 142 = .ok (.bipush 28, 2) := by decide +kernel
theorem d_M_schedule_144 : decode b_M_schedule 144 = .ok (.lshl, 1) := by decide +kernel
theorem d_M_schedule_145 : decode b_M_schedule 145 = .ok (.lload 5, 2) := by decide +kernel
theorem d_M_schedule_147 : decode b_M_schedule 147 = .ok (.lor, 1) := by decide +kernel
theorem d_M_schedule_148 : decode b_M_schedule 148 = .ok (.lstore 9, 2) := by decide +kernel
theorem d_M_schedule_150 : decode b_M_schedule 150 = .ok (.lconst 0, 1) := by decide +kernel
theorem d_M_schedule_151 : decode b_M_schedule 151 = .ok (.lstore 11, 2) := by decide +kernel
theorem d_M_schedule_153 : decode b_M_schedule 153 = .ok (.iconst 0, 1) := by decide +kernel
theorem d_M_schedule_154 : decode b_M_schedule 154 = .ok (.istore 13, 2) := by decide +kernel
theorem d_M_schedule_156 : decode b_M_schedule 156 = .ok (.iload 13, 2) := by decide +kernel
theorem d_M_schedule_158 : decode b_M_schedule 158 = .ok (.bipush 48, 2) := by decide +kernel
theorem d_M_schedule_160 : decode b_M_schedule 160 = .ok (.if_icmp .ge 30, 3) := by decide +kernel
theorem d_M_schedule_163 : decode b_M_schedule 163 = .ok (.lload 11, 2) := by decide +kernel
theorem d_M_schedule_165 : decode b_M_schedule 165 = .ok (.iconst 1, 1) := by decide +kernel
theorem d_M_schedule_166 : decode b_M_schedule 166 = .ok (.lshl, 1) := by decide +kernel
theorem d_M_schedule_167 : decode b_M_schedule 167 = .ok (.lload 9, 2) := by decide +kernel
theorem d_M_schedule_169 : decode b_M_schedule 169 = .ok (.aload_n 0, 1) := by decide +kernel
theorem d_M_schedule_170 : decode b_M_schedule 170 = .ok (.getfield 16, 3) := by decide +kernel
theorem d_M_schedule_173 : decode b_M_schedule 173 = .ok (.iload 13, 2) := by decide +kernel
theorem d_M_schedule_175 : decode b_M_schedule 175 = .ok (.iaload, 1) := by decide +kernel
theorem d_M_schedule_176 : decode b_M_schedule 176 = .ok (.bipush 56, 2) := by decide +kernel
theorem d_M_schedule_178 : decode b_M_schedule 178 = .ok (.invokestatic 70, 3) := by decide +kernel
theorem d_M_schedule_181 : decode b_M_schedule 181 = .ok (.lor, 1) := by decide +kernel
theorem d_M_schedule_182 : decode b_M_schedule 182 = .ok (.lstore 11, 2) := by decide +kernel
theorem d_M_schedule_184 : decode b_M_schedule 184 = .ok (.iinc 13 1, 3) := by decide +kernel
theorem d_M_schedule_187 : decode b_M_schedule 187 = .ok (.goto (-31), 3) := by decide +kernel
theorem d_M_schedule_190 : decode b_M_schedule 190 = .ok (.aload_n 0, 1) := by decide +kernel
theorem d_M_schedule_191 : decode b_M_schedule 191 = .ok (.getfield 63, 3) := by decide +kernel
theorem d_M_schedule_194 : decode b_M_schedule 194 = .ok (.iload 7, 2) := by decide +kernel
theorem d_M_schedule_196 : decode b_M_schedule 196 = .ok (.lload 11, 2) := by decide +kernel
theorem d_M_schedule_198 : decode b_M_schedule 198 = .ok (.lastore, 1) := by decide +kernel
theorem d_M_schedule_199 : decode b_M_schedule 199 = .ok (.iinc 7 1, 3) := by decide +kernel
theorem d_M_schedule_202 : decode b_M_schedule 202 = .ok (.goto (-137), 3) := by decide +kernel
theorem d_M_schedule_205 : decode b_M_schedule 205 = .ok (.return_, 1) := by decide +kernel
set_option maxRecDepth 100000 in
set_option maxHeartbeats 4000000 in
theorem c_M_schedule (l : Launch) (G : Gt) (zm zmp zm1 zm2 zmx zmh zmt zmu zme zma zmb zmk zmc zmd zmi zmo zmf zmg zmn : Nat) (th ys : Int32) (yl yr : Int64) (yv : Nat → Int64) (yt yu ye : Nat → Int32) (ya yb : Nat → Int64) (yk : Nat → Int32) (yc yd yi : Nat → Int64) (yo : Nat → Int32) (yf yg yn : Nat → Int64) (yp yq : Int64) (yw : Int32) (yx : Int64) (k : Int64) : CtV l G y_M_schedule b_M_schedule 14 none rm_M_schedule E0 [.ref zm, .long k] [ob zm 5 [.ref zmp, .ref zm1, .ref zm2, .ref zmx, .int th, .ref zmh, .ref zmt, .int ys, .long yl, .long yr, .ref zmu, .ref zme, .ref zma, .ref zmb, .ref zmk, .ref zmc, .ref zmd, .ref zmi, .ref zmo, .ref zmf, .ref zmg, .ref zmn, .long yp, .long yq, .int yw, .long yx], aI G zmp 32 tb_perm, aI G zm1 56 tb_c1, aI G zm2 48 tb_c2, aI G zmx 512 tb_box, aJ G zmh 6 yv, aZ G zmt 6 yt, aI G zmu 16 yu, aZ G zme 16 ye, aJ G zma 16 ya, aJ G zmb 16 yb, aZ G zmk 8 yk, aJ G zmc 8 yc, aJ G zmd 8 yd, aJ G zmi 8 yi, aI G zmo 8 yo, aJ G zmf 5 yf, aJ G zmg 8 yg, aJ G zmn 16 yn] (fun (_ : Unit) => True) (fun _ => [ob zm 5 [.ref zmp, .ref zm1, .ref zm2, .ref zmx, .int th, .ref zmh, .ref zmt, .int ys, .long yl, .long yr, .ref zmu, .ref zme, .ref zma, .ref zmb, .ref zmk, .ref zmc, .ref zmd, .ref zmi, .ref zmo, .ref zmf, .ref zmg, .ref zmn, .long yp, .long yq, .int yw, .long yx], aI G zmp 32 tb_perm, aI G zm1 56 tb_c1, aI G zm2 48 tb_c2, aI G zmx 512 tb_box, aJ G zmh 6 yv, aZ G zmt 6 yt, aI G zmu 16 yu, aZ G zme 16 ye, aJ G zma 16 ya, aJ G zmb 16 yb, aZ G zmk 8 yk, aJ G zmc 8 yc, aJ G zmd 8 yd, aJ G zmi 8 yi, aI G zmo 8 yo, aJ G zmf 5 yf, aJ G zmg 8 yg, aJ G zmn 16 (rnd k yn 16)]) 0 0 := by
  refine Ct.of (Qp := fun A => va_Qv _ (qB G A _) A) Stb_0 (by decide) (Nat.le_of_ble_eq_true rfl) ?_
  intro p e s m args below meth c A X hE hr hlk hini
  refine pv_eql (ll2 := [(0, .ref zm), (1, .long k)]) rfl ?_
  refine pv_lconst X 0 d_M_schedule_0 (by decide) ?_
  refine pv_lstore_n (ll2 := [(3, .long (0 : Int64)), (0, .ref zm), (1, .long k)]) X d_M_schedule_1 (by decide) rfl ?_
  refine pv_lconst X 0 d_M_schedule_2 (by decide) ?_
  refine pv_lstore (ll2 := [(5, .long (0 : Int64)), (3, .long (0 : Int64)), (0, .ref zm), (1, .long k)]) X d_M_schedule_3 (by decide) rfl ?_
  refine pv_iconst X 0 d_M_schedule_5 (by decide) ?_
  refine pv_istore (ll2 := [(7, .int 0), (5, .long (0 : Int64)), (3, .long (0 : Int64)), (0, .ref zm), (1, .long k)]) X d_M_schedule_6 (by decide) rfl ?_
  refine pv_lpick (ll2 := [(7, .int (nI 0)), (3, .long (pk k 64 tb_c1 0)), (5, .long (pk k 64 (fun j => tb_c1 (28 + j)) 0)), (0, .ref zm), (1, .long k)]) [0, 2, 1, 3, 4] rfl ?_
  refine pv_eqw (ws2 := [ob zm 5 [.ref zmp, .ref zm1, .ref zm2, .ref zmx, .int th, .ref zmh, .ref zmt, .int ys, .long yl, .long yr, .ref zmu, .ref zme, .ref zma, .ref zmb, .ref zmk, .ref zmc, .ref zmd, .ref zmi, .ref zmo, .ref zmf, .ref zmg, .ref zmn, .long yp, .long yq, .int yw, .long yx], aI G zmp 32 tb_perm, aI G zm1 56 tb_c1, aI G zm2 48 tb_c2, aI G zmx 512 tb_box, aJ G zmh 6 yv, aZ G zmt 6 yt, aI G zmu 16 yu, aZ G zme 16 ye, aJ G zma 16 ya, aJ G zmb 16 yb, aZ G zmk 8 yk, aJ G zmc 8 yc, aJ G zmd 8 yd, aJ G zmi 8 yi, aI G zmo 8 yo, aJ G zmf 5 yf, aJ G zmg 8 yg, aJ G zmn 16 yn]) rfl ?_
  refine pv_loop 28 (fun i => True) (fun i => [ob zm 5 [.ref zmp, .ref zm1, .ref zm2, .ref zmx, .int th, .ref zmh, .ref zmt, .int ys, .long yl, .long yr, .ref zmu, .ref zme, .ref zma, .ref zmb, .ref zmk, .ref zmc, .ref zmd, .ref zmi, .ref zmo, .ref zmf, .ref zmg, .ref zmn, .long yp, .long yq, .int yw, .long yx], aI G zmp 32 tb_perm, aI G zm1 56 tb_c1, aI G zm2 48 tb_c2, aI G zmx 512 tb_box, aJ G zmh 6 yv, aZ G zmt 6 yt, aI G zmu 16 yu, aZ G zme 16 ye, aJ G zma 16 ya, aJ G zmb 16 yb, aZ G zmk 8 yk, aJ G zmc 8 yc, aJ G zmd 8 yd, aJ G zmi 8 yi, aI G zmo 8 yo, aJ G zmf 5 yf, aJ G zmg 8 yg, aJ G zmn 16 yn]) (fun i => [(7, .int (nI i)), (3, .long (pk k 64 tb_c1 i)), (5, .long (pk k 64 (fun j => tb_c1 (28 + j)) i)), (0, .ref zm), (1, .long k)]) 0 (by omega) trivial (fun hI_i => ?_) (fun i h_i hI_i ih_i => ?_)
  · skip
    refine pv_iload X 0 d_M_schedule_8 rfl ?_
    refine pv_bipush X 28 d_M_schedule_10 (by decide) ?_
    refine pv_icmp_ge X 62 d_M_schedule_12 rfl (fun _ => ?_) (fun h => absurd (by decide) h)
    refine pv_iconst X 0 d_M_schedule_62 (by decide) ?_
    refine pv_istore (ll2 := [(7, .int 0), (3, .long (pk k 64 tb_c1 28)), (5, .long (pk k 64 (fun j => tb_c1 (28 + j)) 28)), (0, .ref zm), (1, .long k)]) X d_M_schedule_63 (by decide) rfl ?_
    refine pv_lpick (ll2 := [(7, .int (nI 0)), (3, .long (mhi k 0)), (5, .long (mlo k 0)), (0, .ref zm), (1, .long k)]) [0, 1, 2, 3, 4] rfl ?_
    refine pv_eqw (ws2 := [ob zm 5 [.ref zmp, .ref zm1, .ref zm2, .ref zmx, .int th, .ref zmh, .ref zmt, .int ys, .long yl, .long yr, .ref zmu, .ref zme, .ref zma, .ref zmb, .ref zmk, .ref zmc, .ref zmd, .ref zmi, .ref zmo, .ref zmf, .ref zmg, .ref zmn, .long yp, .long yq, .int yw, .long yx], aI G zmp 32 tb_perm, aI G zm1 56 tb_c1, aI G zm2 48 tb_c2, aI G zmx 512 tb_box, aJ G zmh 6 yv, aZ G zmt 6 yt, aI G zmu 16 yu, aZ G zme 16 ye, aJ G zma 16 ya, aJ G zmb 16 yb, aZ G zmk 8 yk, aJ G zmc 8 yc, aJ G zmd 8 yd, aJ G zmi 8 yi, aI G zmo 8 yo, aJ G zmf 5 yf, aJ G zmg 8 yg, aJ G zmn 16 (rnd k yn 0)]) (by rw [← rnd_0]) ?_
    refine pv_loop 16 (fun r => True) (fun r => [ob zm 5 [.ref zmp, .ref zm1, .ref zm2, .ref zmx, .int th, .ref zmh, .ref zmt, .int ys, .long yl, .long yr, .ref zmu, .ref zme, .ref zma, .ref zmb, .ref zmk, .ref zmc, .ref zmd, .ref zmi, .ref zmo, .ref zmf, .ref zmg, .ref zmn, .long yp, .long yq, .int yw, .long yx], aI G zmp 32 tb_perm, aI G zm1 56 tb_c1, aI G zm2 48 tb_c2, aI G zmx 512 tb_box, aJ G zmh 6 yv, aZ G zmt 6 yt, aI G zmu 16 yu, aZ G zme 16 ye, aJ G zma 16 ya, aJ G zmb 16 yb, aZ G zmk 8 yk, aJ G zmc 8 yc, aJ G zmd 8 yd, aJ G zmi 8 yi, aI G zmo 8 yo, aJ G zmf 5 yf, aJ G zmg 8 yg, aJ G zmn 16 (rnd k yn r)]) (fun r => [(7, .int (nI r)), (3, .long (mhi k r)), (5, .long (mlo k r)), (0, .ref zm), (1, .long k)]) 0 (by omega) trivial (fun hI_r => ?_) (fun r h_r hI_r ih_r => ?_)
    · skip
      refine pv_iload X 0 d_M_schedule_65 rfl ?_
      refine pv_bipush X 16 d_M_schedule_67 (by decide) ?_
      refine pv_icmp_ge X 205 d_M_schedule_69 rfl (fun _ => ?_) (fun h => absurd (by decide) h)
      exact pv_vret X hr hlk () trivial rfl d_M_schedule_205
    · skip
      refine pv_iload X 0 d_M_schedule_65 rfl ?_
      refine pv_bipush X 16 d_M_schedule_67 (by decide) ?_
      refine pv_icmp_ge X 205 d_M_schedule_69 rfl (fun h => absurd h (nI_ge h_r (by decide))) (fun _ => ?_)
      refine pv_iload X 0 d_M_schedule_72 rfl ?_
      refine pv_if_eq X 97 d_M_schedule_74 rfl (fun h1 => ?_) (fun h1n => ?_)
      · skip
        refine pv_iconst X 1 d_M_schedule_97 (by decide) ?_
        refine pv_goto X 102 d_M_schedule_98 rfl ?_
        refine pv_topi (mturn r) (by unfold mturn; rw [if_pos h1]) ?_
        refine pv_istore (ll2 := [(8, .int (mturn r)), (7, .int (nI r)), (3, .long (mhi k r)), (5, .long (mlo k r)), (0, .ref zm), (1, .long k)]) X d_M_schedule_102 (by decide) rfl ?_
        refine pv_lload_n X 2 d_M_schedule_104 rfl ?_
        refine pv_iload X 0 d_M_schedule_105 rfl ?_
        refine pv_lshl X d_M_schedule_107 ?_
        refine pv_lload_n X 2 d_M_schedule_108 rfl ?_
        refine pv_bipush X 28 d_M_schedule_109 (by decide) ?_
        refine pv_iload X 0 d_M_schedule_111 rfl ?_
        refine pv_isub X d_M_schedule_113 ?_
        refine pv_lushr X d_M_schedule_114 ?_
        refine pv_lor X d_M_schedule_115 ?_
        refine pv_ldc2_w X m_697 d_M_schedule_116 ?_
        refine pv_land X d_M_schedule_119 ?_
        refine pv_lstore_n (ll2 := [(3, .long ((((mhi k r) <<< ((mturn r).toInt64 &&& 63)) ||| (((mhi k r).toUInt64 >>> ((28 - (mturn r)).toInt64.toUInt64 &&& Int64.toUInt64 63)).toInt64)) &&& (268435455 : Int64))), (8, .int (mturn r)), (7, .int (nI r)), (5, .long (mlo k r)), (0, .ref zm), (1, .long k)]) X d_M_schedule_120 (by decide) rfl ?_
        refine pv_lload X 3 d_M_schedule_121 rfl ?_
        refine pv_iload X 1 d_M_schedule_123 rfl ?_
        refine pv_lshl X d_M_schedule_125 ?_
        refine pv_lload X 3 d_M_schedule_126 rfl ?_
        refine pv_bipush X 28 d_M_schedule_128 (by decide) ?_
        refine pv_iload X 1 d_M_schedule_130 rfl ?_
        refine pv_isub X d_M_schedule_132 ?_
        refine pv_lushr X d_M_schedule_133 ?_
        refine pv_lor X d_M_schedule_134 ?_
        refine pv_ldc2_w X m_697 d_M_schedule_135 ?_
        refine pv_land X d_M_schedule_138 ?_
        refine pv_lstore (ll2 := [(5, .long ((((mlo k r) <<< ((mturn r).toInt64 &&& 63)) ||| (((mlo k r).toUInt64 >>> ((28 - (mturn r)).toInt64.toUInt64 &&& Int64.toUInt64 63)).toInt64)) &&& (268435455 : Int64))), (3, .long ((((mhi k r) <<< ((mturn r).toInt64 &&& 63)) ||| (((mhi k r).toUInt64 >>> ((28 - (mturn r)).toInt64.toUInt64 &&& Int64.toUInt64 63)).toInt64)) &&& (268435455 : Int64))), (8, .int (mturn r)), (7, .int (nI r)), (0, .ref zm), (1, .long k)]) X d_M_schedule_139 (by decide) rfl ?_
        refine pv_lload_n X 1 d_M_schedule_141 rfl ?_
        refine pv_bipush X 28 d_M_schedule_142 (by decide) ?_
        refine pv_lshl X d_M_schedule_144 ?_
        refine pv_lload X 0 d_M_schedule_145 rfl ?_
        refine pv_lor X d_M_schedule_147 ?_
        refine pv_lstore (ll2 := [(9, .long ((((((mhi k r) <<< ((mturn r).toInt64 &&& 63)) ||| (((mhi k r).toUInt64 >>> ((28 - (mturn r)).toInt64.toUInt64 &&& Int64.toUInt64 63)).toInt64)) &&& (268435455 : Int64)) <<< ((28 : Int32).toInt64 &&& 63)) ||| ((((mlo k r) <<< ((mturn r).toInt64 &&& 63)) ||| (((mlo k r).toUInt64 >>> ((28 - (mturn r)).toInt64.toUInt64 &&& Int64.toUInt64 63)).toInt64)) &&& (268435455 : Int64)))), (5, .long ((((mlo k r) <<< ((mturn r).toInt64 &&& 63)) ||| (((mlo k r).toUInt64 >>> ((28 - (mturn r)).toInt64.toUInt64 &&& Int64.toUInt64 63)).toInt64)) &&& (268435455 : Int64))), (3, .long ((((mhi k r) <<< ((mturn r).toInt64 &&& 63)) ||| (((mhi k r).toUInt64 >>> ((28 - (mturn r)).toInt64.toUInt64 &&& Int64.toUInt64 63)).toInt64)) &&& (268435455 : Int64))), (8, .int (mturn r)), (7, .int (nI r)), (0, .ref zm), (1, .long k)]) X d_M_schedule_148 (by decide) rfl ?_
        refine pv_lconst X 0 d_M_schedule_150 (by decide) ?_
        refine pv_lstore (ll2 := [(11, .long (0 : Int64)), (9, .long ((((((mhi k r) <<< ((mturn r).toInt64 &&& 63)) ||| (((mhi k r).toUInt64 >>> ((28 - (mturn r)).toInt64.toUInt64 &&& Int64.toUInt64 63)).toInt64)) &&& (268435455 : Int64)) <<< ((28 : Int32).toInt64 &&& 63)) ||| ((((mlo k r) <<< ((mturn r).toInt64 &&& 63)) ||| (((mlo k r).toUInt64 >>> ((28 - (mturn r)).toInt64.toUInt64 &&& Int64.toUInt64 63)).toInt64)) &&& (268435455 : Int64)))), (5, .long ((((mlo k r) <<< ((mturn r).toInt64 &&& 63)) ||| (((mlo k r).toUInt64 >>> ((28 - (mturn r)).toInt64.toUInt64 &&& Int64.toUInt64 63)).toInt64)) &&& (268435455 : Int64))), (3, .long ((((mhi k r) <<< ((mturn r).toInt64 &&& 63)) ||| (((mhi k r).toUInt64 >>> ((28 - (mturn r)).toInt64.toUInt64 &&& Int64.toUInt64 63)).toInt64)) &&& (268435455 : Int64))), (8, .int (mturn r)), (7, .int (nI r)), (0, .ref zm), (1, .long k)]) X d_M_schedule_151 (by decide) rfl ?_
        refine pv_iconst X 0 d_M_schedule_153 (by decide) ?_
        refine pv_istore (ll2 := [(13, .int 0), (11, .long (0 : Int64)), (9, .long ((((((mhi k r) <<< ((mturn r).toInt64 &&& 63)) ||| (((mhi k r).toUInt64 >>> ((28 - (mturn r)).toInt64.toUInt64 &&& Int64.toUInt64 63)).toInt64)) &&& (268435455 : Int64)) <<< ((28 : Int32).toInt64 &&& 63)) ||| ((((mlo k r) <<< ((mturn r).toInt64 &&& 63)) ||| (((mlo k r).toUInt64 >>> ((28 - (mturn r)).toInt64.toUInt64 &&& Int64.toUInt64 63)).toInt64)) &&& (268435455 : Int64)))), (5, .long ((((mlo k r) <<< ((mturn r).toInt64 &&& 63)) ||| (((mlo k r).toUInt64 >>> ((28 - (mturn r)).toInt64.toUInt64 &&& Int64.toUInt64 63)).toInt64)) &&& (268435455 : Int64))), (3, .long ((((mhi k r) <<< ((mturn r).toInt64 &&& 63)) ||| (((mhi k r).toUInt64 >>> ((28 - (mturn r)).toInt64.toUInt64 &&& Int64.toUInt64 63)).toInt64)) &&& (268435455 : Int64))), (8, .int (mturn r)), (7, .int (nI r)), (0, .ref zm), (1, .long k)]) X d_M_schedule_154 (by decide) rfl ?_
        refine pv_lpick (ll2 := [(13, .int (nI 0)), (11, .long (pk (mbo k r) 56 tb_c2 0)), (9, .long (mbo k r)), (7, .int (nI r)), (3, .long (mhi k (r + 1))), (5, .long (mlo k (r + 1))), (0, .ref zm), (1, .long k)]) [0, 1, 2, 6, 4, 3, 7, 8] rfl ?_
        refine pv_eqw (ws2 := [ob zm 5 [.ref zmp, .ref zm1, .ref zm2, .ref zmx, .int th, .ref zmh, .ref zmt, .int ys, .long yl, .long yr, .ref zmu, .ref zme, .ref zma, .ref zmb, .ref zmk, .ref zmc, .ref zmd, .ref zmi, .ref zmo, .ref zmf, .ref zmg, .ref zmn, .long yp, .long yq, .int yw, .long yx], aI G zmp 32 tb_perm, aI G zm1 56 tb_c1, aI G zm2 48 tb_c2, aI G zmx 512 tb_box, aJ G zmh 6 yv, aZ G zmt 6 yt, aI G zmu 16 yu, aZ G zme 16 ye, aJ G zma 16 ya, aJ G zmb 16 yb, aZ G zmk 8 yk, aJ G zmc 8 yc, aJ G zmd 8 yd, aJ G zmi 8 yi, aI G zmo 8 yo, aJ G zmf 5 yf, aJ G zmg 8 yg, aJ G zmn 16 (rnd k yn r)]) rfl ?_
        refine pv_loop 48 (fun j => True) (fun j => [ob zm 5 [.ref zmp, .ref zm1, .ref zm2, .ref zmx, .int th, .ref zmh, .ref zmt, .int ys, .long yl, .long yr, .ref zmu, .ref zme, .ref zma, .ref zmb, .ref zmk, .ref zmc, .ref zmd, .ref zmi, .ref zmo, .ref zmf, .ref zmg, .ref zmn, .long yp, .long yq, .int yw, .long yx], aI G zmp 32 tb_perm, aI G zm1 56 tb_c1, aI G zm2 48 tb_c2, aI G zmx 512 tb_box, aJ G zmh 6 yv, aZ G zmt 6 yt, aI G zmu 16 yu, aZ G zme 16 ye, aJ G zma 16 ya, aJ G zmb 16 yb, aZ G zmk 8 yk, aJ G zmc 8 yc, aJ G zmd 8 yd, aJ G zmi 8 yi, aI G zmo 8 yo, aJ G zmf 5 yf, aJ G zmg 8 yg, aJ G zmn 16 (rnd k yn r)]) (fun j => [(13, .int (nI j)), (11, .long (pk (mbo k r) 56 tb_c2 j)), (9, .long (mbo k r)), (7, .int (nI r)), (3, .long (mhi k (r + 1))), (5, .long (mlo k (r + 1))), (0, .ref zm), (1, .long k)]) 0 (by omega) trivial (fun hI_j => ?_) (fun j h_j hI_j ih_j => ?_)
        · skip
          refine pv_iload X 0 d_M_schedule_156 rfl ?_
          refine pv_bipush X 48 d_M_schedule_158 (by decide) ?_
          refine pv_icmp_ge X 190 d_M_schedule_160 rfl (fun _ => ?_) (fun h => absurd (by decide) h)
          refine pv_aload_n X 6 d_M_schedule_190 rfl ?_
          refine pv_get X 0 21 u_M_in m_595 rfl rfl (by decide) ⟨rfl, rfl, rfl⟩ rfl d_M_schedule_191 ?_
          refine pv_iload X 3 d_M_schedule_194 rfl ?_
          refine pv_lload X 1 d_M_schedule_196 rfl ?_
          refine pv_last (ws2 := [ob zm 5 [.ref zmp, .ref zm1, .ref zm2, .ref zmx, .int th, .ref zmh, .ref zmt, .int ys, .long yl, .long yr, .ref zmu, .ref zme, .ref zma, .ref zmb, .ref zmk, .ref zmc, .ref zmd, .ref zmi, .ref zmo, .ref zmf, .ref zmg, .ref zmn, .long yp, .long yq, .int yw, .long yx], aI G zmp 32 tb_perm, aI G zm1 56 tb_c1, aI G zm2 48 tb_c2, aI G zmx 512 tb_box, aJ G zmh 6 yv, aZ G zmt 6 yt, aI G zmu 16 yu, aZ G zme 16 ye, aJ G zma 16 ya, aJ G zmb 16 yb, aZ G zmk 8 yk, aJ G zmc 8 yc, aJ G zmd 8 yd, aJ G zmi 8 yi, aI G zmo 8 yo, aJ G zmf 5 yf, aJ G zmg 8 yg, aJ G zmn 16 (vp_updL (rnd k yn r) r (pk (mbo k r) 56 tb_c2 48))]) X 18 rfl (vp_in_nI (by omega) (by omega)) (by rw [(nI_clamp (by omega))]; rfl) d_M_schedule_198 ?_
          refine pv_iinc (ll2 := [(7, .int (nI (r + 1))), (13, .int (nI 48)), (11, .long (pk (mbo k r) 56 tb_c2 48)), (9, .long (mbo k r)), (3, .long (mhi k (r + 1))), (5, .long (mlo k (r + 1))), (0, .ref zm), (1, .long k)]) X 3 (nI (r + 1)) d_M_schedule_199 rfl (nI_1 _) (by decide) rfl ?_
          refine pv_goto X 65 d_M_schedule_202 rfl ?_
          refine pv_lpick (ll2 := [(7, .int (nI (r + 1))), (3, .long (mhi k (r + 1))), (5, .long (mlo k (r + 1))), (0, .ref zm), (1, .long k)]) [0, 4, 5, 6, 7] rfl ?_
          refine pv_eqw (ws2 := [ob zm 5 [.ref zmp, .ref zm1, .ref zm2, .ref zmx, .int th, .ref zmh, .ref zmt, .int ys, .long yl, .long yr, .ref zmu, .ref zme, .ref zma, .ref zmb, .ref zmk, .ref zmc, .ref zmd, .ref zmi, .ref zmo, .ref zmf, .ref zmg, .ref zmn, .long yp, .long yq, .int yw, .long yx], aI G zmp 32 tb_perm, aI G zm1 56 tb_c1, aI G zm2 48 tb_c2, aI G zmx 512 tb_box, aJ G zmh 6 yv, aZ G zmt 6 yt, aI G zmu 16 yu, aZ G zme 16 ye, aJ G zma 16 ya, aJ G zmb 16 yb, aZ G zmk 8 yk, aJ G zmc 8 yc, aJ G zmd 8 yd, aJ G zmi 8 yi, aI G zmo 8 yo, aJ G zmf 5 yf, aJ G zmg 8 yg, aJ G zmn 16 (rnd k yn (r + 1))]) (by rw [← rnd_s]; rfl) ?_
          exact ih_r trivial
        · skip
          refine pv_iload X 0 d_M_schedule_156 rfl ?_
          refine pv_bipush X 48 d_M_schedule_158 (by decide) ?_
          refine pv_icmp_ge X 190 d_M_schedule_160 rfl (fun h => absurd h (nI_ge h_j (by decide))) (fun _ => ?_)
          refine pv_lload X 1 d_M_schedule_163 rfl ?_
          refine pv_iconst X 1 d_M_schedule_165 (by decide) ?_
          refine pv_lshl X d_M_schedule_166 ?_
          refine pv_lload X 2 d_M_schedule_167 rfl ?_
          refine pv_aload_n X 6 d_M_schedule_169 rfl ?_
          refine pv_get X 0 2 u_M_in m_576 rfl rfl (by decide) ⟨rfl, rfl, rfl⟩ rfl d_M_schedule_170 ?_
          refine pv_iload X 0 d_M_schedule_173 rfl ?_
          refine pv_iald X 3 rfl (vp_in_nI (by omega) (by omega)) d_M_schedule_175 ?_
          refine pv_topi (tb_c2 j) (congrArg tb_c2 (nI_clamp (by omega))) ?_
          refine pv_bipush X 56 d_M_schedule_176 (by decide) ?_
          refine pv_calll0 X (rn_S X (c_M_bit l G (mbo k r) (tb_c2 j) 56) trivial mf_M_bit m_694 m_695 rfl (by decide) (by decide) rfl (Nat.le_of_ble_eq_true rfl) d_M_schedule_178) ?_
          refine pv_lor X d_M_schedule_181 ?_
          refine pv_lstore (ll2 := [(11, .long (((pk (mbo k r) 56 tb_c2 j) <<< ((1 : Int32).toInt64 &&& 63)) ||| (f_M_bit (mbo k r) (tb_c2 j) 56))), (13, .int (nI j)), (9, .long (mbo k r)), (7, .int (nI r)), (3, .long (mhi k (r + 1))), (5, .long (mlo k (r + 1))), (0, .ref zm), (1, .long k)]) X d_M_schedule_182 (by decide) rfl ?_
          refine pv_iinc (ll2 := [(13, .int (nI (j + 1))), (11, .long (((pk (mbo k r) 56 tb_c2 j) <<< ((1 : Int32).toInt64 &&& 63)) ||| (f_M_bit (mbo k r) (tb_c2 j) 56))), (9, .long (mbo k r)), (7, .int (nI r)), (3, .long (mhi k (r + 1))), (5, .long (mlo k (r + 1))), (0, .ref zm), (1, .long k)]) X 1 (nI (j + 1)) d_M_schedule_184 rfl (nI_1 _) (by decide) rfl ?_
          refine pv_goto X 156 d_M_schedule_187 rfl ?_
          refine pv_lpick (ll2 := [(13, .int (nI (j + 1))), (11, .long (pk (mbo k r) 56 tb_c2 (j + 1))), (9, .long (mbo k r)), (7, .int (nI r)), (3, .long (mhi k (r + 1))), (5, .long (mlo k (r + 1))), (0, .ref zm), (1, .long k)]) [0, 1, 2, 3, 4, 5, 6, 7] rfl ?_
          refine pv_eqw (ws2 := [ob zm 5 [.ref zmp, .ref zm1, .ref zm2, .ref zmx, .int th, .ref zmh, .ref zmt, .int ys, .long yl, .long yr, .ref zmu, .ref zme, .ref zma, .ref zmb, .ref zmk, .ref zmc, .ref zmd, .ref zmi, .ref zmo, .ref zmf, .ref zmg, .ref zmn, .long yp, .long yq, .int yw, .long yx], aI G zmp 32 tb_perm, aI G zm1 56 tb_c1, aI G zm2 48 tb_c2, aI G zmx 512 tb_box, aJ G zmh 6 yv, aZ G zmt 6 yt, aI G zmu 16 yu, aZ G zme 16 ye, aJ G zma 16 ya, aJ G zmb 16 yb, aZ G zmk 8 yk, aJ G zmc 8 yc, aJ G zmd 8 yd, aJ G zmi 8 yi, aI G zmo 8 yo, aJ G zmf 5 yf, aJ G zmg 8 yg, aJ G zmn 16 (rnd k yn r)]) rfl ?_
          exact ih_j trivial
      · skip
        refine pv_iload X 0 d_M_schedule_77 rfl ?_
        refine pv_iconst X 1 d_M_schedule_79 (by decide) ?_
        refine pv_icmp_eq X 97 d_M_schedule_80 rfl (fun h3 => ?_) (fun h3n => ?_)
        · skip
          refine pv_iconst X 1 d_M_schedule_97 (by decide) ?_
          refine pv_goto X 102 d_M_schedule_98 rfl ?_
          refine pv_topi (mturn r) (by unfold mturn; rw [if_neg h1n, if_pos h3]) ?_
          refine pv_istore (ll2 := [(8, .int (mturn r)), (7, .int (nI r)), (3, .long (mhi k r)), (5, .long (mlo k r)), (0, .ref zm), (1, .long k)]) X d_M_schedule_102 (by decide) rfl ?_
          refine pv_lload_n X 2 d_M_schedule_104 rfl ?_
          refine pv_iload X 0 d_M_schedule_105 rfl ?_
          refine pv_lshl X d_M_schedule_107 ?_
          refine pv_lload_n X 2 d_M_schedule_108 rfl ?_
          refine pv_bipush X 28 d_M_schedule_109 (by decide) ?_
          refine pv_iload X 0 d_M_schedule_111 rfl ?_
          refine pv_isub X d_M_schedule_113 ?_
          refine pv_lushr X d_M_schedule_114 ?_
          refine pv_lor X d_M_schedule_115 ?_
          refine pv_ldc2_w X m_697 d_M_schedule_116 ?_
          refine pv_land X d_M_schedule_119 ?_
          refine pv_lstore_n (ll2 := [(3, .long ((((mhi k r) <<< ((mturn r).toInt64 &&& 63)) ||| (((mhi k r).toUInt64 >>> ((28 - (mturn r)).toInt64.toUInt64 &&& Int64.toUInt64 63)).toInt64)) &&& (268435455 : Int64))), (8, .int (mturn r)), (7, .int (nI r)), (5, .long (mlo k r)), (0, .ref zm), (1, .long k)]) X d_M_schedule_120 (by decide) rfl ?_
          refine pv_lload X 3 d_M_schedule_121 rfl ?_
          refine pv_iload X 1 d_M_schedule_123 rfl ?_
          refine pv_lshl X d_M_schedule_125 ?_
          refine pv_lload X 3 d_M_schedule_126 rfl ?_
          refine pv_bipush X 28 d_M_schedule_128 (by decide) ?_
          refine pv_iload X 1 d_M_schedule_130 rfl ?_
          refine pv_isub X d_M_schedule_132 ?_
          refine pv_lushr X d_M_schedule_133 ?_
          refine pv_lor X d_M_schedule_134 ?_
          refine pv_ldc2_w X m_697 d_M_schedule_135 ?_
          refine pv_land X d_M_schedule_138 ?_
          refine pv_lstore (ll2 := [(5, .long ((((mlo k r) <<< ((mturn r).toInt64 &&& 63)) ||| (((mlo k r).toUInt64 >>> ((28 - (mturn r)).toInt64.toUInt64 &&& Int64.toUInt64 63)).toInt64)) &&& (268435455 : Int64))), (3, .long ((((mhi k r) <<< ((mturn r).toInt64 &&& 63)) ||| (((mhi k r).toUInt64 >>> ((28 - (mturn r)).toInt64.toUInt64 &&& Int64.toUInt64 63)).toInt64)) &&& (268435455 : Int64))), (8, .int (mturn r)), (7, .int (nI r)), (0, .ref zm), (1, .long k)]) X d_M_schedule_139 (by decide) rfl ?_
          refine pv_lload_n X 1 d_M_schedule_141 rfl ?_
          refine pv_bipush X 28 d_M_schedule_142 (by decide) ?_
          refine pv_lshl X d_M_schedule_144 ?_
          refine pv_lload X 0 d_M_schedule_145 rfl ?_
          refine pv_lor X d_M_schedule_147 ?_
          refine pv_lstore (ll2 := [(9, .long ((((((mhi k r) <<< ((mturn r).toInt64 &&& 63)) ||| (((mhi k r).toUInt64 >>> ((28 - (mturn r)).toInt64.toUInt64 &&& Int64.toUInt64 63)).toInt64)) &&& (268435455 : Int64)) <<< ((28 : Int32).toInt64 &&& 63)) ||| ((((mlo k r) <<< ((mturn r).toInt64 &&& 63)) ||| (((mlo k r).toUInt64 >>> ((28 - (mturn r)).toInt64.toUInt64 &&& Int64.toUInt64 63)).toInt64)) &&& (268435455 : Int64)))), (5, .long ((((mlo k r) <<< ((mturn r).toInt64 &&& 63)) ||| (((mlo k r).toUInt64 >>> ((28 - (mturn r)).toInt64.toUInt64 &&& Int64.toUInt64 63)).toInt64)) &&& (268435455 : Int64))), (3, .long ((((mhi k r) <<< ((mturn r).toInt64 &&& 63)) ||| (((mhi k r).toUInt64 >>> ((28 - (mturn r)).toInt64.toUInt64 &&& Int64.toUInt64 63)).toInt64)) &&& (268435455 : Int64))), (8, .int (mturn r)), (7, .int (nI r)), (0, .ref zm), (1, .long k)]) X d_M_schedule_148 (by decide) rfl ?_
          refine pv_lconst X 0 d_M_schedule_150 (by decide) ?_
          refine pv_lstore (ll2 := [(11, .long (0 : Int64)), (9, .long ((((((mhi k r) <<< ((mturn r).toInt64 &&& 63)) ||| (((mhi k r).toUInt64 >>> ((28 - (mturn r)).toInt64.toUInt64 &&& Int64.toUInt64 63)).toInt64)) &&& (268435455 : Int64)) <<< ((28 : Int32).toInt64 &&& 63)) ||| ((((mlo k r) <<< ((mturn r).toInt64 &&& 63)) ||| (((mlo k r).toUInt64 >>> ((28 - (mturn r)).toInt64.toUInt64 &&& Int64.toUInt64 63)).toInt64)) &&& (268435455 : Int64)))), (5, .long ((((mlo k r) <<< ((mturn r).toInt64 &&& 63)) ||| (((mlo k r).toUInt64 >>> ((28 - (mturn r)).toInt64.toUInt64 &&& Int64.toUInt64 63)).toInt64)) &&& (268435455 : Int64))), (3, .long ((((mhi k r) <<< ((mturn r).toInt64 &&& 63)) ||| (((mhi k r).toUInt64 >>> ((28 - (mturn r)).toInt64.toUInt64 &&& Int64.toUInt64 63)).toInt64)) &&& (268435455 : Int64))), (8, .int (mturn r)), (7, .int (nI r)), (0, .ref zm), (1, .long k)]) X d_M_schedule_151 (by decide) rfl ?_
          refine pv_iconst X 0 d_M_schedule_153 (by decide) ?_
          refine pv_istore (ll2 := [(13, .int 0), (11, .long (0 : Int64)), (9, .long ((((((mhi k r) <<< ((mturn r).toInt64 &&& 63)) ||| (((mhi k r).toUInt64 >>> ((28 - (mturn r)).toInt64.toUInt64 &&& Int64.toUInt64 63)).toInt64)) &&& (268435455 : Int64)) <<< ((28 : Int32).toInt64 &&& 63)) ||| ((((mlo k r) <<< ((mturn r).toInt64 &&& 63)) ||| (((mlo k r).toUInt64 >>> ((28 - (mturn r)).toInt64.toUInt64 &&& Int64.toUInt64 63)).toInt64)) &&& (268435455 : Int64)))), (5, .long ((((mlo k r) <<< ((mturn r).toInt64 &&& 63)) ||| (((mlo k r).toUInt64 >>> ((28 - (mturn r)).toInt64.toUInt64 &&& Int64.toUInt64 63)).toInt64)) &&& (268435455 : Int64))), (3, .long ((((mhi k r) <<< ((mturn r).toInt64 &&& 63)) ||| (((mhi k r).toUInt64 >>> ((28 - (mturn r)).toInt64.toUInt64 &&& Int64.toUInt64 63)).toInt64)) &&& (268435455 : Int64))), (8, .int (mturn r)), (7, .int (nI r)), (0, .ref zm), (1, .long k)]) X d_M_schedule_154 (by decide) rfl ?_
          refine pv_lpick (ll2 := [(13, .int (nI 0)), (11, .long (pk (mbo k r) 56 tb_c2 0)), (9, .long (mbo k r)), (7, .int (nI r)), (3, .long (mhi k (r + 1))), (5, .long (mlo k (r + 1))), (0, .ref zm), (1, .long k)]) [0, 1, 2, 6, 4, 3, 7, 8] rfl ?_
          refine pv_eqw (ws2 := [ob zm 5 [.ref zmp, .ref zm1, .ref zm2, .ref zmx, .int th, .ref zmh, .ref zmt, .int ys, .long yl, .long yr, .ref zmu, .ref zme, .ref zma, .ref zmb, .ref zmk, .ref zmc, .ref zmd, .ref zmi, .ref zmo, .ref zmf, .ref zmg, .ref zmn, .long yp, .long yq, .int yw, .long yx], aI G zmp 32 tb_perm, aI G zm1 56 tb_c1, aI G zm2 48 tb_c2, aI G zmx 512 tb_box, aJ G zmh 6 yv, aZ G zmt 6 yt, aI G zmu 16 yu, aZ G zme 16 ye, aJ G zma 16 ya, aJ G zmb 16 yb, aZ G zmk 8 yk, aJ G zmc 8 yc, aJ G zmd 8 yd, aJ G zmi 8 yi, aI G zmo 8 yo, aJ G zmf 5 yf, aJ G zmg 8 yg, aJ G zmn 16 (rnd k yn r)]) rfl ?_
          refine pv_loop 48 (fun j => True) (fun j => [ob zm 5 [.ref zmp, .ref zm1, .ref zm2, .ref zmx, .int th, .ref zmh, .ref zmt, .int ys, .long yl, .long yr, .ref zmu, .ref zme, .ref zma, .ref zmb, .ref zmk, .ref zmc, .ref zmd, .ref zmi, .ref zmo, .ref zmf, .ref zmg, .ref zmn, .long yp, .long yq, .int yw, .long yx], aI G zmp 32 tb_perm, aI G zm1 56 tb_c1, aI G zm2 48 tb_c2, aI G zmx 512 tb_box, aJ G zmh 6 yv, aZ G zmt 6 yt, aI G zmu 16 yu, aZ G zme 16 ye, aJ G zma 16 ya, aJ G zmb 16 yb, aZ G zmk 8 yk, aJ G zmc 8 yc, aJ G zmd 8 yd, aJ G zmi 8 yi, aI G zmo 8 yo, aJ G zmf 5 yf, aJ G zmg 8 yg, aJ G zmn 16 (rnd k yn r)]) (fun j => [(13, .int (nI j)), (11, .long (pk (mbo k r) 56 tb_c2 j)), (9, .long (mbo k r)), (7, .int (nI r)), (3, .long (mhi k (r + 1))), (5, .long (mlo k (r + 1))), (0, .ref zm), (1, .long k)]) 0 (by omega) trivial (fun hI_j => ?_) (fun j h_j hI_j ih_j => ?_)
          · skip
            refine pv_iload X 0 d_M_schedule_156 rfl ?_
            refine pv_bipush X 48 d_M_schedule_158 (by decide) ?_
            refine pv_icmp_ge X 190 d_M_schedule_160 rfl (fun _ => ?_) (fun h => absurd (by decide) h)
            refine pv_aload_n X 6 d_M_schedule_190 rfl ?_
            refine pv_get X 0 21 u_M_in m_595 rfl rfl (by decide) ⟨rfl, rfl, rfl⟩ rfl d_M_schedule_191 ?_
            refine pv_iload X 3 d_M_schedule_194 rfl ?_
            refine pv_lload X 1 d_M_schedule_196 rfl ?_
            refine pv_last (ws2 := [ob zm 5 [.ref zmp, .ref zm1, .ref zm2, .ref zmx, .int th, .ref zmh, .ref zmt, .int ys, .long yl, .long yr, .ref zmu, .ref zme, .ref zma, .ref zmb, .ref zmk, .ref zmc, .ref zmd, .ref zmi, .ref zmo, .ref zmf, .ref zmg, .ref zmn, .long yp, .long yq, .int yw, .long yx], aI G zmp 32 tb_perm, aI G zm1 56 tb_c1, aI G zm2 48 tb_c2, aI G zmx 512 tb_box, aJ G zmh 6 yv, aZ G zmt 6 yt, aI G zmu 16 yu, aZ G zme 16 ye, aJ G zma 16 ya, aJ G zmb 16 yb, aZ G zmk 8 yk, aJ G zmc 8 yc, aJ G zmd 8 yd, aJ G zmi 8 yi, aI G zmo 8 yo, aJ G zmf 5 yf, aJ G zmg 8 yg, aJ G zmn 16 (vp_updL (rnd k yn r) r (pk (mbo k r) 56 tb_c2 48))]) X 18 rfl (vp_in_nI (by omega) (by omega)) (by rw [(nI_clamp (by omega))]; rfl) d_M_schedule_198 ?_
            refine pv_iinc (ll2 := [(7, .int (nI (r + 1))), (13, .int (nI 48)), (11, .long (pk (mbo k r) 56 tb_c2 48)), (9, .long (mbo k r)), (3, .long (mhi k (r + 1))), (5, .long (mlo k (r + 1))), (0, .ref zm), (1, .long k)]) X 3 (nI (r + 1)) d_M_schedule_199 rfl (nI_1 _) (by decide) rfl ?_
            refine pv_goto X 65 d_M_schedule_202 rfl ?_
            refine pv_lpick (ll2 := [(7, .int (nI (r + 1))), (3, .long (mhi k (r + 1))), (5, .long (mlo k (r + 1))), (0, .ref zm), (1, .long k)]) [0, 4, 5, 6, 7] rfl ?_
            refine pv_eqw (ws2 := [ob zm 5 [.ref zmp, .ref zm1, .ref zm2, .ref zmx, .int th, .ref zmh, .ref zmt, .int ys, .long yl, .long yr, .ref zmu, .ref zme, .ref zma, .ref zmb, .ref zmk, .ref zmc, .ref zmd, .ref zmi, .ref zmo, .ref zmf, .ref zmg, .ref zmn, .long yp, .long yq, .int yw, .long yx], aI G zmp 32 tb_perm, aI G zm1 56 tb_c1, aI G zm2 48 tb_c2, aI G zmx 512 tb_box, aJ G zmh 6 yv, aZ G zmt 6 yt, aI G zmu 16 yu, aZ G zme 16 ye, aJ G zma 16 ya, aJ G zmb 16 yb, aZ G zmk 8 yk, aJ G zmc 8 yc, aJ G zmd 8 yd, aJ G zmi 8 yi, aI G zmo 8 yo, aJ G zmf 5 yf, aJ G zmg 8 yg, aJ G zmn 16 (rnd k yn (r + 1))]) (by rw [← rnd_s]; rfl) ?_
            exact ih_r trivial
          · skip
            refine pv_iload X 0 d_M_schedule_156 rfl ?_
            refine pv_bipush X 48 d_M_schedule_158 (by decide) ?_
            refine pv_icmp_ge X 190 d_M_schedule_160 rfl (fun h => absurd h (nI_ge h_j (by decide))) (fun _ => ?_)
            refine pv_lload X 1 d_M_schedule_163 rfl ?_
            refine pv_iconst X 1 d_M_schedule_165 (by decide) ?_
            refine pv_lshl X d_M_schedule_166 ?_
            refine pv_lload X 2 d_M_schedule_167 rfl ?_
            refine pv_aload_n X 6 d_M_schedule_169 rfl ?_
            refine pv_get X 0 2 u_M_in m_576 rfl rfl (by decide) ⟨rfl, rfl, rfl⟩ rfl d_M_schedule_170 ?_
            refine pv_iload X 0 d_M_schedule_173 rfl ?_
            refine pv_iald X 3 rfl (vp_in_nI (by omega) (by omega)) d_M_schedule_175 ?_
            refine pv_topi (tb_c2 j) (congrArg tb_c2 (nI_clamp (by omega))) ?_
            refine pv_bipush X 56 d_M_schedule_176 (by decide) ?_
            refine pv_calll0 X (rn_S X (c_M_bit l G (mbo k r) (tb_c2 j) 56) trivial mf_M_bit m_694 m_695 rfl (by decide) (by decide) rfl (Nat.le_of_ble_eq_true rfl) d_M_schedule_178) ?_
            refine pv_lor X d_M_schedule_181 ?_
            refine pv_lstore (ll2 := [(11, .long (((pk (mbo k r) 56 tb_c2 j) <<< ((1 : Int32).toInt64 &&& 63)) ||| (f_M_bit (mbo k r) (tb_c2 j) 56))), (13, .int (nI j)), (9, .long (mbo k r)), (7, .int (nI r)), (3, .long (mhi k (r + 1))), (5, .long (mlo k (r + 1))), (0, .ref zm), (1, .long k)]) X d_M_schedule_182 (by decide) rfl ?_
            refine pv_iinc (ll2 := [(13, .int (nI (j + 1))), (11, .long (((pk (mbo k r) 56 tb_c2 j) <<< ((1 : Int32).toInt64 &&& 63)) ||| (f_M_bit (mbo k r) (tb_c2 j) 56))), (9, .long (mbo k r)), (7, .int (nI r)), (3, .long (mhi k (r + 1))), (5, .long (mlo k (r + 1))), (0, .ref zm), (1, .long k)]) X 1 (nI (j + 1)) d_M_schedule_184 rfl (nI_1 _) (by decide) rfl ?_
            refine pv_goto X 156 d_M_schedule_187 rfl ?_
            refine pv_lpick (ll2 := [(13, .int (nI (j + 1))), (11, .long (pk (mbo k r) 56 tb_c2 (j + 1))), (9, .long (mbo k r)), (7, .int (nI r)), (3, .long (mhi k (r + 1))), (5, .long (mlo k (r + 1))), (0, .ref zm), (1, .long k)]) [0, 1, 2, 3, 4, 5, 6, 7] rfl ?_
            refine pv_eqw (ws2 := [ob zm 5 [.ref zmp, .ref zm1, .ref zm2, .ref zmx, .int th, .ref zmh, .ref zmt, .int ys, .long yl, .long yr, .ref zmu, .ref zme, .ref zma, .ref zmb, .ref zmk, .ref zmc, .ref zmd, .ref zmi, .ref zmo, .ref zmf, .ref zmg, .ref zmn, .long yp, .long yq, .int yw, .long yx], aI G zmp 32 tb_perm, aI G zm1 56 tb_c1, aI G zm2 48 tb_c2, aI G zmx 512 tb_box, aJ G zmh 6 yv, aZ G zmt 6 yt, aI G zmu 16 yu, aZ G zme 16 ye, aJ G zma 16 ya, aJ G zmb 16 yb, aZ G zmk 8 yk, aJ G zmc 8 yc, aJ G zmd 8 yd, aJ G zmi 8 yi, aI G zmo 8 yo, aJ G zmf 5 yf, aJ G zmg 8 yg, aJ G zmn 16 (rnd k yn r)]) rfl ?_
            exact ih_j trivial
        · skip
          refine pv_iload X 0 d_M_schedule_83 rfl ?_
          refine pv_bipush X 8 d_M_schedule_85 (by decide) ?_
          refine pv_icmp_eq X 97 d_M_schedule_87 rfl (fun h5 => ?_) (fun h5n => ?_)
          · skip
            refine pv_iconst X 1 d_M_schedule_97 (by decide) ?_
            refine pv_goto X 102 d_M_schedule_98 rfl ?_
            refine pv_topi (mturn r) (by unfold mturn; rw [if_neg h1n, if_neg h3n, if_pos h5]) ?_
            refine pv_istore (ll2 := [(8, .int (mturn r)), (7, .int (nI r)), (3, .long (mhi k r)), (5, .long (mlo k r)), (0, .ref zm), (1, .long k)]) X d_M_schedule_102 (by decide) rfl ?_
            refine pv_lload_n X 2 d_M_schedule_104 rfl ?_
            refine pv_iload X 0 d_M_schedule_105 rfl ?_
            refine pv_lshl X d_M_schedule_107 ?_
            refine pv_lload_n X 2 d_M_schedule_108 rfl ?_
            refine pv_bipush X 28 d_M_schedule_109 (by decide) ?_
            refine pv_iload X 0 d_M_schedule_111 rfl ?_
            refine pv_isub X d_M_schedule_113 ?_
            refine pv_lushr X d_M_schedule_114 ?_
            refine pv_lor X d_M_schedule_115 ?_
            refine pv_ldc2_w X m_697 d_M_schedule_116 ?_
            refine pv_land X d_M_schedule_119 ?_
            refine pv_lstore_n (ll2 := [(3, .long ((((mhi k r) <<< ((mturn r).toInt64 &&& 63)) ||| (((mhi k r).toUInt64 >>> ((28 - (mturn r)).toInt64.toUInt64 &&& Int64.toUInt64 63)).toInt64)) &&& (268435455 : Int64))), (8, .int (mturn r)), (7, .int (nI r)), (5, .long (mlo k r)), (0, .ref zm), (1, .long k)]) X d_M_schedule_120 (by decide) rfl ?_
            refine pv_lload X 3 d_M_schedule_121 rfl ?_
            refine pv_iload X 1 d_M_schedule_123 rfl ?_
            refine pv_lshl X d_M_schedule_125 ?_
            refine pv_lload X 3 d_M_schedule_126 rfl ?_
            refine pv_bipush X 28 d_M_schedule_128 (by decide) ?_
            refine pv_iload X 1 d_M_schedule_130 rfl ?_
            refine pv_isub X d_M_schedule_132 ?_
            refine pv_lushr X d_M_schedule_133 ?_
            refine pv_lor X d_M_schedule_134 ?_
            refine pv_ldc2_w X m_697 d_M_schedule_135 ?_
            refine pv_land X d_M_schedule_138 ?_
            refine pv_lstore (ll2 := [(5, .long ((((mlo k r) <<< ((mturn r).toInt64 &&& 63)) ||| (((mlo k r).toUInt64 >>> ((28 - (mturn r)).toInt64.toUInt64 &&& Int64.toUInt64 63)).toInt64)) &&& (268435455 : Int64))), (3, .long ((((mhi k r) <<< ((mturn r).toInt64 &&& 63)) ||| (((mhi k r).toUInt64 >>> ((28 - (mturn r)).toInt64.toUInt64 &&& Int64.toUInt64 63)).toInt64)) &&& (268435455 : Int64))), (8, .int (mturn r)), (7, .int (nI r)), (0, .ref zm), (1, .long k)]) X d_M_schedule_139 (by decide) rfl ?_
            refine pv_lload_n X 1 d_M_schedule_141 rfl ?_
            refine pv_bipush X 28 d_M_schedule_142 (by decide) ?_
            refine pv_lshl X d_M_schedule_144 ?_
            refine pv_lload X 0 d_M_schedule_145 rfl ?_
            refine pv_lor X d_M_schedule_147 ?_
            refine pv_lstore (ll2 := [(9, .long ((((((mhi k r) <<< ((mturn r).toInt64 &&& 63)) ||| (((mhi k r).toUInt64 >>> ((28 - (mturn r)).toInt64.toUInt64 &&& Int64.toUInt64 63)).toInt64)) &&& (268435455 : Int64)) <<< ((28 : Int32).toInt64 &&& 63)) ||| ((((mlo k r) <<< ((mturn r).toInt64 &&& 63)) ||| (((mlo k r).toUInt64 >>> ((28 - (mturn r)).toInt64.toUInt64 &&& Int64.toUInt64 63)).toInt64)) &&& (268435455 : Int64)))), (5, .long ((((mlo k r) <<< ((mturn r).toInt64 &&& 63)) ||| (((mlo k r).toUInt64 >>> ((28 - (mturn r)).toInt64.toUInt64 &&& Int64.toUInt64 63)).toInt64)) &&& (268435455 : Int64))), (3, .long ((((mhi k r) <<< ((mturn r).toInt64 &&& 63)) ||| (((mhi k r).toUInt64 >>> ((28 - (mturn r)).toInt64.toUInt64 &&& Int64.toUInt64 63)).toInt64)) &&& (268435455 : Int64))), (8, .int (mturn r)), (7, .int (nI r)), (0, .ref zm), (1, .long k)]) X d_M_schedule_148 (by decide) rfl ?_
            refine pv_lconst X 0 d_M_schedule_150 (by decide) ?_
            refine pv_lstore (ll2 := [(11, .long (0 : Int64)), (9, .long ((((((mhi k r) <<< ((mturn r).toInt64 &&& 63)) ||| (((mhi k r).toUInt64 >>> ((28 - (mturn r)).toInt64.toUInt64 &&& Int64.toUInt64 63)).toInt64)) &&& (268435455 : Int64)) <<< ((28 : Int32).toInt64 &&& 63)) ||| ((((mlo k r) <<< ((mturn r).toInt64 &&& 63)) ||| (((mlo k r).toUInt64 >>> ((28 - (mturn r)).toInt64.toUInt64 &&& Int64.toUInt64 63)).toInt64)) &&& (268435455 : Int64)))), (5, .long ((((mlo k r) <<< ((mturn r).toInt64 &&& 63)) ||| (((mlo k r).toUInt64 >>> ((28 - (mturn r)).toInt64.toUInt64 &&& Int64.toUInt64 63)).toInt64)) &&& (268435455 : Int64))), (3, .long ((((mhi k r) <<< ((mturn r).toInt64 &&& 63)) ||| (((mhi k r).toUInt64 >>> ((28 - (mturn r)).toInt64.toUInt64 &&& Int64.toUInt64 63)).toInt64)) &&& (268435455 : Int64))), (8, .int (mturn r)), (7, .int (nI r)), (0, .ref zm), (1, .long k)]) X d_M_schedule_151 (by decide) rfl ?_
            refine pv_iconst X 0 d_M_schedule_153 (by decide) ?_
            refine pv_istore (ll2 := [(13, .int 0), (11, .long (0 : Int64)), (9, .long ((((((mhi k r) <<< ((mturn r).toInt64 &&& 63)) ||| (((mhi k r).toUInt64 >>> ((28 - (mturn r)).toInt64.toUInt64 &&& Int64.toUInt64 63)).toInt64)) &&& (268435455 : Int64)) <<< ((28 : Int32).toInt64 &&& 63)) ||| ((((mlo k r) <<< ((mturn r).toInt64 &&& 63)) ||| (((mlo k r).toUInt64 >>> ((28 - (mturn r)).toInt64.toUInt64 &&& Int64.toUInt64 63)).toInt64)) &&& (268435455 : Int64)))), (5, .long ((((mlo k r) <<< ((mturn r).toInt64 &&& 63)) ||| (((mlo k r).toUInt64 >>> ((28 - (mturn r)).toInt64.toUInt64 &&& Int64.toUInt64 63)).toInt64)) &&& (268435455 : Int64))), (3, .long ((((mhi k r) <<< ((mturn r).toInt64 &&& 63)) ||| (((mhi k r).toUInt64 >>> ((28 - (mturn r)).toInt64.toUInt64 &&& Int64.toUInt64 63)).toInt64)) &&& (268435455 : Int64))), (8, .int (mturn r)), (7, .int (nI r)), (0, .ref zm), (1, .long k)]) X d_M_schedule_154 (by decide) rfl ?_
            refine pv_lpick (ll2 := [(13, .int (nI 0)), (11, .long (pk (mbo k r) 56 tb_c2 0)), (9, .long (mbo k r)), (7, .int (nI r)), (3, .long (mhi k (r + 1))), (5, .long (mlo k (r + 1))), (0, .ref zm), (1, .long k)]) [0, 1, 2, 6, 4, 3, 7, 8] rfl ?_
            refine pv_eqw (ws2 := [ob zm 5 [.ref zmp, .ref zm1, .ref zm2, .ref zmx, .int th, .ref zmh, .ref zmt, .int ys, .long yl, .long yr, .ref zmu, .ref zme, .ref zma, .ref zmb, .ref zmk, .ref zmc, .ref zmd, .ref zmi, .ref zmo, .ref zmf, .ref zmg, .ref zmn, .long yp, .long yq, .int yw, .long yx], aI G zmp 32 tb_perm, aI G zm1 56 tb_c1, aI G zm2 48 tb_c2, aI G zmx 512 tb_box, aJ G zmh 6 yv, aZ G zmt 6 yt, aI G zmu 16 yu, aZ G zme 16 ye, aJ G zma 16 ya, aJ G zmb 16 yb, aZ G zmk 8 yk, aJ G zmc 8 yc, aJ G zmd 8 yd, aJ G zmi 8 yi, aI G zmo 8 yo, aJ G zmf 5 yf, aJ G zmg 8 yg, aJ G zmn 16 (rnd k yn r)]) rfl ?_
            refine pv_loop 48 (fun j => True) (fun j => [ob zm 5 [.ref zmp, .ref zm1, .ref zm2, .ref zmx, .int th, .ref zmh, .ref zmt, .int ys, .long yl, .long yr, .ref zmu, .ref zme, .ref zma, .ref zmb, .ref zmk, .ref zmc, .ref zmd, .ref zmi, .ref zmo, .ref zmf, .ref zmg, .ref zmn, .long yp, .long yq, .int yw, .long yx], aI G zmp 32 tb_perm, aI G zm1 56 tb_c1, aI G zm2 48 tb_c2, aI G zmx 512 tb_box, aJ G zmh 6 yv, aZ G zmt 6 yt, aI G zmu 16 yu, aZ G zme 16 ye, aJ G zma 16 ya, aJ G zmb 16 yb, aZ G zmk 8 yk, aJ G zmc 8 yc, aJ G zmd 8 yd, aJ G zmi 8 yi, aI G zmo 8 yo, aJ G zmf 5 yf, aJ G zmg 8 yg, aJ G zmn 16 (rnd k yn r)]) (fun j => [(13, .int (nI j)), (11, .long (pk (mbo k r) 56 tb_c2 j)), (9, .long (mbo k r)), (7, .int (nI r)), (3, .long (mhi k (r + 1))), (5, .long (mlo k (r + 1))), (0, .ref zm), (1, .long k)]) 0 (by omega) trivial (fun hI_j => ?_) (fun j h_j hI_j ih_j => ?_)
            · skip
              refine pv_iload X 0 d_M_schedule_156 rfl ?_
              refine pv_bipush X 48 d_M_schedule_158 (by decide) ?_
              refine pv_icmp_ge X 190 d_M_schedule_160 rfl (fun _ => ?_) (fun h => absurd (by decide) h)
              refine pv_aload_n X 6 d_M_schedule_190 rfl ?_
              refine pv_get X 0 21 u_M_in m_595 rfl rfl (by decide) ⟨rfl, rfl, rfl⟩ rfl d_M_schedule_191 ?_
              refine pv_iload X 3 d_M_schedule_194 rfl ?_
              refine pv_lload X 1 d_M_schedule_196 rfl ?_
              refine pv_last (ws2 := [ob zm 5 [.ref zmp, .ref zm1, .ref zm2, .ref zmx, .int th, .ref zmh, .ref zmt, .int ys, .long yl, .long yr, .ref zmu, .ref zme, .ref zma, .ref zmb, .ref zmk, .ref zmc, .ref zmd, .ref zmi, .ref zmo, .ref zmf, .ref zmg, .ref zmn, .long yp, .long yq, .int yw, .long yx], aI G zmp 32 tb_perm, aI G zm1 56 tb_c1, aI G zm2 48 tb_c2, aI G zmx 512 tb_box, aJ G zmh 6 yv, aZ G zmt 6 yt, aI G zmu 16 yu, aZ G zme 16 ye, aJ G zma 16 ya, aJ G zmb 16 yb, aZ G zmk 8 yk, aJ G zmc 8 yc, aJ G zmd 8 yd, aJ G zmi 8 yi, aI G zmo 8 yo, aJ G zmf 5 yf, aJ G zmg 8 yg, aJ G zmn 16 (vp_updL (rnd k yn r) r (pk (mbo k r) 56 tb_c2 48))]) X 18 rfl (vp_in_nI (by omega) (by omega)) (by rw [(nI_clamp (by omega))]; rfl) d_M_schedule_198 ?_
              refine pv_iinc (ll2 := [(7, .int (nI (r + 1))), (13, .int (nI 48)), (11, .long (pk (mbo k r) 56 tb_c2 48)), (9, .long (mbo k r)), (3, .long (mhi k (r + 1))), (5, .long (mlo k (r + 1))), (0, .ref zm), (1, .long k)]) X 3 (nI (r + 1)) d_M_schedule_199 rfl (nI_1 _) (by decide) rfl ?_
              refine pv_goto X 65 d_M_schedule_202 rfl ?_
              refine pv_lpick (ll2 := [(7, .int (nI (r + 1))), (3, .long (mhi k (r + 1))), (5, .long (mlo k (r + 1))), (0, .ref zm), (1, .long k)]) [0, 4, 5, 6, 7] rfl ?_
              refine pv_eqw (ws2 := [ob zm 5 [.ref zmp, .ref zm1, .ref zm2, .ref zmx, .int th, .ref zmh, .ref zmt, .int ys, .long yl, .long yr, .ref zmu, .ref zme, .ref zma, .ref zmb, .ref zmk, .ref zmc, .ref zmd, .ref zmi, .ref zmo, .ref zmf, .ref zmg, .ref zmn, .long yp, .long yq, .int yw, .long yx], aI G zmp 32 tb_perm, aI G zm1 56 tb_c1, aI G zm2 48 tb_c2, aI G zmx 512 tb_box, aJ G zmh 6 yv, aZ G zmt 6 yt, aI G zmu 16 yu, aZ G zme 16 ye, aJ G zma 16 ya, aJ G zmb 16 yb, aZ G zmk 8 yk, aJ G zmc 8 yc, aJ G zmd 8 yd, aJ G zmi 8 yi, aI G zmo 8 yo, aJ G zmf 5 yf, aJ G zmg 8 yg, aJ G zmn 16 (rnd k yn (r + 1))]) (by rw [← rnd_s]; rfl) ?_
              exact ih_r trivial
            · skip
              refine pv_iload X 0 d_M_schedule_156 rfl ?_
              refine pv_bipush X 48 d_M_schedule_158 (by decide) ?_
              refine pv_icmp_ge X 190 d_M_schedule_160 rfl (fun h => absurd h (nI_ge h_j (by decide))) (fun _ => ?_)
              refine pv_lload X 1 d_M_schedule_163 rfl ?_
              refine pv_iconst X 1 d_M_schedule_165 (by decide) ?_
              refine pv_lshl X d_M_schedule_166 ?_
              refine pv_lload X 2 d_M_schedule_167 rfl ?_
              refine pv_aload_n X 6 d_M_schedule_169 rfl ?_
              refine pv_get X 0 2 u_M_in m_576 rfl rfl (by decide) ⟨rfl, rfl, rfl⟩ rfl d_M_schedule_170 ?_
              refine pv_iload X 0 d_M_schedule_173 rfl ?_
              refine pv_iald X 3 rfl (vp_in_nI (by omega) (by omega)) d_M_schedule_175 ?_
              refine pv_topi (tb_c2 j) (congrArg tb_c2 (nI_clamp (by omega))) ?_
              refine pv_bipush X 56 d_M_schedule_176 (by decide) ?_
              refine pv_calll0 X (rn_S X (c_M_bit l G (mbo k r) (tb_c2 j) 56) trivial mf_M_bit m_694 m_695 rfl (by decide) (by decide) rfl (Nat.le_of_ble_eq_true rfl) d_M_schedule_178) ?_
              refine pv_lor X d_M_schedule_181 ?_
              refine pv_lstore (ll2 := [(11, .long (((pk (mbo k r) 56 tb_c2 j) <<< ((1 : Int32).toInt64 &&& 63)) ||| (f_M_bit (mbo k r) (tb_c2 j) 56))), (13, .int (nI j)), (9, .long (mbo k r)), (7, .int (nI r)), (3, .long (mhi k (r + 1))), (5, .long (mlo k (r + 1))), (0, .ref zm), (1, .long k)]) X d_M_schedule_182 (by decide) rfl ?_
              refine pv_iinc (ll2 := [(13, .int (nI (j + 1))), (11, .long (((pk (mbo k r) 56 tb_c2 j) <<< ((1 : Int32).toInt64 &&& 63)) ||| (f_M_bit (mbo k r) (tb_c2 j) 56))), (9, .long (mbo k r)), (7, .int (nI r)), (3, .long (mhi k (r + 1))), (5, .long (mlo k (r + 1))), (0, .ref zm), (1, .long k)]) X 1 (nI (j + 1)) d_M_schedule_184 rfl (nI_1 _) (by decide) rfl ?_
              refine pv_goto X 156 d_M_schedule_187 rfl ?_
              refine pv_lpick (ll2 := [(13, .int (nI (j + 1))), (11, .long (pk (mbo k r) 56 tb_c2 (j + 1))), (9, .long (mbo k r)), (7, .int (nI r)), (3, .long (mhi k (r + 1))), (5, .long (mlo k (r + 1))), (0, .ref zm), (1, .long k)]) [0, 1, 2, 3, 4, 5, 6, 7] rfl ?_
              refine pv_eqw (ws2 := [ob zm 5 [.ref zmp, .ref zm1, .ref zm2, .ref zmx, .int th, .ref zmh, .ref zmt, .int ys, .long yl, .long yr, .ref zmu, .ref zme, .ref zma, .ref zmb, .ref zmk, .ref zmc, .ref zmd, .ref zmi, .ref zmo, .ref zmf, .ref zmg, .ref zmn, .long yp, .long yq, .int yw, .long yx], aI G zmp 32 tb_perm, aI G zm1 56 tb_c1, aI G zm2 48 tb_c2, aI G zmx 512 tb_box, aJ G zmh 6 yv, aZ G zmt 6 yt, aI G zmu 16 yu, aZ G zme 16 ye, aJ G zma 16 ya, aJ G zmb 16 yb, aZ G zmk 8 yk, aJ G zmc 8 yc, aJ G zmd 8 yd, aJ G zmi 8 yi, aI G zmo 8 yo, aJ G zmf 5 yf, aJ G zmg 8 yg, aJ G zmn 16 (rnd k yn r)]) rfl ?_
              exact ih_j trivial
          · skip
            refine pv_iload X 0 d_M_schedule_90 rfl ?_
            refine pv_bipush X 15 d_M_schedule_92 (by decide) ?_
            refine pv_icmp_ne X 101 d_M_schedule_94 rfl (fun h7 => ?_) (fun h7n => ?_)
            · skip
              refine pv_iconst X 2 d_M_schedule_101 (by decide) ?_
              refine pv_topi (mturn r) (by unfold mturn; rw [if_neg h1n, if_neg h3n, if_neg h5n, if_neg h7]) ?_
              refine pv_istore (ll2 := [(8, .int (mturn r)), (7, .int (nI r)), (3, .long (mhi k r)), (5, .long (mlo k r)), (0, .ref zm), (1, .long k)]) X d_M_schedule_102 (by decide) rfl ?_
              refine pv_lload_n X 2 d_M_schedule_104 rfl ?_
              refine pv_iload X 0 d_M_schedule_105 rfl ?_
              refine pv_lshl X d_M_schedule_107 ?_
              refine pv_lload_n X 2 d_M_schedule_108 rfl ?_
              refine pv_bipush X 28 d_M_schedule_109 (by decide) ?_
              refine pv_iload X 0 d_M_schedule_111 rfl ?_
              refine pv_isub X d_M_schedule_113 ?_
              refine pv_lushr X d_M_schedule_114 ?_
              refine pv_lor X d_M_schedule_115 ?_
              refine pv_ldc2_w X m_697 d_M_schedule_116 ?_
              refine pv_land X d_M_schedule_119 ?_
              refine pv_lstore_n (ll2 := [(3, .long ((((mhi k r) <<< ((mturn r).toInt64 &&& 63)) ||| (((mhi k r).toUInt64 >>> ((28 - (mturn r)).toInt64.toUInt64 &&& Int64.toUInt64 63)).toInt64)) &&& (268435455 : Int64))), (8, .int (mturn r)), (7, .int (nI r)), (5, .long (mlo k r)), (0, .ref zm), (1, .long k)]) X d_M_schedule_120 (by decide) rfl ?_
              refine pv_lload X 3 d_M_schedule_121 rfl ?_
              refine pv_iload X 1 d_M_schedule_123 rfl ?_
              refine pv_lshl X d_M_schedule_125 ?_
              refine pv_lload X 3 d_M_schedule_126 rfl ?_
              refine pv_bipush X 28 d_M_schedule_128 (by decide) ?_
              refine pv_iload X 1 d_M_schedule_130 rfl ?_
              refine pv_isub X d_M_schedule_132 ?_
              refine pv_lushr X d_M_schedule_133 ?_
              refine pv_lor X d_M_schedule_134 ?_
              refine pv_ldc2_w X m_697 d_M_schedule_135 ?_
              refine pv_land X d_M_schedule_138 ?_
              refine pv_lstore (ll2 := [(5, .long ((((mlo k r) <<< ((mturn r).toInt64 &&& 63)) ||| (((mlo k r).toUInt64 >>> ((28 - (mturn r)).toInt64.toUInt64 &&& Int64.toUInt64 63)).toInt64)) &&& (268435455 : Int64))), (3, .long ((((mhi k r) <<< ((mturn r).toInt64 &&& 63)) ||| (((mhi k r).toUInt64 >>> ((28 - (mturn r)).toInt64.toUInt64 &&& Int64.toUInt64 63)).toInt64)) &&& (268435455 : Int64))), (8, .int (mturn r)), (7, .int (nI r)), (0, .ref zm), (1, .long k)]) X d_M_schedule_139 (by decide) rfl ?_
              refine pv_lload_n X 1 d_M_schedule_141 rfl ?_
              refine pv_bipush X 28 d_M_schedule_142 (by decide) ?_
              refine pv_lshl X d_M_schedule_144 ?_
              refine pv_lload X 0 d_M_schedule_145 rfl ?_
              refine pv_lor X d_M_schedule_147 ?_
              refine pv_lstore (ll2 := [(9, .long ((((((mhi k r) <<< ((mturn r).toInt64 &&& 63)) ||| (((mhi k r).toUInt64 >>> ((28 - (mturn r)).toInt64.toUInt64 &&& Int64.toUInt64 63)).toInt64)) &&& (268435455 : Int64)) <<< ((28 : Int32).toInt64 &&& 63)) ||| ((((mlo k r) <<< ((mturn r).toInt64 &&& 63)) ||| (((mlo k r).toUInt64 >>> ((28 - (mturn r)).toInt64.toUInt64 &&& Int64.toUInt64 63)).toInt64)) &&& (268435455 : Int64)))), (5, .long ((((mlo k r) <<< ((mturn r).toInt64 &&& 63)) ||| (((mlo k r).toUInt64 >>> ((28 - (mturn r)).toInt64.toUInt64 &&& Int64.toUInt64 63)).toInt64)) &&& (268435455 : Int64))), (3, .long ((((mhi k r) <<< ((mturn r).toInt64 &&& 63)) ||| (((mhi k r).toUInt64 >>> ((28 - (mturn r)).toInt64.toUInt64 &&& Int64.toUInt64 63)).toInt64)) &&& (268435455 : Int64))), (8, .int (mturn r)), (7, .int (nI r)), (0, .ref zm), (1, .long k)]) X d_M_schedule_148 (by decide) rfl ?_
              refine pv_lconst X 0 d_M_schedule_150 (by decide) ?_
              refine pv_lstore (ll2 := [(11, .long (0 : Int64)), (9, .long ((((((mhi k r) <<< ((mturn r).toInt64 &&& 63)) ||| (((mhi k r).toUInt64 >>> ((28 - (mturn r)).toInt64.toUInt64 &&& Int64.toUInt64 63)).toInt64)) &&& (268435455 : Int64)) <<< ((28 : Int32).toInt64 &&& 63)) ||| ((((mlo k r) <<< ((mturn r).toInt64 &&& 63)) ||| (((mlo k r).toUInt64 >>> ((28 - (mturn r)).toInt64.toUInt64 &&& Int64.toUInt64 63)).toInt64)) &&& (268435455 : Int64)))), (5, .long ((((mlo k r) <<< ((mturn r).toInt64 &&& 63)) ||| (((mlo k r).toUInt64 >>> ((28 - (mturn r)).toInt64.toUInt64 &&& Int64.toUInt64 63)).toInt64)) &&& (268435455 : Int64))), (3, .long ((((mhi k r) <<< ((mturn r).toInt64 &&& 63)) ||| (((mhi k r).toUInt64 >>> ((28 - (mturn r)).toInt64.toUInt64 &&& Int64.toUInt64 63)).toInt64)) &&& (268435455 : Int64))), (8, .int (mturn r)), (7, .int (nI r)), (0, .ref zm), (1, .long k)]) X d_M_schedule_151 (by decide) rfl ?_
              refine pv_iconst X 0 d_M_schedule_153 (by decide) ?_
              refine pv_istore (ll2 := [(13, .int 0), (11, .long (0 : Int64)), (9, .long ((((((mhi k r) <<< ((mturn r).toInt64 &&& 63)) ||| (((mhi k r).toUInt64 >>> ((28 - (mturn r)).toInt64.toUInt64 &&& Int64.toUInt64 63)).toInt64)) &&& (268435455 : Int64)) <<< ((28 : Int32).toInt64 &&& 63)) ||| ((((mlo k r) <<< ((mturn r).toInt64 &&& 63)) ||| (((mlo k r).toUInt64 >>> ((28 - (mturn r)).toInt64.toUInt64 &&& Int64.toUInt64 63)).toInt64)) &&& (268435455 : Int64)))), (5, .long ((((mlo k r) <<< ((mturn r).toInt64 &&& 63)) ||| (((mlo k r).toUInt64 >>> ((28 - (mturn r)).toInt64.toUInt64 &&& Int64.toUInt64 63)).toInt64)) &&& (268435455 : Int64))), (3, .long ((((mhi k r) <<< ((mturn r).toInt64 &&& 63)) ||| (((mhi k r).toUInt64 >>> ((28 - (mturn r)).toInt64.toUInt64 &&& Int64.toUInt64 63)).toInt64)) &&& (268435455 : Int64))), (8, .int (mturn r)), (7, .int (nI r)), (0, .ref zm), (1, .long k)]) X d_M_schedule_154 (by decide) rfl ?_
              refine pv_lpick (ll2 := [(13, .int (nI 0)), (11, .long (pk (mbo k r) 56 tb_c2 0)), (9, .long (mbo k r)), (7, .int (nI r)), (3, .long (mhi k (r + 1))), (5, .long (mlo k (r + 1))), (0, .ref zm), (1, .long k)]) [0, 1, 2, 6, 4, 3, 7, 8] rfl ?_
              refine pv_eqw (ws2 := [ob zm 5 [.ref zmp, .ref zm1, .ref zm2, .ref zmx, .int th, .ref zmh, .ref zmt, .int ys, .long yl, .long yr, .ref zmu, .ref zme, .ref zma, .ref zmb, .ref zmk, .ref zmc, .ref zmd, .ref zmi, .ref zmo, .ref zmf, .ref zmg, .ref zmn, .long yp, .long yq, .int yw, .long yx], aI G zmp 32 tb_perm, aI G zm1 56 tb_c1, aI G zm2 48 tb_c2, aI G zmx 512 tb_box, aJ G zmh 6 yv, aZ G zmt 6 yt, aI G zmu 16 yu, aZ G zme 16 ye, aJ G zma 16 ya, aJ G zmb 16 yb, aZ G zmk 8 yk, aJ G zmc 8 yc, aJ G zmd 8 yd, aJ G zmi 8 yi, aI G zmo 8 yo, aJ G zmf 5 yf, aJ G zmg 8 yg, aJ G zmn 16 (rnd k yn r)]) rfl ?_
              refine pv_loop 48 (fun j => True) (fun j => [ob zm 5 [.ref zmp, .ref zm1, .ref zm2, .ref zmx, .int th, .ref zmh, .ref zmt, .int ys, .long yl, .long yr, .ref zmu, .ref zme, .ref zma, .ref zmb, .ref zmk, .ref zmc, .ref zmd, .ref zmi, .ref zmo, .ref zmf, .ref zmg, .ref zmn, .long yp, .long yq, .int yw, .long yx], aI G zmp 32 tb_perm, aI G zm1 56 tb_c1, aI G zm2 48 tb_c2, aI G zmx 512 tb_box, aJ G zmh 6 yv, aZ G zmt 6 yt, aI G zmu 16 yu, aZ G zme 16 ye, aJ G zma 16 ya, aJ G zmb 16 yb, aZ G zmk 8 yk, aJ G zmc 8 yc, aJ G zmd 8 yd, aJ G zmi 8 yi, aI G zmo 8 yo, aJ G zmf 5 yf, aJ G zmg 8 yg, aJ G zmn 16 (rnd k yn r)]) (fun j => [(13, .int (nI j)), (11, .long (pk (mbo k r) 56 tb_c2 j)), (9, .long (mbo k r)), (7, .int (nI r)), (3, .long (mhi k (r + 1))), (5, .long (mlo k (r + 1))), (0, .ref zm), (1, .long k)]) 0 (by omega) trivial (fun hI_j => ?_) (fun j h_j hI_j ih_j => ?_)
              · skip
                refine pv_iload X 0 d_M_schedule_156 rfl ?_
                refine pv_bipush X 48 d_M_schedule_158 (by decide) ?_
                refine pv_icmp_ge X 190 d_M_schedule_160 rfl (fun _ => ?_) (fun h => absurd (by decide) h)
                refine pv_aload_n X 6 d_M_schedule_190 rfl ?_
                refine pv_get X 0 21 u_M_in m_595 rfl rfl (by decide) ⟨rfl, rfl, rfl⟩ rfl d_M_schedule_191 ?_
                refine pv_iload X 3 d_M_schedule_194 rfl ?_
                refine pv_lload X 1 d_M_schedule_196 rfl ?_
                refine pv_last (ws2 := [ob zm 5 [.ref zmp, .ref zm1, .ref zm2, .ref zmx, .int th, .ref zmh, .ref zmt, .int ys, .long yl, .long yr, .ref zmu, .ref zme, .ref zma, .ref zmb, .ref zmk, .ref zmc, .ref zmd, .ref zmi, .ref zmo, .ref zmf, .ref zmg, .ref zmn, .long yp, .long yq, .int yw, .long yx], aI G zmp 32 tb_perm, aI G zm1 56 tb_c1, aI G zm2 48 tb_c2, aI G zmx 512 tb_box, aJ G zmh 6 yv, aZ G zmt 6 yt, aI G zmu 16 yu, aZ G zme 16 ye, aJ G zma 16 ya, aJ G zmb 16 yb, aZ G zmk 8 yk, aJ G zmc 8 yc, aJ G zmd 8 yd, aJ G zmi 8 yi, aI G zmo 8 yo, aJ G zmf 5 yf, aJ G zmg 8 yg, aJ G zmn 16 (vp_updL (rnd k yn r) r (pk (mbo k r) 56 tb_c2 48))]) X 18 rfl (vp_in_nI (by omega) (by omega)) (by rw [(nI_clamp (by omega))]; rfl) d_M_schedule_198 ?_
                refine pv_iinc (ll2 := [(7, .int (nI (r + 1))), (13, .int (nI 48)), (11, .long (pk (mbo k r) 56 tb_c2 48)), (9, .long (mbo k r)), (3, .long (mhi k (r + 1))), (5, .long (mlo k (r + 1))), (0, .ref zm), (1, .long k)]) X 3 (nI (r + 1)) d_M_schedule_199 rfl (nI_1 _) (by decide) rfl ?_
                refine pv_goto X 65 d_M_schedule_202 rfl ?_
                refine pv_lpick (ll2 := [(7, .int (nI (r + 1))), (3, .long (mhi k (r + 1))), (5, .long (mlo k (r + 1))), (0, .ref zm), (1, .long k)]) [0, 4, 5, 6, 7] rfl ?_
                refine pv_eqw (ws2 := [ob zm 5 [.ref zmp, .ref zm1, .ref zm2, .ref zmx, .int th, .ref zmh, .ref zmt, .int ys, .long yl, .long yr, .ref zmu, .ref zme, .ref zma, .ref zmb, .ref zmk, .ref zmc, .ref zmd, .ref zmi, .ref zmo, .ref zmf, .ref zmg, .ref zmn, .long yp, .long yq, .int yw, .long yx], aI G zmp 32 tb_perm, aI G zm1 56 tb_c1, aI G zm2 48 tb_c2, aI G zmx 512 tb_box, aJ G zmh 6 yv, aZ G zmt 6 yt, aI G zmu 16 yu, aZ G zme 16 ye, aJ G zma 16 ya, aJ G zmb 16 yb, aZ G zmk 8 yk, aJ G zmc 8 yc, aJ G zmd 8 yd, aJ G zmi 8 yi, aI G zmo 8 yo, aJ G zmf 5 yf, aJ G zmg 8 yg, aJ G zmn 16 (rnd k yn (r + 1))]) (by rw [← rnd_s]; rfl) ?_
                exact ih_r trivial
              · skip
                refine pv_iload X 0 d_M_schedule_156 rfl ?_
                refine pv_bipush X 48 d_M_schedule_158 (by decide) ?_
                refine pv_icmp_ge X 190 d_M_schedule_160 rfl (fun h => absurd h (nI_ge h_j (by decide))) (fun _ => ?_)
                refine pv_lload X 1 d_M_schedule_163 rfl ?_
                refine pv_iconst X 1 d_M_schedule_165 (by decide) ?_
                refine pv_lshl X d_M_schedule_166 ?_
                refine pv_lload X 2 d_M_schedule_167 rfl ?_
                refine pv_aload_n X 6 d_M_schedule_169 rfl ?_
                refine pv_get X 0 2 u_M_in m_576 rfl rfl (by decide) ⟨rfl, rfl, rfl⟩ rfl d_M_schedule_170 ?_
                refine pv_iload X 0 d_M_schedule_173 rfl ?_
                refine pv_iald X 3 rfl (vp_in_nI (by omega) (by omega)) d_M_schedule_175 ?_
                refine pv_topi (tb_c2 j) (congrArg tb_c2 (nI_clamp (by omega))) ?_
                refine pv_bipush X 56 d_M_schedule_176 (by decide) ?_
                refine pv_calll0 X (rn_S X (c_M_bit l G (mbo k r) (tb_c2 j) 56) trivial mf_M_bit m_694 m_695 rfl (by decide) (by decide) rfl (Nat.le_of_ble_eq_true rfl) d_M_schedule_178) ?_
                refine pv_lor X d_M_schedule_181 ?_
                refine pv_lstore (ll2 := [(11, .long (((pk (mbo k r) 56 tb_c2 j) <<< ((1 : Int32).toInt64 &&& 63)) ||| (f_M_bit (mbo k r) (tb_c2 j) 56))), (13, .int (nI j)), (9, .long (mbo k r)), (7, .int (nI r)), (3, .long (mhi k (r + 1))), (5, .long (mlo k (r + 1))), (0, .ref zm), (1, .long k)]) X d_M_schedule_182 (by decide) rfl ?_
                refine pv_iinc (ll2 := [(13, .int (nI (j + 1))), (11, .long (((pk (mbo k r) 56 tb_c2 j) <<< ((1 : Int32).toInt64 &&& 63)) ||| (f_M_bit (mbo k r) (tb_c2 j) 56))), (9, .long (mbo k r)), (7, .int (nI r)), (3, .long (mhi k (r + 1))), (5, .long (mlo k (r + 1))), (0, .ref zm), (1, .long k)]) X 1 (nI (j + 1)) d_M_schedule_184 rfl (nI_1 _) (by decide) rfl ?_
                refine pv_goto X 156 d_M_schedule_187 rfl ?_
                refine pv_lpick (ll2 := [(13, .int (nI (j + 1))), (11, .long (pk (mbo k r) 56 tb_c2 (j + 1))), (9, .long (mbo k r)), (7, .int (nI r)), (3, .long (mhi k (r + 1))), (5, .long (mlo k (r + 1))), (0, .ref zm), (1, .long k)]) [0, 1, 2, 3, 4, 5, 6, 7] rfl ?_
                refine pv_eqw (ws2 := [ob zm 5 [.ref zmp, .ref zm1, .ref zm2, .ref zmx, .int th, .ref zmh, .ref zmt, .int ys, .long yl, .long yr, .ref zmu, .ref zme, .ref zma, .ref zmb, .ref zmk, .ref zmc, .ref zmd, .ref zmi, .ref zmo, .ref zmf, .ref zmg, .ref zmn, .long yp, .long yq, .int yw, .long yx], aI G zmp 32 tb_perm, aI G zm1 56 tb_c1, aI G zm2 48 tb_c2, aI G zmx 512 tb_box, aJ G zmh 6 yv, aZ G zmt 6 yt, aI G zmu 16 yu, aZ G zme 16 ye, aJ G zma 16 ya, aJ G zmb 16 yb, aZ G zmk 8 yk, aJ G zmc 8 yc, aJ G zmd 8 yd, aJ G zmi 8 yi, aI G zmo 8 yo, aJ G zmf 5 yf, aJ G zmg 8 yg, aJ G zmn 16 (rnd k yn r)]) rfl ?_
                exact ih_j trivial
            · skip
              refine pv_iconst X 1 d_M_schedule_97 (by decide) ?_
              refine pv_goto X 102 d_M_schedule_98 rfl ?_
              refine pv_topi (mturn r) (by unfold mturn; rw [if_neg h1n, if_neg h3n, if_neg h5n, if_pos h7n]) ?_
              refine pv_istore (ll2 := [(8, .int (mturn r)), (7, .int (nI r)), (3, .long (mhi k r)), (5, .long (mlo k r)), (0, .ref zm), (1, .long k)]) X d_M_schedule_102 (by decide) rfl ?_
              refine pv_lload_n X 2 d_M_schedule_104 rfl ?_
              refine pv_iload X 0 d_M_schedule_105 rfl ?_
              refine pv_lshl X d_M_schedule_107 ?_
              refine pv_lload_n X 2 d_M_schedule_108 rfl ?_
              refine pv_bipush X 28 d_M_schedule_109 (by decide) ?_
              refine pv_iload X 0 d_M_schedule_111 rfl ?_
              refine pv_isub X d_M_schedule_113 ?_
              refine pv_lushr X d_M_schedule_114 ?_
              refine pv_lor X d_M_schedule_115 ?_
              refine pv_ldc2_w X m_697 d_M_schedule_116 ?_
              refine pv_land X d_M_schedule_119 ?_
              refine pv_lstore_n (ll2 := [(3, .long ((((mhi k r) <<< ((mturn r).toInt64 &&& 63)) ||| (((mhi k r).toUInt64 >>> ((28 - (mturn r)).toInt64.toUInt64 &&& Int64.toUInt64 63)).toInt64)) &&& (268435455 : Int64))), (8, .int (mturn r)), (7, .int (nI r)), (5, .long (mlo k r)), (0, .ref zm), (1, .long k)]) X d_M_schedule_120 (by decide) rfl ?_
              refine pv_lload X 3 d_M_schedule_121 rfl ?_
              refine pv_iload X 1 d_M_schedule_123 rfl ?_
              refine pv_lshl X d_M_schedule_125 ?_
              refine pv_lload X 3 d_M_schedule_126 rfl ?_
              refine pv_bipush X 28 d_M_schedule_128 (by decide) ?_
              refine pv_iload X 1 d_M_schedule_130 rfl ?_
              refine pv_isub X d_M_schedule_132 ?_
              refine pv_lushr X d_M_schedule_133 ?_
              refine pv_lor X d_M_schedule_134 ?_
              refine pv_ldc2_w X m_697 d_M_schedule_135 ?_
              refine pv_land X d_M_schedule_138 ?_
              refine pv_lstore (ll2 := [(5, .long ((((mlo k r) <<< ((mturn r).toInt64 &&& 63)) ||| (((mlo k r).toUInt64 >>> ((28 - (mturn r)).toInt64.toUInt64 &&& Int64.toUInt64 63)).toInt64)) &&& (268435455 : Int64))), (3, .long ((((mhi k r) <<< ((mturn r).toInt64 &&& 63)) ||| (((mhi k r).toUInt64 >>> ((28 - (mturn r)).toInt64.toUInt64 &&& Int64.toUInt64 63)).toInt64)) &&& (268435455 : Int64))), (8, .int (mturn r)), (7, .int (nI r)), (0, .ref zm), (1, .long k)]) X d_M_schedule_139 (by decide) rfl ?_
              refine pv_lload_n X 1 d_M_schedule_141 rfl ?_
              refine pv_bipush X 28 d_M_schedule_142 (by decide) ?_
              refine pv_lshl X d_M_schedule_144 ?_
              refine pv_lload X 0 d_M_schedule_145 rfl ?_
              refine pv_lor X d_M_schedule_147 ?_
              refine pv_lstore (ll2 := [(9, .long ((((((mhi k r) <<< ((mturn r).toInt64 &&& 63)) ||| (((mhi k r).toUInt64 >>> ((28 - (mturn r)).toInt64.toUInt64 &&& Int64.toUInt64 63)).toInt64)) &&& (268435455 : Int64)) <<< ((28 : Int32).toInt64 &&& 63)) ||| ((((mlo k r) <<< ((mturn r).toInt64 &&& 63)) ||| (((mlo k r).toUInt64 >>> ((28 - (mturn r)).toInt64.toUInt64 &&& Int64.toUInt64 63)).toInt64)) &&& (268435455 : Int64)))), (5, .long ((((mlo k r) <<< ((mturn r).toInt64 &&& 63)) ||| (((mlo k r).toUInt64 >>> ((28 - (mturn r)).toInt64.toUInt64 &&& Int64.toUInt64 63)).toInt64)) &&& (268435455 : Int64))), (3, .long ((((mhi k r) <<< ((mturn r).toInt64 &&& 63)) ||| (((mhi k r).toUInt64 >>> ((28 - (mturn r)).toInt64.toUInt64 &&& Int64.toUInt64 63)).toInt64)) &&& (268435455 : Int64))), (8, .int (mturn r)), (7, .int (nI r)), (0, .ref zm), (1, .long k)]) X d_M_schedule_148 (by decide) rfl ?_
              refine pv_lconst X 0 d_M_schedule_150 (by decide) ?_
              refine pv_lstore (ll2 := [(11, .long (0 : Int64)), (9, .long ((((((mhi k r) <<< ((mturn r).toInt64 &&& 63)) ||| (((mhi k r).toUInt64 >>> ((28 - (mturn r)).toInt64.toUInt64 &&& Int64.toUInt64 63)).toInt64)) &&& (268435455 : Int64)) <<< ((28 : Int32).toInt64 &&& 63)) ||| ((((mlo k r) <<< ((mturn r).toInt64 &&& 63)) ||| (((mlo k r).toUInt64 >>> ((28 - (mturn r)).toInt64.toUInt64 &&& Int64.toUInt64 63)).toInt64)) &&& (268435455 : Int64)))), (5, .long ((((mlo k r) <<< ((mturn r).toInt64 &&& 63)) ||| (((mlo k r).toUInt64 >>> ((28 - (mturn r)).toInt64.toUInt64 &&& Int64.toUInt64 63)).toInt64)) &&& (268435455 : Int64))), (3, .long ((((mhi k r) <<< ((mturn r).toInt64 &&& 63)) ||| (((mhi k r).toUInt64 >>> ((28 - (mturn r)).toInt64.toUInt64 &&& Int64.toUInt64 63)).toInt64)) &&& (268435455 : Int64))), (8, .int (mturn r)), (7, .int (nI r)), (0, .ref zm), (1, .long k)]) X d_M_schedule_151 (by decide) rfl ?_
              refine pv_iconst X 0 d_M_schedule_153 (by decide) ?_
              refine pv_istore (ll2 := [(13, .int 0), (11, .long (0 : Int64)), (9, .long ((((((mhi k r) <<< ((mturn r).toInt64 &&& 63)) ||| (((mhi k r).toUInt64 >>> ((28 - (mturn r)).toInt64.toUInt64 &&& Int64.toUInt64 63)).toInt64)) &&& (268435455 : Int64)) <<< ((28 : Int32).toInt64 &&& 63)) ||| ((((mlo k r) <<< ((mturn r).toInt64 &&& 63)) ||| (((mlo k r).toUInt64 >>> ((28 - (mturn r)).toInt64.toUInt64 &&& Int64.toUInt64 63)).toInt64)) &&& (268435455 : Int64)))), (5, .long ((((mlo k r) <<< ((mturn r).toInt64 &&& 63)) ||| (((mlo k r).toUInt64 >>> ((28 - (mturn r)).toInt64.toUInt64 &&& Int64.toUInt64 63)).toInt64)) &&& (268435455 : Int64))), (3, .long ((((mhi k r) <<< ((mturn r).toInt64 &&& 63)) ||| (((mhi k r).toUInt64 >>> ((28 - (mturn r)).toInt64.toUInt64 &&& Int64.toUInt64 63)).toInt64)) &&& (268435455 : Int64))), (8, .int (mturn r)), (7, .int (nI r)), (0, .ref zm), (1, .long k)]) X d_M_schedule_154 (by decide) rfl ?_
              refine pv_lpick (ll2 := [(13, .int (nI 0)), (11, .long (pk (mbo k r) 56 tb_c2 0)), (9, .long (mbo k r)), (7, .int (nI r)), (3, .long (mhi k (r + 1))), (5, .long (mlo k (r + 1))), (0, .ref zm), (1, .long k)]) [0, 1, 2, 6, 4, 3, 7, 8] rfl ?_
              refine pv_eqw (ws2 := [ob zm 5 [.ref zmp, .ref zm1, .ref zm2, .ref zmx, .int th, .ref zmh, .ref zmt, .int ys, .long yl, .long yr, .ref zmu, .ref zme, .ref zma, .ref zmb, .ref zmk, .ref zmc, .ref zmd, .ref zmi, .ref zmo, .ref zmf, .ref zmg, .ref zmn, .long yp, .long yq, .int yw, .long yx], aI G zmp 32 tb_perm, aI G zm1 56 tb_c1, aI G zm2 48 tb_c2, aI G zmx 512 tb_box, aJ G zmh 6 yv, aZ G zmt 6 yt, aI G zmu 16 yu, aZ G zme 16 ye, aJ G zma 16 ya, aJ G zmb 16 yb, aZ G zmk 8 yk, aJ G zmc 8 yc, aJ G zmd 8 yd, aJ G zmi 8 yi, aI G zmo 8 yo, aJ G zmf 5 yf, aJ G zmg 8 yg, aJ G zmn 16 (rnd k yn r)]) rfl ?_
              refine pv_loop 48 (fun j => True) (fun j => [ob zm 5 [.ref zmp, .ref zm1, .ref zm2, .ref zmx, .int th, .ref zmh, .ref zmt, .int ys, .long yl, .long yr, .ref zmu, .ref zme, .ref zma, .ref zmb, .ref zmk, .ref zmc, .ref zmd, .ref zmi, .ref zmo, .ref zmf, .ref zmg, .ref zmn, .long yp, .long yq, .int yw, .long yx], aI G zmp 32 tb_perm, aI G zm1 56 tb_c1, aI G zm2 48 tb_c2, aI G zmx 512 tb_box, aJ G zmh 6 yv, aZ G zmt 6 yt, aI G zmu 16 yu, aZ G zme 16 ye, aJ G zma 16 ya, aJ G zmb 16 yb, aZ G zmk 8 yk, aJ G zmc 8 yc, aJ G zmd 8 yd, aJ G zmi 8 yi, aI G zmo 8 yo, aJ G zmf 5 yf, aJ G zmg 8 yg, aJ G zmn 16 (rnd k yn r)]) (fun j => [(13, .int (nI j)), (11, .long (pk (mbo k r) 56 tb_c2 j)), (9, .long (mbo k r)), (7, .int (nI r)), (3, .long (mhi k (r + 1))), (5, .long (mlo k (r + 1))), (0, .ref zm), (1, .long k)]) 0 (by omega) trivial (fun hI_j => ?_) (fun j h_j hI_j ih_j => ?_)
              · skip
                refine pv_iload X 0 d_M_schedule_156 rfl ?_
                refine pv_bipush X 48 d_M_schedule_158 (by decide) ?_
                refine pv_icmp_ge X 190 d_M_schedule_160 rfl (fun _ => ?_) (fun h => absurd (by decide) h)
                refine pv_aload_n X 6 d_M_schedule_190 rfl ?_
                refine pv_get X 0 21 u_M_in m_595 rfl rfl (by decide) ⟨rfl, rfl, rfl⟩ rfl d_M_schedule_191 ?_
                refine pv_iload X 3 d_M_schedule_194 rfl ?_
                refine pv_lload X 1 d_M_schedule_196 rfl ?_
                refine pv_last (ws2 := [ob zm 5 [.ref zmp, .ref zm1, .ref zm2, .ref zmx, .int th, .ref zmh, .ref zmt, .int ys, .long yl, .long yr, .ref zmu, .ref zme, .ref zma, .ref zmb, .ref zmk, .ref zmc, .ref zmd, .ref zmi, .ref zmo, .ref zmf, .ref zmg, .ref zmn, .long yp, .long yq, .int yw, .long yx], aI G zmp 32 tb_perm, aI G zm1 56 tb_c1, aI G zm2 48 tb_c2, aI G zmx 512 tb_box, aJ G zmh 6 yv, aZ G zmt 6 yt, aI G zmu 16 yu, aZ G zme 16 ye, aJ G zma 16 ya, aJ G zmb 16 yb, aZ G zmk 8 yk, aJ G zmc 8 yc, aJ G zmd 8 yd, aJ G zmi 8 yi, aI G zmo 8 yo, aJ G zmf 5 yf, aJ G zmg 8 yg, aJ G zmn 16 (vp_updL (rnd k yn r) r (pk (mbo k r) 56 tb_c2 48))]) X 18 rfl (vp_in_nI (by omega) (by omega)) (by rw [(nI_clamp (by omega))]; rfl) d_M_schedule_198 ?_
                refine pv_iinc (ll2 := [(7, .int (nI (r + 1))), (13, .int (nI 48)), (11, .long (pk (mbo k r) 56 tb_c2 48)), (9, .long (mbo k r)), (3, .long (mhi k (r + 1))), (5, .long (mlo k (r + 1))), (0, .ref zm), (1, .long k)]) X 3 (nI (r + 1)) d_M_schedule_199 rfl (nI_1 _) (by decide) rfl ?_
                refine pv_goto X 65 d_M_schedule_202 rfl ?_
                refine pv_lpick (ll2 := [(7, .int (nI (r + 1))), (3, .long (mhi k (r + 1))), (5, .long (mlo k (r + 1))), (0, .ref zm), (1, .long k)]) [0, 4, 5, 6, 7] rfl ?_
                refine pv_eqw (ws2 := [ob zm 5 [.ref zmp, .ref zm1, .ref zm2, .ref zmx, .int th, .ref zmh, .ref zmt, .int ys, .long yl, .long yr, .ref zmu, .ref zme, .ref zma, .ref zmb, .ref zmk, .ref zmc, .ref zmd, .ref zmi, .ref zmo, .ref zmf, .ref zmg, .ref zmn, .long yp, .long yq, .int yw, .long yx], aI G zmp 32 tb_perm, aI G zm1 56 tb_c1, aI G zm2 48 tb_c2, aI G zmx 512 tb_box, aJ G zmh 6 yv, aZ G zmt 6 yt, aI G zmu 16 yu, aZ G zme 16 ye, aJ G zma 16 ya, aJ G zmb 16 yb, aZ G zmk 8 yk, aJ G zmc 8 yc, aJ G zmd 8 yd, aJ G zmi 8 yi, aI G zmo 8 yo, aJ G zmf 5 yf, aJ G zmg 8 yg, aJ G zmn 16 (rnd k yn (r + 1))]) (by rw [← rnd_s]; rfl) ?_
                exact ih_r trivial
              · skip
                refine pv_iload X 0 d_M_schedule_156 rfl ?_
                refine pv_bipush X 48 d_M_schedule_158 (by decide) ?_
                refine pv_icmp_ge X 190 d_M_schedule_160 rfl (fun h => absurd h (nI_ge h_j (by decide))) (fun _ => ?_)
                refine pv_lload X 1 d_M_schedule_163 rfl ?_
                refine pv_iconst X 1 d_M_schedule_165 (by decide) ?_
                refine pv_lshl X d_M_schedule_166 ?_
                refine pv_lload X 2 d_M_schedule_167 rfl ?_
                refine pv_aload_n X 6 d_M_schedule_169 rfl ?_
                refine pv_get X 0 2 u_M_in m_576 rfl rfl (by decide) ⟨rfl, rfl, rfl⟩ rfl d_M_schedule_170 ?_
                refine pv_iload X 0 d_M_schedule_173 rfl ?_
                refine pv_iald X 3 rfl (vp_in_nI (by omega) (by omega)) d_M_schedule_175 ?_
                refine pv_topi (tb_c2 j) (congrArg tb_c2 (nI_clamp (by omega))) ?_
                refine pv_bipush X 56 d_M_schedule_176 (by decide) ?_
                refine pv_calll0 X (rn_S X (c_M_bit l G (mbo k r) (tb_c2 j) 56) trivial mf_M_bit m_694 m_695 rfl (by decide) (by decide) rfl (Nat.le_of_ble_eq_true rfl) d_M_schedule_178) ?_
                refine pv_lor X d_M_schedule_181 ?_
                refine pv_lstore (ll2 := [(11, .long (((pk (mbo k r) 56 tb_c2 j) <<< ((1 : Int32).toInt64 &&& 63)) ||| (f_M_bit (mbo k r) (tb_c2 j) 56))), (13, .int (nI j)), (9, .long (mbo k r)), (7, .int (nI r)), (3, .long (mhi k (r + 1))), (5, .long (mlo k (r + 1))), (0, .ref zm), (1, .long k)]) X d_M_schedule_182 (by decide) rfl ?_
                refine pv_iinc (ll2 := [(13, .int (nI (j + 1))), (11, .long (((pk (mbo k r) 56 tb_c2 j) <<< ((1 : Int32).toInt64 &&& 63)) ||| (f_M_bit (mbo k r) (tb_c2 j) 56))), (9, .long (mbo k r)), (7, .int (nI r)), (3, .long (mhi k (r + 1))), (5, .long (mlo k (r + 1))), (0, .ref zm), (1, .long k)]) X 1 (nI (j + 1)) d_M_schedule_184 rfl (nI_1 _) (by decide) rfl ?_
                refine pv_goto X 156 d_M_schedule_187 rfl ?_
                refine pv_lpick (ll2 := [(13, .int (nI (j + 1))), (11, .long (pk (mbo k r) 56 tb_c2 (j + 1))), (9, .long (mbo k r)), (7, .int (nI r)), (3, .long (mhi k (r + 1))), (5, .long (mlo k (r + 1))), (0, .ref zm), (1, .long k)]) [0, 1, 2, 3, 4, 5, 6, 7] rfl ?_
                refine pv_eqw (ws2 := [ob zm 5 [.ref zmp, .ref zm1, .ref zm2, .ref zmx, .int th, .ref zmh, .ref zmt, .int ys, .long yl, .long yr, .ref zmu, .ref zme, .ref zma, .ref zmb, .ref zmk, .ref zmc, .ref zmd, .ref zmi, .ref zmo, .ref zmf, .ref zmg, .ref zmn, .long yp, .long yq, .int yw, .long yx], aI G zmp 32 tb_perm, aI G zm1 56 tb_c1, aI G zm2 48 tb_c2, aI G zmx 512 tb_box, aJ G zmh 6 yv, aZ G zmt 6 yt, aI G zmu 16 yu, aZ G zme 16 ye, aJ G zma 16 ya, aJ G zmb 16 yb, aZ G zmk 8 yk, aJ G zmc 8 yc, aJ G zmd 8 yd, aJ G zmi 8 yi, aI G zmo 8 yo, aJ G zmf 5 yf, aJ G zmg 8 yg, aJ G zmn 16 (rnd k yn r)]) rfl ?_
                exact ih_j trivial
  · skip
    refine pv_iload X 0 d_M_schedule_8 rfl ?_
    refine pv_bipush X 28 d_M_schedule_10 (by decide) ?_
    refine pv_icmp_ge X 62 d_M_schedule_12 rfl (fun h => absurd h (nI_ge h_i (by decide))) (fun _ => ?_)
    refine pv_lload_n X 1 d_M_schedule_15 rfl ?_
    refine pv_iconst X 1 d_M_schedule_16 (by decide) ?_
    refine pv_lshl X d_M_schedule_17 ?_
    refine pv_lload_n X 4 d_M_schedule_18 rfl ?_
    refine pv_aload_n X 3 d_M_schedule_19 rfl ?_
    refine pv_get X 0 1 u_M_in m_575 rfl rfl (by decide) ⟨rfl, rfl, rfl⟩ rfl d_M_schedule_20 ?_
    refine pv_iload X 0 d_M_schedule_23 rfl ?_
    refine pv_iald X 2 rfl (vp_in_nI (by omega) (by omega)) d_M_schedule_25 ?_
    refine pv_topi (tb_c1 i) (congrArg tb_c1 (nI_clamp (by omega))) ?_
    refine pv_bipush X 64 d_M_schedule_26 (by decide) ?_
    refine pv_calll0 X (rn_S X (c_M_bit l G k (tb_c1 i) 64) trivial mf_M_bit m_694 m_695 rfl (by decide) (by decide) rfl (Nat.le_of_ble_eq_true rfl) d_M_schedule_28) ?_
    refine pv_lor X d_M_schedule_31 ?_
    refine pv_lstore_n (ll2 := [(3, .long (((pk k 64 tb_c1 i) <<< ((1 : Int32).toInt64 &&& 63)) ||| (f_M_bit k (tb_c1 i) 64))), (7, .int (nI i)), (5, .long (pk k 64 (fun j => tb_c1 (28 + j)) i)), (0, .ref zm), (1, .long k)]) X d_M_schedule_32 (by decide) rfl ?_
    refine pv_lload X 2 d_M_schedule_33 rfl ?_
    refine pv_iconst X 1 d_M_schedule_35 (by decide) ?_
    refine pv_lshl X d_M_schedule_36 ?_
    refine pv_lload_n X 4 d_M_schedule_37 rfl ?_
    refine pv_aload_n X 3 d_M_schedule_38 rfl ?_
    refine pv_get X 0 1 u_M_in m_575 rfl rfl (by decide) ⟨rfl, rfl, rfl⟩ rfl d_M_schedule_39 ?_
    refine pv_bipush X 28 d_M_schedule_42 (by decide) ?_
    refine pv_iload X 1 d_M_schedule_44 rfl ?_
    refine pv_iadd X d_M_schedule_46 ?_
    refine pv_topi (nI (28 + i)) (nI_add 28 i) ?_
    refine pv_iald X 2 rfl (vp_in_nI (by omega) (by omega)) d_M_schedule_47 ?_
    refine pv_topi (tb_c1 (28 + i)) (congrArg tb_c1 (nI_clamp (by omega))) ?_
    refine pv_bipush X 64 d_M_schedule_48 (by decide) ?_
    refine pv_calll0 X (rn_S X (c_M_bit l G k (tb_c1 (28 + i)) 64) trivial mf_M_bit m_694 m_695 rfl (by decide) (by decide) rfl (Nat.le_of_ble_eq_true rfl) d_M_schedule_50) ?_
    refine pv_lor X d_M_schedule_53 ?_
    refine pv_lstore (ll2 := [(5, .long (((pk k 64 (fun j => tb_c1 (28 + j)) i) <<< ((1 : Int32).toInt64 &&& 63)) ||| (f_M_bit k (tb_c1 (28 + i)) 64))), (3, .long (((pk k 64 tb_c1 i) <<< ((1 : Int32).toInt64 &&& 63)) ||| (f_M_bit k (tb_c1 i) 64))), (7, .int (nI i)), (0, .ref zm), (1, .long k)]) X d_M_schedule_54 (by decide) rfl ?_
    refine pv_iinc (ll2 := [(7, .int (nI (i + 1))), (5, .long (((pk k 64 (fun j => tb_c1 (28 + j)) i) <<< ((1 : Int32).toInt64 &&& 63)) ||| (f_M_bit k (tb_c1 (28 + i)) 64))), (3, .long (((pk k 64 tb_c1 i) <<< ((1 : Int32).toInt64 &&& 63)) ||| (f_M_bit k (tb_c1 i) 64))), (0, .ref zm), (1, .long k)]) X 2 (nI (i + 1)) d_M_schedule_56 rfl (nI_1 _) (by decide) rfl ?_
    refine pv_goto X 8 d_M_schedule_59 rfl ?_
    refine pv_lpick (ll2 := [(7, .int (nI (i + 1))), (3, .long (pk k 64 tb_c1 (i + 1))), (5, .long (pk k 64 (fun j => tb_c1 (28 + j)) (i + 1))), (0, .ref zm), (1, .long k)]) [0, 2, 1, 3, 4] rfl ?_
    refine pv_eqw (ws2 := [ob zm 5 [.ref zmp, .ref zm1, .ref zm2, .ref zmx, .int th, .ref zmh, .ref zmt, .int ys, .long yl, .long yr, .ref zmu, .ref zme, .ref zma, .ref zmb, .ref zmk, .ref zmc, .ref zmd, .ref zmi, .ref zmo, .ref zmf, .ref zmg, .ref zmn, .long yp, .long yq, .int yw, .long yx], aI G zmp 32 tb_perm, aI G zm1 56 tb_c1, aI G zm2 48 tb_c2, aI G zmx 512 tb_box, aJ G zmh 6 yv, aZ G zmt 6 yt, aI G zmu 16 yu, aZ G zme 16 ye, aJ G zma 16 ya, aJ G zmb 16 yb, aZ G zmk 8 yk, aJ G zmc 8 yc, aJ G zmd 8 yd, aJ G zmi 8 yi, aI G zmo 8 yo, aJ G zmf 5 yf, aJ G zmg 8 yg, aJ G zmn 16 yn]) rfl ?_
    exact ih_i trivial
theorem and_nI (x : Int32) (M : Nat) : x &&& nI M = nI (x.toBitVec.toNat &&& M) := by
  apply Int32.toBitVec_inj.1
  show x.toBitVec &&& BitVec.ofNat 32 M = BitVec.ofNat 32 (x.toBitVec.toNat &&& M)
  apply BitVec.eq_of_getLsbD_eq
  intro i hi
  simp [hi, BitVec.getLsbD]
theorem or_nI (a b : Nat) : nI a ||| nI b = nI (a ||| b) := by
  apply Int32.toBitVec_inj.1
  show BitVec.ofNat 32 a ||| BitVec.ofNat 32 b = BitVec.ofNat 32 (a ||| b)
  apply BitVec.eq_of_getLsbD_eq
  intro i hi
  simp [hi]
abbrev mrow (x : Int32) : Int32 := (x >>> ((4 : Int32) &&& 31) &&& (2 : Int32)) ||| (x &&& (1 : Int32))
abbrev mix (x : Int32) (s : Nat) : Int32 := (64 : Int32) * nI s + (16 : Int32) * mrow x + (x >>> ((1 : Int32) &&& 31) &&& (15 : Int32))
theorem mrow_e (x : Int32) : ∃ a, a < 4 ∧ mrow x = nI a := by
  refine ⟨((x >>> ((4 : Int32) &&& 31)).toBitVec.toNat &&& 2) ||| (x.toBitVec.toNat &&& 1), ?_, ?_⟩
  · exact Nat.or_lt_two_pow (n := 2) (Nat.lt_of_le_of_lt Nat.and_le_right (by decide)) (Nat.lt_of_le_of_lt Nat.and_le_right (by decide))
  · show (x >>> ((4 : Int32) &&& 31) &&& nI 2) ||| (x &&& nI 1) = _
    rw [and_nI, and_nI, or_nI]
theorem mix_e (x : Int32) {s : Nat} (hs : s < 8) : ∃ a c, a < 4 ∧ c < 16 ∧ mrow x = nI a ∧ (x >>> ((1 : Int32) &&& 31) &&& (15 : Int32)) = nI c ∧ mix x s = nI (64 * s + 16 * a + c) := by
  obtain ⟨a, ha, ea⟩ := mrow_e x
  obtain ⟨c, hc, ec⟩ := pk_andE (x >>> ((1 : Int32) &&& 31)) (m := 15) 4 (by decide)
  refine ⟨a, c, ha, hc, ea, ec, ?_⟩
  show (64 : Int32) * nI s + (16 : Int32) * mrow x + (x >>> ((1 : Int32) &&& 31) &&& (15 : Int32)) = _
  rw [ea, ec, show (64 : Int32) = nI 64 from rfl, show (16 : Int32) = nI 16 from rfl, pk_mul, pk_mul, nI_add, nI_add]
theorem mix_in (x : Int32) {s : Nat} (hs : s < 8) : vp_in (mix x s) 512 := by
  obtain ⟨a, c, ha, hc, -, -, e⟩ := mix_e x hs
  rw [e]
  exact vp_in_nI (by omega) (by decide)
abbrev mfr (s k : Nat) : Int32 := ((4 * nI s + nI k + 31) - (4 * nI s + nI k + 31) / 32 * 32) + 1
def msx (a b : Int64) (s : Nat) : Nat → Int32
  | 0 => 0
  | k + 1 => (msx a b s k <<< (1 &&& 31)) ||| (f_M_bit a (mfr s k) 32 ^^^ f_M_bit b (6 * nI s + nI k + 1) 48).toInt32
def mou (a b : Int64) : Nat → Int64
  | 0 => 0
  | s + 1 => (mou a b s <<< ((4 : Int32).toInt64 &&& 63)) ||| (tb_box (mix (msx a b s 6) s).toNatClampNeg).toInt64
def mang (a b : Int64) : Int64 := pk (mou a b 8) 32 tb_perm 32
abbrev rm_M_mangle : Room := { frames := 1, cells := 0, slots := 0, locals := 23 }
theorem mf_M_mangle : MF y_M_mangle b_M_mangle 11 (some .long) 2 := ⟨m_705, m_6, by decide, by decide, by decide +kernel⟩
theorem d_M_mangle_0 : decode b_M_mangle 0 = .ok (.lconst 0, 1) := by decide +kernel
theorem d_M_mangle_1 : decode b_M_mangle 1 = .ok (.lstore 5, 2) := by decide +kernel
theorem d_M_mangle_3 : decode b_M_mangle 3 = .ok (.iconst 0, 1) := by decide +kernel
theorem d_M_mangle_4 : decode b_M_mangle 4 = .ok (.istore 7, 2) := by decide +kernel
theorem d_M_mangle_6 : decode b_M_mangle 6 = .ok (.iload 7, 2) := by decide +kernel
theorem d_M_mangle_8 : decode b_M_mangle 8 = .ok (.bipush 8, 2) := by decide +kernel
theorem d_M_mangle_10 : decode b_M_mangle 10 = .ok (.if_icmp .ge 123, 3) := by decide +kernel
theorem d_M_mangle_13 : decode b_M_mangle 13 = .ok (.iconst 0, 1) := by decide +kernel
theorem d_M_mangle_14 : decode b_M_mangle 14 = .ok (.istore 8, 2) := by decide +kernel
theorem d_M_mangle_16 : decode b_M_mangle 16 = .ok (.iconst 0, 1) := by decide +kernel
theorem d_M_mangle_17 : decode b_M_mangle 17 = .ok (.istore 9, 2) := by decide +kernel
theorem d_M_mangle_19 : decode b_M_mangle 19 = .ok (.iload 9, 2) := by decide +kernel
theorem d_M_mangle_21 : decode b_M_mangle 21 = .ok (.bipush 6, 2) := by decide +kernel
theorem d_M_mangle_23 : decode b_M_mangle 23 = .ok (.if_icmp .ge 59, 3) := by decide +kernel
theorem d_M_mangle_26 : decode b_M_mangle 26 = .ok (.iconst 4, 1) := by decide +kernel
theorem d_M_mangle_27 : decode b_M_mangle 27 = .ok (.iload 7, 2) := by decide +kernel
theorem d_M_mangle_29 : decode b_M_mangle 29 = .ok (.imul, 1) := by decide +kernel
theorem d_M_mangle_30 : decode b_M_mangle 30 = .ok (.iload 9, 2) := by decide +kernel
theorem d_M_mangle_32 : decode b_M_mangle 32 = .ok (.iadd, 1) := by decide +kernel
theorem d_M_mangle_33 : decode b_M_mangle 33 = .ok (.bipush 31, 2) := by decide +kernel
theorem d_M_mangle_35 : decode b_M_mangle 35 = .ok (.iadd, 1) := by decide +kernel
theorem d_M_mangle_36 : decode b_M_mangle 36 = .ok (.bipush 32, 2) := by decide +kernel
theorem d_M_mangle_38 : decode b_M_mangle 38 = .ok (.irem, 1) := by decide +kernel
theorem d_M_mangle_39 : decode b_M_mangle 39 = .ok (.iconst 1, 1) := by decide +kernel
theorem d_M_mangle_40 : decode b_M_mangle 40 = .ok (.iadd, 1) := by decide +kernel
theorem d_M_mangle_41 : decode b_M_mangle 41 = .ok (.istore 10, 2) := by decide +kernel
theorem d_M_mangle_43 : decode b_M_mangle 43 = .ok (.iload 8, 2) := by decide +kernel
theorem d_M_mangle_45 : decode b_M_mangle 45 = .ok (.iconst 1, 1) := by decide +kernel
theorem d_M_mangle_46 : decode b_M_mangle 46 = .ok (.ishl, 1) := by decide +kernel
theorem d_M_mangle_47 : decode b_M_mangle 47 = .ok (.lload_n 1, 1) := by decide +kernel
theorem d_M_mangle_48 : decode b_M_mangle 48 = .ok (.iload 10, 2) := by decide +kernel
theorem d_M_mangle_50 : decode b_M_mangle 50 = .ok (.bipush 32, 2) := by decide +kernel
theorem d_M_mangle_52 : decode b_M_mangle 52 = .ok (.invokestatic 70, 3) := by decide +kernel
theorem d_M_mangle_55 : decode b_M_mangle 55 = .ok (.lload_n 3, 1) := by decide +kernel
theorem d_M_mangle_56 : decode b_M_mangle 56 = .ok (.bipush 6, 2) := by decide +kernel
theorem d_M_mangle_58 : decode b_M_mangle 58 = .ok (.iload 7, 2) := by decide +kernel
theorem d_M_mangle_60 : decode b_M_mangle 60 = .ok (.imul, 1) := by decide +kernel
theorem d_M_mangle_61 : decode b_M_mangle 61 = .ok (.iload 9, 2) := by decide +kernel
theorem d_M_mangle_63 : decode b_M_mangle 63 = .ok (.iadd, 1) := by decide +kernel
theorem d_M_mangle_64 : decode b_M_mangle 64 = .ok (.iconst 1, 1) := by decide +kernel
theorem d_M_mangle_65 : decode b_M_mangle 65 = .ok (.iadd, 1) := by decide +kernel
theorem d_M_mangle_66 : decode b_M_mangle 66 = .ok (.bipush 48, 2) := by decide +kernel
theorem d_M_mangle_68 : decode b_M_mangle 68 = .ok (.invokestatic 70, 3) := by decide +kernel
theorem d_M_mangle_71 : decode b_M_mangle 71 = .ok (.lxor, 1) := by decide +kernel
theorem d_M_mangle_72 : decode b_M_mangle 72 = .ok (.l2i, 1) := by decide +kernel
theorem d_M_mangle_73 : decode b_M_mangle 73 = .ok (.ior, 1) := by decide +kernel
theorem d_M_mangle_74 : decode b_M_mangle 74 = .ok (.istore 8, 2) := by decide +kernel
theorem d_M_mangle_76 : decode b_M_mangle 76 = .ok (.iinc 9 1, 3) := by decide +kernel
theorem d_M_mangle_79 : decode b_M_mangle 79 = .ok (.goto (-60), 3) := by decide +kernel
theorem d_M_mangle_82 : decode b_M_mangle 82 = .ok (.iload 8, 2) := by decide +kernel
theorem d_M_mangle_84 : decode b_M_mangle 84 = .ok (.iconst 4, 1) := by decide +kernel
theorem d_M_mangle_85 : decode b_M_mangle 85 = .ok (.ishr, 1) := by decide +kernel
theorem d_M_mangle_86 : decode b_M_mangle 86 = .ok (.iconst 2, 1) := by decide +kernel
theorem d_M_mangle_87 : decode b_M_mangle 87 = .ok (.iand, 1) := by decide +kernel
theorem d_M_mangle_88 : decode b_M_mangle 88 = .ok (.iload 8, 2) := by decide +kernel
theorem d_M_mangle_90 : decode b_M_mangle 90 = .ok (.iconst 1, 1) := by decide +kernel
theorem d_M_mangle_91 : decode b_M_mangle 91 = .ok (.iand, 1) := by decide +kernel
theorem d_M_mangle_92 : decode b_M_mangle 92 = .ok (.ior, 1) := by decide +kernel
theorem d_M_mangle_93 : decode b_M_mangle 93 = .ok (.istore 9, 2) := by decide +kernel
theorem d_M_mangle_95 : decode b_M_mangle 95 = .ok (.lload 5, 2) := by decide +kernel
theorem d_M_mangle_97 : decode b_M_mangle 97 = .ok (.iconst 4, 1) := by decide +kernel
theorem d_M_mangle_98 : decode b_M_mangle 98 = .ok (.lshl, 1) := by decide +kernel
theorem d_M_mangle_99 : decode b_M_mangle 99 = .ok (.aload_n 0, 1) := by decide +kernel
theorem d_M_mangle_100 : decode b_M_mangle 100 = .ok (.getfield 19, 3) := by decide +kernel
theorem d_M_mangle_103 : decode b_M_mangle 103 = .ok (.bipush 64, 2) := by decide +kernel
theorem d_M_mangle_105 : decode b_M_mangle 105 = .ok (.iload 7, 2) := by decide +kernel
theorem d_M_mangle_107 : decode b_M_mangle 107 = .ok (.imul, 1) := by decide +kernel
theorem d_M_mangle_108 : decode b_M_mangle 108 = .ok (.bipush 16, 2) := by decide +kernel
theorem d_M_mangle_110 : decode b_M_mangle 110 = .ok (.iload 9, 2) := by decide +kernel
theorem d_M_mangle_112 : decode b_M_mangle 112 = .ok (.imul, 1) := by decide +kernel
theorem d_M_mangle_113 : decode b_M_mangle 113 = .ok (.iadd, 1) := by decide +kernel
theorem d_M_mangle_114 : decode b_M_mangle 114 = .ok (.iload 8, 2) := by decide +kernel
theorem d_M_mangle_116 : decode b_M_mangle 116 = .ok (.iconst 1, 1) := by decide +kernel
theorem d_M_mangle_117 : decode b_M_mangle 117 = .ok (.ishr, 1) := by decide +kernel
theorem d_M_mangle_118 : decode b_M_mangle 118 = .ok (.bipush 15, 2) := by decide +kernel
theorem d_M_mangle_120 : decode b_M_mangle 120 = .ok (.iand, 1) := by decide +kernel
theorem d_M_mangle_121 : decode b_M_mangle 121 = .ok (.iadd, 1) := by decide +kernel
theorem d_M_mangle_122 : decode b_M_mangle 122 = .ok (.iaload, 1) := by decide +kernel
theorem d_M_mangle_123 : decode b_M_mangle 123 = .ok (.i2l, 1) := by decide +kernel
theorem d_M_mangle_124 : decode b_M_mangle 124 = .ok (.lor, 1) := by decide +kernel
theorem d_M_mangle_125 : decode b_M_mangle 125 = .ok (.lstore 5, 2) := by decide +kernel
theorem d_M_mangle_127 : decode b_M_mangle 127 = .ok (.iinc 7 1, 3) := by decide +kernel
theorem d_M_mangle_130 : decode b_M_mangle 130 = .ok (.goto (-124), 3) := by decide +kernel
theorem d_M_mangle_133 : decode b_M_mangle 133 = .ok (.lconst 0, 1) := by decide +kernel
theorem d_M_mangle_134 : decode b_M_mangle 134 = .ok (.lstore 7, 2) := by decide +kernel
theorem d_M_mangle_136 : decode b_M_mangle 136 = .ok (.iconst 0, 1) := by decide +kernel
theorem d_M_mangle_137 : decode b_M_mangle 137 = .ok (.istore 9, 2) := by decide +kernel
theorem d_M_mangle_139 : decode b_M_mangle 139 = .ok (.iload 9, 2) := by decide +kernel
theorem d_M_mangle_141 : decode b_M_mangle 141 = .ok (.bipush 32, 2) := by decide +kernel
theorem d_M_mangle_143 : decode b_M_mangle 143 = .ok (.if_icmp .ge 30, 3) := by decide +kernel
theorem d_M_mangle_146 : decode b_M_mangle 146 = .ok (.lload 7, 2) := by decide +kernel
theorem d_M_mangle_148 : decode b_M_mangle 148 = .ok (.iconst 1, 1) := by decide +kernel
theorem d_M_mangle_149 : decode b_M_mangle 149 = .ok (.lshl, 1) := by decide +kernel
theorem d_M_mangle_150 : decode b_M_mangle 150 = .ok (.lload 5, 2) := by decide +kernel
theorem d_M_mangle_152 : decode b_M_mangle 152 = .ok (.aload_n 0, 1) := by decide +kernel
theorem d_M_mangle_153 : decode b_M_mangle 153 = .ok (.getfield 7, 3) := by decide +kernel
theorem d_M_mangle_156 : decode b_M_mangle 156 = .ok (.iload 9, 2) := by decide +kernel
theorem d_M_mangle_158 : decode b_M_mangle 158 = .ok (.iaload, 1) := by decide +kernel
theorem d_M_mangle_159 : decode b_M_mangle 159 = .ok (.bipush 32, 2) := by decide +kernel
theorem d_M_mangle_161 : decode b_M_mangle 161 = .ok (.invokestatic 70, 3) := by decide +kernel
theorem d_M_mangle_164 : decode b_M_mangle 164 = .ok (.lor, 1) := by decide +kernel
theorem d_M_mangle_165 : decode b_M_mangle 165 = .ok (.lstore 7, 2) := by decide +kernel
theorem d_M_mangle_167 : decode b_M_mangle 167 = .ok (.iinc 9 1, 3) := by decide +kernel
theorem d_M_mangle_170 : decode b_M_mangle 170 = .ok (.goto (-31), 3) := by decide +kernel
theorem d_M_mangle_173 : decode b_M_mangle 173 = .ok (.lload 7, 2) := by decide +kernel
theorem d_M_mangle_175 : decode b_M_mangle 175 = .ok (.lreturn, 1) := by decide +kernel
set_option maxRecDepth 100000 in
set_option maxHeartbeats 4000000 in
theorem c_M_mangle (l : Launch) (G : Gt) (zm zmp zm1 zm2 zmx zmh zmt zmu zme zma zmb zmk zmc zmd zmi zmo zmf zmg zmn : Nat) (th ys : Int32) (yl yr : Int64) (yv : Nat → Int64) (yt yu ye : Nat → Int32) (ya yb : Nat → Int64) (yk : Nat → Int32) (yc yd yi : Nat → Int64) (yo : Nat → Int32) (yf yg yn : Nat → Int64) (yp yq : Int64) (yw : Int32) (yx : Int64) (a b : Int64) : CtL l G y_M_mangle b_M_mangle 11 (some .long) rm_M_mangle E0 [.ref zm, .long a, .long b] [ob zm 5 [.ref zmp, .ref zm1, .ref zm2, .ref zmx, .int th, .ref zmh, .ref zmt, .int ys, .long yl, .long yr, .ref zmu, .ref zme, .ref zma, .ref zmb, .ref zmk, .ref zmc, .ref zmd, .ref zmi, .ref zmo, .ref zmf, .ref zmg, .ref zmn, .long yp, .long yq, .int yw, .long yx], aI G zmp 32 tb_perm, aI G zm1 56 tb_c1, aI G zm2 48 tb_c2, aI G zmx 512 tb_box, aJ G zmh 6 yv, aZ G zmt 6 yt, aI G zmu 16 yu, aZ G zme 16 ye, aJ G zma 16 ya, aJ G zmb 16 yb, aZ G zmk 8 yk, aJ G zmc 8 yc, aJ G zmd 8 yd, aJ G zmi 8 yi, aI G zmo 8 yo, aJ G zmf 5 yf, aJ G zmg 8 yg, aJ G zmn 16 yn] (fun r (_ : Unit) => r = mang a b) (fun _ => [ob zm 5 [.ref zmp, .ref zm1, .ref zm2, .ref zmx, .int th, .ref zmh, .ref zmt, .int ys, .long yl, .long yr, .ref zmu, .ref zme, .ref zma, .ref zmb, .ref zmk, .ref zmc, .ref zmd, .ref zmi, .ref zmo, .ref zmf, .ref zmg, .ref zmn, .long yp, .long yq, .int yw, .long yx], aI G zmp 32 tb_perm, aI G zm1 56 tb_c1, aI G zm2 48 tb_c2, aI G zmx 512 tb_box, aJ G zmh 6 yv, aZ G zmt 6 yt, aI G zmu 16 yu, aZ G zme 16 ye, aJ G zma 16 ya, aJ G zmb 16 yb, aZ G zmk 8 yk, aJ G zmc 8 yc, aJ G zmd 8 yd, aJ G zmi 8 yi, aI G zmo 8 yo, aJ G zmf 5 yf, aJ G zmg 8 yg, aJ G zmn 16 yn]) 0 0 := by
  refine Ct.of (Qp := fun A => va_Ql _ (qB G A _) A) Stb_0 (by decide) (Nat.le_of_ble_eq_true rfl) ?_
  intro p e s m args below meth c A X hE hr hlk hini
  refine pv_eql (ll2 := [(0, .ref zm), (1, .long a), (3, .long b)]) rfl ?_
  refine pv_lconst X 0 d_M_mangle_0 (by decide) ?_
  refine pv_lstore (ll2 := [(5, .long (0 : Int64)), (0, .ref zm), (1, .long a), (3, .long b)]) X d_M_mangle_1 (by decide) rfl ?_
  refine pv_iconst X 0 d_M_mangle_3 (by decide) ?_
  refine pv_istore (ll2 := [(7, .int 0), (5, .long (0 : Int64)), (0, .ref zm), (1, .long a), (3, .long b)]) X d_M_mangle_4 (by decide) rfl ?_
  refine pv_lpick (ll2 := [(7, .int (nI 0)), (5, .long (mou a b 0)), (0, .ref zm), (1, .long a), (3, .long b)]) [0, 1, 2, 3, 4] rfl ?_
  refine pv_eqw (ws2 := [ob zm 5 [.ref zmp, .ref zm1, .ref zm2, .ref zmx, .int th, .ref zmh, .ref zmt, .int ys, .long yl, .long yr, .ref zmu, .ref zme, .ref zma, .ref zmb, .ref zmk, .ref zmc, .ref zmd, .ref zmi, .ref zmo, .ref zmf, .ref zmg, .ref zmn, .long yp, .long yq, .int yw, .long yx], aI G zmp 32 tb_perm, aI G zm1 56 tb_c1, aI G zm2 48 tb_c2, aI G zmx 512 tb_box, aJ G zmh 6 yv, aZ G zmt 6 yt, aI G zmu 16 yu, aZ G zme 16 ye, aJ G zma 16 ya, aJ G zmb 16 yb, aZ G zmk 8 yk, aJ G zmc 8 yc, aJ G zmd 8 yd, aJ G zmi 8 yi, aI G zmo 8 yo, aJ G zmf 5 yf, aJ G zmg 8 yg, aJ G zmn 16 yn]) rfl ?_
  refine pv_loop 8 (fun q => True) (fun q => [ob zm 5 [.ref zmp, .ref zm1, .ref zm2, .ref zmx, .int th, .ref zmh, .ref zmt, .int ys, .long yl, .long yr, .ref zmu, .ref zme, .ref zma, .ref zmb, .ref zmk, .ref zmc, .ref zmd, .ref zmi, .ref zmo, .ref zmf, .ref zmg, .ref zmn, .long yp, .long yq, .int yw, .long yx], aI G zmp 32 tb_perm, aI G zm1 56 tb_c1, aI G zm2 48 tb_c2, aI G zmx 512 tb_box, aJ G zmh 6 yv, aZ G zmt 6 yt, aI G zmu 16 yu, aZ G zme 16 ye, aJ G zma 16 ya, aJ G zmb 16 yb, aZ G zmk 8 yk, aJ G zmc 8 yc, aJ G zmd 8 yd, aJ G zmi 8 yi, aI G zmo 8 yo, aJ G zmf 5 yf, aJ G zmg 8 yg, aJ G zmn 16 yn]) (fun q => [(7, .int (nI q)), (5, .long (mou a b q)), (0, .ref zm), (1, .long a), (3, .long b)]) 0 (by omega) trivial (fun hI_q => ?_) (fun q h_q hI_q ih_q => ?_)
  · skip
    refine pv_iload X 0 d_M_mangle_6 rfl ?_
    refine pv_bipush X 8 d_M_mangle_8 (by decide) ?_
    refine pv_icmp_ge X 133 d_M_mangle_10 rfl (fun _ => ?_) (fun h => absurd (by decide) h)
    refine pv_lconst X 0 d_M_mangle_133 (by decide) ?_
    refine pv_lstore (ll2 := [(7, .long (0 : Int64)), (5, .long (mou a b 8)), (0, .ref zm), (1, .long a), (3, .long b)]) X d_M_mangle_134 (by decide) rfl ?_
    refine pv_iconst X 0 d_M_mangle_136 (by decide) ?_
    refine pv_istore (ll2 := [(9, .int 0), (7, .long (0 : Int64)), (5, .long (mou a b 8)), (0, .ref zm), (1, .long a), (3, .long b)]) X d_M_mangle_137 (by decide) rfl ?_
    refine pv_lpick (ll2 := [(9, .int (nI 0)), (7, .long (pk (mou a b 8) 32 tb_perm 0)), (5, .long (mou a b 8)), (0, .ref zm)]) [0, 1, 2, 3] rfl ?_
    refine pv_eqw (ws2 := [ob zm 5 [.ref zmp, .ref zm1, .ref zm2, .ref zmx, .int th, .ref zmh, .ref zmt, .int ys, .long yl, .long yr, .ref zmu, .ref zme, .ref zma, .ref zmb, .ref zmk, .ref zmc, .ref zmd, .ref zmi, .ref zmo, .ref zmf, .ref zmg, .ref zmn, .long yp, .long yq, .int yw, .long yx], aI G zmp 32 tb_perm, aI G zm1 56 tb_c1, aI G zm2 48 tb_c2, aI G zmx 512 tb_box, aJ G zmh 6 yv, aZ G zmt 6 yt, aI G zmu 16 yu, aZ G zme 16 ye, aJ G zma 16 ya, aJ G zmb 16 yb, aZ G zmk 8 yk, aJ G zmc 8 yc, aJ G zmd 8 yd, aJ G zmi 8 yi, aI G zmo 8 yo, aJ G zmf 5 yf, aJ G zmg 8 yg, aJ G zmn 16 yn]) rfl ?_
    refine pv_loop 32 (fun i => True) (fun i => [ob zm 5 [.ref zmp, .ref zm1, .ref zm2, .ref zmx, .int th, .ref zmh, .ref zmt, .int ys, .long yl, .long yr, .ref zmu, .ref zme, .ref zma, .ref zmb, .ref zmk, .ref zmc, .ref zmd, .ref zmi, .ref zmo, .ref zmf, .ref zmg, .ref zmn, .long yp, .long yq, .int yw, .long yx], aI G zmp 32 tb_perm, aI G zm1 56 tb_c1, aI G zm2 48 tb_c2, aI G zmx 512 tb_box, aJ G zmh 6 yv, aZ G zmt 6 yt, aI G zmu 16 yu, aZ G zme 16 ye, aJ G zma 16 ya, aJ G zmb 16 yb, aZ G zmk 8 yk, aJ G zmc 8 yc, aJ G zmd 8 yd, aJ G zmi 8 yi, aI G zmo 8 yo, aJ G zmf 5 yf, aJ G zmg 8 yg, aJ G zmn 16 yn]) (fun i => [(9, .int (nI i)), (7, .long (pk (mou a b 8) 32 tb_perm i)), (5, .long (mou a b 8)), (0, .ref zm)]) 0 (by omega) trivial (fun hI_i => ?_) (fun i h_i hI_i ih_i => ?_)
    · skip
      refine pv_iload X 0 d_M_mangle_139 rfl ?_
      refine pv_bipush X 32 d_M_mangle_141 (by decide) ?_
      refine pv_icmp_ge X 173 d_M_mangle_143 rfl (fun _ => ?_) (fun h => absurd (by decide) h)
      refine pv_lload X 1 d_M_mangle_173 rfl ?_
      exact pv_lret X hr hlk () rfl rfl d_M_mangle_175
    · skip
      refine pv_iload X 0 d_M_mangle_139 rfl ?_
      refine pv_bipush X 32 d_M_mangle_141 (by decide) ?_
      refine pv_icmp_ge X 173 d_M_mangle_143 rfl (fun h => absurd h (nI_ge h_i (by decide))) (fun _ => ?_)
      refine pv_lload X 1 d_M_mangle_146 rfl ?_
      refine pv_iconst X 1 d_M_mangle_148 (by decide) ?_
      refine pv_lshl X d_M_mangle_149 ?_
      refine pv_lload X 2 d_M_mangle_150 rfl ?_
      refine pv_aload_n X 3 d_M_mangle_152 rfl ?_
      refine pv_get X 0 0 u_M_in m_574 rfl rfl (by decide) ⟨rfl, rfl, rfl⟩ rfl d_M_mangle_153 ?_
      refine pv_iload X 0 d_M_mangle_156 rfl ?_
      refine pv_iald X 1 rfl (vp_in_nI (by omega) (by omega)) d_M_mangle_158 ?_
      refine pv_topi (tb_perm i) (congrArg tb_perm (nI_clamp (by omega))) ?_
      refine pv_bipush X 32 d_M_mangle_159 (by decide) ?_
      refine pv_calll0 X (rn_S X (c_M_bit l G (mou a b 8) (tb_perm i) 32) trivial mf_M_bit m_694 m_695 rfl (by decide) (by decide) rfl (Nat.le_of_ble_eq_true rfl) d_M_mangle_161) ?_
      refine pv_lor X d_M_mangle_164 ?_
      refine pv_lstore (ll2 := [(7, .long (((pk (mou a b 8) 32 tb_perm i) <<< ((1 : Int32).toInt64 &&& 63)) ||| (f_M_bit (mou a b 8) (tb_perm i) 32))), (9, .int (nI i)), (5, .long (mou a b 8)), (0, .ref zm)]) X d_M_mangle_165 (by decide) rfl ?_
      refine pv_iinc (ll2 := [(9, .int (nI (i + 1))), (7, .long (((pk (mou a b 8) 32 tb_perm i) <<< ((1 : Int32).toInt64 &&& 63)) ||| (f_M_bit (mou a b 8) (tb_perm i) 32))), (5, .long (mou a b 8)), (0, .ref zm)]) X 1 (nI (i + 1)) d_M_mangle_167 rfl (nI_1 _) (by decide) rfl ?_
      refine pv_goto X 139 d_M_mangle_170 rfl ?_
      refine pv_lpick (ll2 := [(9, .int (nI (i + 1))), (7, .long (pk (mou a b 8) 32 tb_perm (i + 1))), (5, .long (mou a b 8)), (0, .ref zm)]) [0, 1, 2, 3] rfl ?_
      refine pv_eqw (ws2 := [ob zm 5 [.ref zmp, .ref zm1, .ref zm2, .ref zmx, .int th, .ref zmh, .ref zmt, .int ys, .long yl, .long yr, .ref zmu, .ref zme, .ref zma, .ref zmb, .ref zmk, .ref zmc, .ref zmd, .ref zmi, .ref zmo, .ref zmf, .ref zmg, .ref zmn, .long yp, .long yq, .int yw, .long yx], aI G zmp 32 tb_perm, aI G zm1 56 tb_c1, aI G zm2 48 tb_c2, aI G zmx 512 tb_box, aJ G zmh 6 yv, aZ G zmt 6 yt, aI G zmu 16 yu, aZ G zme 16 ye, aJ G zma 16 ya, aJ G zmb 16 yb, aZ G zmk 8 yk, aJ G zmc 8 yc, aJ G zmd 8 yd, aJ G zmi 8 yi, aI G zmo 8 yo, aJ G zmf 5 yf, aJ G zmg 8 yg, aJ G zmn 16 yn]) rfl ?_
      exact ih_i trivial
  · skip
    refine pv_iload X 0 d_M_mangle_6 rfl ?_
    refine pv_bipush X 8 d_M_mangle_8 (by decide) ?_
    refine pv_icmp_ge X 133 d_M_mangle_10 rfl (fun h => absurd h (nI_ge h_q (by decide))) (fun _ => ?_)
    refine pv_iconst X 0 d_M_mangle_13 (by decide) ?_
    refine pv_istore (ll2 := [(8, .int 0), (7, .int (nI q)), (5, .long (mou a b q)), (0, .ref zm), (1, .long a), (3, .long b)]) X d_M_mangle_14 (by decide) rfl ?_
    refine pv_iconst X 0 d_M_mangle_16 (by decide) ?_
    refine pv_istore (ll2 := [(9, .int 0), (8, .int 0), (7, .int (nI q)), (5, .long (mou a b q)), (0, .ref zm), (1, .long a), (3, .long b)]) X d_M_mangle_17 (by decide) rfl ?_
    refine pv_lpick (ll2 := [(9, .int (nI 0)), (8, .int (msx a b q 0)), (7, .int (nI q)), (5, .long (mou a b q)), (0, .ref zm), (1, .long a), (3, .long b)]) [0, 1, 2, 3, 4, 5, 6] rfl ?_
    refine pv_eqw (ws2 := [ob zm 5 [.ref zmp, .ref zm1, .ref zm2, .ref zmx, .int th, .ref zmh, .ref zmt, .int ys, .long yl, .long yr, .ref zmu, .ref zme, .ref zma, .ref zmb, .ref zmk, .ref zmc, .ref zmd, .ref zmi, .ref zmo, .ref zmf, .ref zmg, .ref zmn, .long yp, .long yq, .int yw, .long yx], aI G zmp 32 tb_perm, aI G zm1 56 tb_c1, aI G zm2 48 tb_c2, aI G zmx 512 tb_box, aJ G zmh 6 yv, aZ G zmt 6 yt, aI G zmu 16 yu, aZ G zme 16 ye, aJ G zma 16 ya, aJ G zmb 16 yb, aZ G zmk 8 yk, aJ G zmc 8 yc, aJ G zmd 8 yd, aJ G zmi 8 yi, aI G zmo 8 yo, aJ G zmf 5 yf, aJ G zmg 8 yg, aJ G zmn 16 yn]) rfl ?_
    refine pv_loop 6 (fun j => True) (fun j => [ob zm 5 [.ref zmp, .ref zm1, .ref zm2, .ref zmx, .int th, .ref zmh, .ref zmt, .int ys, .long yl, .long yr, .ref zmu, .ref zme, .ref zma, .ref zmb, .ref zmk, .ref zmc, .ref zmd, .ref zmi, .ref zmo, .ref zmf, .ref zmg, .ref zmn, .long yp, .long yq, .int yw, .long yx], aI G zmp 32 tb_perm, aI G zm1 56 tb_c1, aI G zm2 48 tb_c2, aI G zmx 512 tb_box, aJ G zmh 6 yv, aZ G zmt 6 yt, aI G zmu 16 yu, aZ G zme 16 ye, aJ G zma 16 ya, aJ G zmb 16 yb, aZ G zmk 8 yk, aJ G zmc 8 yc, aJ G zmd 8 yd, aJ G zmi 8 yi, aI G zmo 8 yo, aJ G zmf 5 yf, aJ G zmg 8 yg, aJ G zmn 16 yn]) (fun j => [(9, .int (nI j)), (8, .int (msx a b q j)), (7, .int (nI q)), (5, .long (mou a b q)), (0, .ref zm), (1, .long a), (3, .long b)]) 0 (by omega) trivial (fun hI_j => ?_) (fun j h_j hI_j ih_j => ?_)
    · skip
      refine pv_iload X 0 d_M_mangle_19 rfl ?_
      refine pv_bipush X 6 d_M_mangle_21 (by decide) ?_
      refine pv_icmp_ge X 82 d_M_mangle_23 rfl (fun _ => ?_) (fun h => absurd (by decide) h)
      refine pv_iload X 1 d_M_mangle_82 rfl ?_
      refine pv_iconst X 4 d_M_mangle_84 (by decide) ?_
      refine pv_ishr X d_M_mangle_85 ?_
      refine pv_iconst X 2 d_M_mangle_86 (by decide) ?_
      refine pv_iand X d_M_mangle_87 ?_
      refine pv_iload X 1 d_M_mangle_88 rfl ?_
      refine pv_iconst X 1 d_M_mangle_90 (by decide) ?_
      refine pv_iand X d_M_mangle_91 ?_
      refine pv_ior X d_M_mangle_92 ?_
      refine pv_istore (ll2 := [(9, .int ((((msx a b q 6) >>> (4 &&& 31)) &&& 2) ||| ((msx a b q 6) &&& 1))), (8, .int (msx a b q 6)), (7, .int (nI q)), (5, .long (mou a b q)), (0, .ref zm), (1, .long a), (3, .long b)]) X d_M_mangle_93 (by decide) rfl ?_
      refine pv_lload X 3 d_M_mangle_95 rfl ?_
      refine pv_iconst X 4 d_M_mangle_97 (by decide) ?_
      refine pv_lshl X d_M_mangle_98 ?_
      refine pv_aload_n X 4 d_M_mangle_99 rfl ?_
      refine pv_get X 0 3 u_M_in m_577 rfl rfl (by decide) ⟨rfl, rfl, rfl⟩ rfl d_M_mangle_100 ?_
      refine pv_bipush X 64 d_M_mangle_103 (by decide) ?_
      refine pv_iload X 2 d_M_mangle_105 rfl ?_
      refine pv_imul X d_M_mangle_107 ?_
      refine pv_bipush X 16 d_M_mangle_108 (by decide) ?_
      refine pv_iload X 0 d_M_mangle_110 rfl ?_
      refine pv_imul X d_M_mangle_112 ?_
      refine pv_iadd X d_M_mangle_113 ?_
      refine pv_iload X 1 d_M_mangle_114 rfl ?_
      refine pv_iconst X 1 d_M_mangle_116 (by decide) ?_
      refine pv_ishr X d_M_mangle_117 ?_
      refine pv_bipush X 15 d_M_mangle_118 (by decide) ?_
      refine pv_iand X d_M_mangle_120 ?_
      refine pv_iadd X d_M_mangle_121 ?_
      refine pv_topi (mix (msx a b q 6) q) rfl ?_
      refine pv_iald X 4 rfl (mix_in (msx a b q 6) h_q) d_M_mangle_122 ?_
      refine pv_i2l X d_M_mangle_123 ?_
      refine pv_lor X d_M_mangle_124 ?_
      refine pv_lstore (ll2 := [(5, .long (((mou a b q) <<< ((4 : Int32).toInt64 &&& 63)) ||| ((tb_box (mix (msx a b q 6) q).toNatClampNeg).toInt64))), (9, .int ((((msx a b q 6) >>> (4 &&& 31)) &&& 2) ||| ((msx a b q 6) &&& 1))), (8, .int (msx a b q 6)), (7, .int (nI q)), (0, .ref zm), (1, .long a), (3, .long b)]) X d_M_mangle_125 (by decide) rfl ?_
      refine pv_iinc (ll2 := [(7, .int (nI (q + 1))), (5, .long (((mou a b q) <<< ((4 : Int32).toInt64 &&& 63)) ||| ((tb_box (mix (msx a b q 6) q).toNatClampNeg).toInt64))), (9, .int ((((msx a b q 6) >>> (4 &&& 31)) &&& 2) ||| ((msx a b q 6) &&& 1))), (8, .int (msx a b q 6)), (0, .ref zm), (1, .long a), (3, .long b)]) X 3 (nI (q + 1)) d_M_mangle_127 rfl (nI_1 _) (by decide) rfl ?_
      refine pv_goto X 6 d_M_mangle_130 rfl ?_
      refine pv_lpick (ll2 := [(7, .int (nI (q + 1))), (5, .long (mou a b (q + 1))), (0, .ref zm), (1, .long a), (3, .long b)]) [0, 1, 4, 5, 6] rfl ?_
      refine pv_eqw (ws2 := [ob zm 5 [.ref zmp, .ref zm1, .ref zm2, .ref zmx, .int th, .ref zmh, .ref zmt, .int ys, .long yl, .long yr, .ref zmu, .ref zme, .ref zma, .ref zmb, .ref zmk, .ref zmc, .ref zmd, .ref zmi, .ref zmo, .ref zmf, .ref zmg, .ref zmn, .long yp, .long yq, .int yw, .long yx], aI G zmp 32 tb_perm, aI G zm1 56 tb_c1, aI G zm2 48 tb_c2, aI G zmx 512 tb_box, aJ G zmh 6 yv, aZ G zmt 6 yt, aI G zmu 16 yu, aZ G zme 16 ye, aJ G zma 16 ya, aJ G zmb 16 yb, aZ G zmk 8 yk, aJ G zmc 8 yc, aJ G zmd 8 yd, aJ G zmi 8 yi, aI G zmo 8 yo, aJ G zmf 5 yf, aJ G zmg 8 yg, aJ G zmn 16 yn]) rfl ?_
      exact ih_q trivial
    · skip
      refine pv_iload X 0 d_M_mangle_19 rfl ?_
      refine pv_bipush X 6 d_M_mangle_21 (by decide) ?_
      refine pv_icmp_ge X 82 d_M_mangle_23 rfl (fun h => absurd h (nI_ge h_j (by decide))) (fun _ => ?_)
      refine pv_iconst X 4 d_M_mangle_26 (by decide) ?_
      refine pv_iload X 2 d_M_mangle_27 rfl ?_
      refine pv_imul X d_M_mangle_29 ?_
      refine pv_iload X 0 d_M_mangle_30 rfl ?_
      refine pv_iadd X d_M_mangle_32 ?_
      refine pv_bipush X 31 d_M_mangle_33 (by decide) ?_
      refine pv_iadd X d_M_mangle_35 ?_
      refine pv_bipush X 32 d_M_mangle_36 (by decide) ?_
      refine pv_irem X d_M_mangle_38 (by decide) ?_
      refine pv_iconst X 1 d_M_mangle_39 (by decide) ?_
      refine pv_iadd X d_M_mangle_40 ?_
      refine pv_istore (ll2 := [(10, .int (((((4 * (nI q)) + (nI j)) + 31) - (((4 * (nI q)) + (nI j)) + 31) / 32 * 32) + 1)), (9, .int (nI j)), (8, .int (msx a b q j)), (7, .int (nI q)), (5, .long (mou a b q)), (0, .ref zm), (1, .long a), (3, .long b)]) X d_M_mangle_41 (by decide) rfl ?_
      refine pv_iload X 2 d_M_mangle_43 rfl ?_
      refine pv_iconst X 1 d_M_mangle_45 (by decide) ?_
      refine pv_ishl X d_M_mangle_46 ?_
      refine pv_lload_n X 6 d_M_mangle_47 rfl ?_
      refine pv_iload X 0 d_M_mangle_48 rfl ?_
      refine pv_bipush X 32 d_M_mangle_50 (by decide) ?_
      refine pv_calll0 X (rn_S X (c_M_bit l G a (((((4 * (nI q)) + (nI j)) + 31) - (((4 * (nI q)) + (nI j)) + 31) / 32 * 32) + 1) 32) trivial mf_M_bit m_694 m_695 rfl (by decide) (by decide) rfl (Nat.le_of_ble_eq_true rfl) d_M_mangle_52) ?_
      refine pv_lload_n X 7 d_M_mangle_55 rfl ?_
      refine pv_bipush X 6 d_M_mangle_56 (by decide) ?_
      refine pv_iload X 3 d_M_mangle_58 rfl ?_
      refine pv_imul X d_M_mangle_60 ?_
      refine pv_iload X 1 d_M_mangle_61 rfl ?_
      refine pv_iadd X d_M_mangle_63 ?_
      refine pv_iconst X 1 d_M_mangle_64 (by decide) ?_
      refine pv_iadd X d_M_mangle_65 ?_
      refine pv_bipush X 48 d_M_mangle_66 (by decide) ?_
      refine pv_calll0 X (rn_S X (c_M_bit l G b (((6 * (nI q)) + (nI j)) + 1) 48) trivial mf_M_bit m_694 m_695 rfl (by decide) (by decide) rfl (Nat.le_of_ble_eq_true rfl) d_M_mangle_68) ?_
      refine pv_lxor X d_M_mangle_71 ?_
      refine pv_l2i X d_M_mangle_72 ?_
      refine pv_ior X d_M_mangle_73 ?_
      refine pv_istore (ll2 := [(8, .int (((msx a b q j) <<< (1 &&& 31)) ||| (((f_M_bit a (((((4 * (nI q)) + (nI j)) + 31) - (((4 * (nI q)) + (nI j)) + 31) / 32 * 32) + 1) 32) ^^^ (f_M_bit b (((6 * (nI q)) + (nI j)) + 1) 48)).toInt32))), (10, .int (((((4 * (nI q)) + (nI j)) + 31) - (((4 * (nI q)) + (nI j)) + 31) / 32 * 32) + 1)), (9, .int (nI j)), (7, .int (nI q)), (5, .long (mou a b q)), (0, .ref zm), (1, .long a), (3, .long b)]) X d_M_mangle_74 (by decide) rfl ?_
      refine pv_iinc (ll2 := [(9, .int (nI (j + 1))), (8, .int (((msx a b q j) <<< (1 &&& 31)) ||| (((f_M_bit a (((((4 * (nI q)) + (nI j)) + 31) - (((4 * (nI q)) + (nI j)) + 31) / 32 * 32) + 1) 32) ^^^ (f_M_bit b (((6 * (nI q)) + (nI j)) + 1) 48)).toInt32))), (10, .int (((((4 * (nI q)) + (nI j)) + 31) - (((4 * (nI q)) + (nI j)) + 31) / 32 * 32) + 1)), (7, .int (nI q)), (5, .long (mou a b q)), (0, .ref zm), (1, .long a), (3, .long b)]) X 2 (nI (j + 1)) d_M_mangle_76 rfl (nI_1 _) (by decide) rfl ?_
      refine pv_goto X 19 d_M_mangle_79 rfl ?_
      refine pv_lpick (ll2 := [(9, .int (nI (j + 1))), (8, .int (msx a b q (j + 1))), (7, .int (nI q)), (5, .long (mou a b q)), (0, .ref zm), (1, .long a), (3, .long b)]) [0, 1, 3, 4, 5, 6, 7] rfl ?_
      refine pv_eqw (ws2 := [ob zm 5 [.ref zmp, .ref zm1, .ref zm2, .ref zmx, .int th, .ref zmh, .ref zmt, .int ys, .long yl, .long yr, .ref zmu, .ref zme, .ref zma, .ref zmb, .ref zmk, .ref zmc, .ref zmd, .ref zmi, .ref zmo, .ref zmf, .ref zmg, .ref zmn, .long yp, .long yq, .int yw, .long yx], aI G zmp 32 tb_perm, aI G zm1 56 tb_c1, aI G zm2 48 tb_c2, aI G zmx 512 tb_box, aJ G zmh 6 yv, aZ G zmt 6 yt, aI G zmu 16 yu, aZ G zme 16 ye, aJ G zma 16 ya, aJ G zmb 16 yb, aZ G zmk 8 yk, aJ G zmc 8 yc, aJ G zmd 8 yd, aJ G zmi 8 yi, aI G zmo 8 yo, aJ G zmf 5 yf, aJ G zmg 8 yg, aJ G zmn 16 yn]) rfl ?_
      exact ih_j trivial
abbrev mini (k : Nat) : Int32 := f_M_initial (nI k)
def mdp (k : Int64) (ix : Nat → Nat) (m : Int64) : Nat → Int64 × Int64
  | 0 => ((m.toUInt64 >>> ((32 : Int32).toInt64.toUInt64 &&& Int64.toUInt64 63)).toInt64, m &&& 4294967295)
  | i + 1 => ((mdp k ix m i).2, (mdp k ix m i).1 ^^^ mang (mdp k ix m i).2 (mrk k (ix i)))
def mout (v : Int64) : Nat → Int64
  | 0 => 0
  | k + 1 => mout v k ||| (f_M_bit v (nI k + 1) 64 <<< ((64 - mini k).toInt64 &&& 63))
def mjo (p : Int64 × Int64) : Int64 := (p.2 <<< ((32 : Int32).toInt64 &&& 63)) ||| p.1
def f_mdes (k : Int64) (ix : Nat → Nat) (b : Int64) : Int64 := mout (mjo (mdp k ix (pk b 64 mini 64) 16)) 64
abbrev menc (k b : Int64) : Int64 := f_mdes k (fun i => i) b
abbrev mdec (k b : Int64) : Int64 := f_mdes k (fun i => 15 - i) b
abbrev rm_M_des : Room := { frames := 2, cells := 0, slots := 0, locals := 56 }
theorem mf_M_des : MF y_M_des b_M_des 15 (some .long) 3 := ⟨m_689, m_6, by decide, by decide, by decide +kernel⟩
theorem d_M_des_0 : decode b_M_des 0 = .ok (.aload_n 0, 1) := by decide +kernel
theorem d_M_des_1 : decode b_M_des 1 = .ok (.lload_n 1, 1) := by decide +kernel
theorem d_M_des_2 : decode b_M_des 2 = .ok (.invokevirtual 76, 3) := by decide +kernel
theorem d_M_des_5 : decode b_M_des 5 = .ok (.lconst 0, 1) := by decide +kernel
theorem d_M_des_6 : decode b_M_des 6 = .ok (.lstore 6, 2) := by decide +kernel
theorem d_M_des_8 : decode b_M_des 8 = .ok (.iconst 0, 1) := by decide +kernel
theorem d_M_des_9 : decode b_M_des 9 = .ok (.istore 8, 2) := by decide +kernel
theorem d_M_des_11 : decode b_M_des 11 = .ok (.iload 8, 2) := by decide +kernel
theorem d_M_des_13 : decode b_M_des 13 = .ok (.bipush 64, 2) := by decide +kernel
theorem d_M_des_15 : decode b_M_des 15 = .ok (.if_icmp .ge 27, 3) := by decide +kernel
theorem d_M_des_18 : decode b_M_des 18 = .ok (.lload 6, 2) := by decide +kernel
theorem d_M_des_20 : decode b_M_des 20 = .ok (.iconst 1, 1) := by decide +kernel
theorem d_M_des_21 : decode b_M_des 21 = .ok (.lshl, 1) := by decide +kernel
theorem d_M_des_22 : decode b_M_des 22 = .ok (.lload_n 3, 1) := by decide +kernel
theorem d_M_des_23 : decode b_M_des 23 = .ok (.iload 8, 2) := by decide +kernel
theorem d_M_des_25 : decode b_M_des 25 = .ok (.invokestatic 80, 3) := by decide +kernel
theorem d_M_des_28 : decode b_M_des 28 = .ok (.bipush 64, 2) := by decide +kernel
theorem d_M_des_30 : decode b_M_des 30 = .ok (.invokestatic 70, 3) := by decide +kernel
theorem d_M_des_33 : decode b_M_des 33 = .ok (.lor, 1) := by decide +kernel
theorem d_M_des_34 : decode b_M_des 34 = .ok (.lstore 6, 2) := by decide +kernel
theorem d_M_des_36 : decode b_M_des 36 = .ok (.iinc 8 1, 3) := by decide +kernel
theorem d_M_des_39 : decode b_M_des 39 = .ok (.goto (-28), 3) := by decide +kernel
theorem d_M_des_42 : decode b_M_des 42 = .ok (.lload 6, 2) := by decide +kernel
theorem d_M_des_44 : decode b_M_des 44 = .ok (.bipush 32, 2) := by decide +kernel
theorem d_M_des_46 : decode b_M_des 46 = .ok (.lushr, 1) := by decide +kernel
theorem d_M_des_47 : decode b_M_des 47 = .ok (.lstore 8, 2) := by decide +kernel
theorem d_M_des_49 : decode b_M_des 49 = .ok (.lload 6, 2) := by decide +kernel
theorem d_M_des_51 : decode b_M_des 51 = .ok (.ldc2_w 84, 3) := by decide +kernel
theorem d_M_des_54 : decode b_M_des 54 = .ok (.land, 1) := by decide +kernel
theorem d_M_des_55 : decode b_M_des 55 = .ok (.lstore 10, 2) := by decide +kernel
theorem d_M_des_57 : decode b_M_des 57 = .ok (.iconst 0, 1) := by decide +kernel
theorem d_M_des_58 : decode b_M_des 58 = .ok (.istore 12, 2) := by decide +kernel
theorem d_M_des_60 : decode b_M_des 60 = .ok (.iload 12, 2) := by decide +kernel
theorem d_M_des_62 : decode b_M_des 62 = .ok (.bipush 16, 2) := by decide +kernel
theorem d_M_des_64 : decode b_M_des 64 = .ok (.if_icmp .ge 48, 3) := by decide +kernel
theorem d_M_des_67 : decode b_M_des 67 = .ok (.lload 8, 2) := by decide +kernel
theorem d_M_des_69 : decode b_M_des 69 = .ok (.aload_n 0, 1) := by decide +kernel
theorem d_M_des_70 : decode b_M_des 70 = .ok (.lload 10, 2) := by decide +kernel
theorem d_M_des_72 : decode b_M_des 72 = .ok (.aload_n 0, 1) := by decide +kernel
theorem d_M_des_73 : decode b_M_des 73 = .ok (.getfield 63, 3) := by decide +kernel
theorem d_M_des_76 : decode b_M_des 76 = .ok (.iload 5, 2) := by decide +kernel
theorem d_M_des_78 : decode b_M_des 78 = .ok (.ifCond .eq 11, 3) := by decide +kernel
theorem d_M_des_89 : decode b_M_des 89 = .ok (.iload 12, 2) := by decide +kernel
theorem d_M_des_91 : decode b_M_des 91 = .ok (.laload, 1) := by decide +kernel
theorem d_M_des_92 : decode b_M_des 92 = .ok (.invokevirtual 86, 3) := by decide +kernel
theorem d_M_des_95 : decode b_M_des 95 = .ok (.lxor, 1) := by decide +kernel
theorem d_M_des_96 : decode b_M_des 96 = .ok (.lstore 13, 2) := by decide +kernel
theorem d_M_des_98 : decode b_M_des 98 = .ok (.lload 10, 2) := by decide +kernel
theorem d_M_des_100 : decode b_M_des 100 = .ok (.lstore 8, 2) := by decide +kernel
theorem d_M_des_102 : decode b_M_des 102 = .ok (.lload 13, 2) := by decide +kernel
theorem d_M_des_104 : decode b_M_des 104 = .ok (.lstore 10, 2) := by decide +kernel
theorem d_M_des_106 : decode b_M_des 106 = .ok (.iinc 12 1, 3) := by decide +kernel
theorem d_M_des_109 : decode b_M_des 109 = .ok (.goto (-49), 3) := by decide +kernel
theorem d_M_des_112 : decode b_M_des 112 = .ok (.lload 10, 2) := by decide +kernel
theorem d_M_des_114 : decode b_M_des 114 = .ok (.bipush 32, 2) := by decide +kernel
theorem d_M_des_116 : decode b_M_des 116 = .ok (.lshl, 1) := by decide +kernel
theorem d_M_des_117 : decode b_M_des 117 = .ok (.lload 8, 2) := by decide +kernel
theorem d_M_des_119 : decode b_M_des 119 = .ok (.lor, 1) := by decide +kernel
theorem d_M_des_120 : decode b_M_des 120 = .ok (.lstore 6, 2) := by decide +kernel
theorem d_M_des_122 : decode b_M_des 122 = .ok (.lconst 0, 1) := by decide +kernel
theorem d_M_des_123 : decode b_M_des 123 = .ok (.lstore 12, 2) := by decide +kernel
theorem d_M_des_125 : decode b_M_des 125 = .ok (.iconst 0, 1) := by decide +kernel
theorem d_M_des_126 : decode b_M_des 126 = .ok (.istore 14, 2) := by decide +kernel
theorem d_M_des_128 : decode b_M_des 128 = .ok (.iload 14, 2) := by decide +kernel
theorem d_M_des_130 : decode b_M_des 130 = .ok (.bipush 64, 2) := by decide +kernel
theorem d_M_des_132 : decode b_M_des 132 = .ok (.if_icmp .ge 34, 3) := by decide +kernel
theorem d_M_des_135 : decode b_M_des 135 = .ok (.lload 12, 2) := by decide +kernel
theorem d_M_des_137 : decode b_M_des 137 = .ok (.lload 6, 2) := by decide +kernel
theorem d_M_des_139 : decode b_M_des 139 = .ok (.iload 14, 2) := by decide +kernel
theorem d_M_des_141 : decode b_M_des 141 = .ok (.iconst 1, 1) := by decide +kernel
theorem d_M_des_142 : decode b_M_des 142 = .ok (.iadd, 1) := by decide +kernel
theorem d_M_des_143 : decode b_M_des 143 = .ok (.bipush 64, 2) := by decide +kernel
theorem d_M_des_145 : decode b_M_des 145 = .ok (.invokestatic 70, 3) := by decide +kernel
theorem d_M_des_148 : decode b_M_des 148 = .ok (.bipush 64, 2) := by decide +kernel
theorem d_M_des_150 : decode b_M_des 150 = .ok (.iload 14, 2) := by decide +kernel
theorem d_M_des_152 : decode b_M_des 152 = .ok (.invokestatic 80, 3) := by decide +kernel
theorem d_M_des_155 : decode b_M_des 155 = .ok (.isub, 1) := by decide +kernel
theorem d_M_des_156 : decode b_M_des 156 = .ok (.lshl, 1) := by decide +kernel
theorem d_M_des_157 : decode b_M_des 157 = .ok (.lor, 1) := by decide +kernel
theorem d_M_des_158 : decode b_M_des 158 = .ok (.lstore 12, 2) := by decide +kernel
theorem d_M_des_160 : decode b_M_des 160 = .ok (.iinc 14 1, 3) := by decide +kernel
theorem d_M_des_163 : decode b_M_des 163 = .ok (.goto (-35), 3) := by decide +kernel
theorem d_M_des_166 : decode b_M_des 166 = .ok (.lload 12, 2) := by decide +kernel
theorem d_M_des_168 : decode b_M_des 168 = .ok (.lreturn, 1) := by decide +kernel
set_option maxRecDepth 100000 in
set_option maxHeartbeats 4000000 in
theorem c_M_des0 (l : Launch) (G : Gt) (zm zmp zm1 zm2 zmx zmh zmt zmu zme zma zmb zmk zmc zmd zmi zmo zmf zmg zmn : Nat) (th ys : Int32) (yl yr : Int64) (yv : Nat → Int64) (yt yu ye : Nat → Int32) (ya yb : Nat → Int64) (yk : Nat → Int32) (yc yd yi : Nat → Int64) (yo : Nat → Int32) (yf yg yn : Nat → Int64) (yp yq : Int64) (yw : Int32) (yx : Int64) (k b : Int64) : CtL l G y_M_des b_M_des 15 (some .long) rm_M_des E0 [.ref zm, .long k, .long b, .int 0] [ob zm 5 [.ref zmp, .ref zm1, .ref zm2, .ref zmx, .int th, .ref zmh, .ref zmt, .int ys, .long yl, .long yr, .ref zmu, .ref zme, .ref zma, .ref zmb, .ref zmk, .ref zmc, .ref zmd, .ref zmi, .ref zmo, .ref zmf, .ref zmg, .ref zmn, .long yp, .long yq, .int yw, .long yx], aI G zmp 32 tb_perm, aI G zm1 56 tb_c1, aI G zm2 48 tb_c2, aI G zmx 512 tb_box, aJ G zmh 6 yv, aZ G zmt 6 yt, aI G zmu 16 yu, aZ G zme 16 ye, aJ G zma 16 ya, aJ G zmb 16 yb, aZ G zmk 8 yk, aJ G zmc 8 yc, aJ G zmd 8 yd, aJ G zmi 8 yi, aI G zmo 8 yo, aJ G zmf 5 yf, aJ G zmg 8 yg, aJ G zmn 16 yn] (fun r (_ : Unit) => r = f_mdes k (fun i => i) b) (fun _ => [ob zm 5 [.ref zmp, .ref zm1, .ref zm2, .ref zmx, .int th, .ref zmh, .ref zmt, .int ys, .long yl, .long yr, .ref zmu, .ref zme, .ref zma, .ref zmb, .ref zmk, .ref zmc, .ref zmd, .ref zmi, .ref zmo, .ref zmf, .ref zmg, .ref zmn, .long yp, .long yq, .int yw, .long yx], aI G zmp 32 tb_perm, aI G zm1 56 tb_c1, aI G zm2 48 tb_c2, aI G zmx 512 tb_box, aJ G zmh 6 yv, aZ G zmt 6 yt, aI G zmu 16 yu, aZ G zme 16 ye, aJ G zma 16 ya, aJ G zmb 16 yb, aZ G zmk 8 yk, aJ G zmc 8 yc, aJ G zmd 8 yd, aJ G zmi 8 yi, aI G zmo 8 yo, aJ G zmf 5 yf, aJ G zmg 8 yg, aJ G zmn 16 (rnd k yn 16)]) 0 0 := by
  refine Ct.of (Qp := fun A => va_Ql _ (qB G A _) A) Stb_0 (by decide) (Nat.le_of_ble_eq_true rfl) ?_
  intro p e s m args below meth c A X hE hr hlk hini
  refine pv_eql (ll2 := [(0, .ref zm), (1, .long k), (3, .long b), (5, .int 0)]) rfl ?_
  refine pv_aload_n X 0 d_M_des_0 rfl ?_
  refine pv_lload_n X 1 d_M_des_1 rfl ?_
  refine pv_callv X (Cut.all _) (rn_V X (c_M_schedule l G zm zmp zm1 zm2 zmx zmh zmt zmu zme zma zmb zmk zmc zmd zmi zmo zmf zmg zmn th ys yl yr yv yt yu ye ya yb yk yc yd yi yo yf yg yn yp yq yw yx k ) trivial mf_M_schedule m_690 m_692 ms_16 rfl 0 rfl rfl rfl (by decide) (by decide) rfl (Nat.le_of_ble_eq_true rfl) d_M_des_2) (fun x1 e1 => ?_)
  refine pv_eqw (ws2 := [ob zm 5 [.ref zmp, .ref zm1, .ref zm2, .ref zmx, .int th, .ref zmh, .ref zmt, .int ys, .long yl, .long yr, .ref zmu, .ref zme, .ref zma, .ref zmb, .ref zmk, .ref zmc, .ref zmd, .ref zmi, .ref zmo, .ref zmf, .ref zmg, .ref zmn, .long yp, .long yq, .int yw, .long yx], aI G zmp 32 tb_perm, aI G zm1 56 tb_c1, aI G zm2 48 tb_c2, aI G zmx 512 tb_box, aJ G zmh 6 yv, aZ G zmt 6 yt, aI G zmu 16 yu, aZ G zme 16 ye, aJ G zma 16 ya, aJ G zmb 16 yb, aZ G zmk 8 yk, aJ G zmc 8 yc, aJ G zmd 8 yd, aJ G zmi 8 yi, aI G zmo 8 yo, aJ G zmf 5 yf, aJ G zmg 8 yg, aJ G zmn 16 (rnd k yn 16)]) rfl ?_
  refine pv_lconst X 0 d_M_des_5 (by decide) ?_
  refine pv_lstore (ll2 := [(6, .long (0 : Int64)), (0, .ref zm), (1, .long k), (3, .long b), (5, .int 0)]) X d_M_des_6 (by decide) rfl ?_
  refine pv_iconst X 0 d_M_des_8 (by decide) ?_
  refine pv_istore (ll2 := [(8, .int 0), (6, .long (0 : Int64)), (0, .ref zm), (1, .long k), (3, .long b), (5, .int 0)]) X d_M_des_9 (by decide) rfl ?_
  refine pv_lpick (ll2 := [(8, .int (nI 0)), (6, .long (pk b 64 mini 0)), (0, .ref zm), (3, .long b), (5, .int 0)]) [0, 1, 2, 4, 5] rfl ?_
  refine pv_eqw (ws2 := [ob zm 5 [.ref zmp, .ref zm1, .ref zm2, .ref zmx, .int th, .ref zmh, .ref zmt, .int ys, .long yl, .long yr, .ref zmu, .ref zme, .ref zma, .ref zmb, .ref zmk, .ref zmc, .ref zmd, .ref zmi, .ref zmo, .ref zmf, .ref zmg, .ref zmn, .long yp, .long yq, .int yw, .long yx], aI G zmp 32 tb_perm, aI G zm1 56 tb_c1, aI G zm2 48 tb_c2, aI G zmx 512 tb_box, aJ G zmh 6 yv, aZ G zmt 6 yt, aI G zmu 16 yu, aZ G zme 16 ye, aJ G zma 16 ya, aJ G zmb 16 yb, aZ G zmk 8 yk, aJ G zmc 8 yc, aJ G zmd 8 yd, aJ G zmi 8 yi, aI G zmo 8 yo, aJ G zmf 5 yf, aJ G zmg 8 yg, aJ G zmn 16 (rnd k yn 16)]) rfl ?_
  refine pv_loop 64 (fun i => True) (fun i => [ob zm 5 [.ref zmp, .ref zm1, .ref zm2, .ref zmx, .int th, .ref zmh, .ref zmt, .int ys, .long yl, .long yr, .ref zmu, .ref zme, .ref zma, .ref zmb, .ref zmk, .ref zmc, .ref zmd, .ref zmi, .ref zmo, .ref zmf, .ref zmg, .ref zmn, .long yp, .long yq, .int yw, .long yx], aI G zmp 32 tb_perm, aI G zm1 56 tb_c1, aI G zm2 48 tb_c2, aI G zmx 512 tb_box, aJ G zmh 6 yv, aZ G zmt 6 yt, aI G zmu 16 yu, aZ G zme 16 ye, aJ G zma 16 ya, aJ G zmb 16 yb, aZ G zmk 8 yk, aJ G zmc 8 yc, aJ G zmd 8 yd, aJ G zmi 8 yi, aI G zmo 8 yo, aJ G zmf 5 yf, aJ G zmg 8 yg, aJ G zmn 16 (rnd k yn 16)]) (fun i => [(8, .int (nI i)), (6, .long (pk b 64 mini i)), (0, .ref zm), (3, .long b), (5, .int 0)]) 0 (by omega) trivial (fun hI_i => ?_) (fun i h_i hI_i ih_i => ?_)
  · skip
    refine pv_iload X 0 d_M_des_11 rfl ?_
    refine pv_bipush X 64 d_M_des_13 (by decide) ?_
    refine pv_icmp_ge X 42 d_M_des_15 rfl (fun _ => ?_) (fun h => absurd (by decide) h)
    refine pv_lload X 1 d_M_des_42 rfl ?_
    refine pv_bipush X 32 d_M_des_44 (by decide) ?_
    refine pv_lushr X d_M_des_46 ?_
    refine pv_lstore (ll2 := [(8, .long (((pk b 64 mini 64).toUInt64 >>> ((32 : Int32).toInt64.toUInt64 &&& Int64.toUInt64 63)).toInt64)), (6, .long (pk b 64 mini 64)), (0, .ref zm), (3, .long b), (5, .int 0)]) X d_M_des_47 (by decide) rfl ?_
    refine pv_lload X 1 d_M_des_49 rfl ?_
    refine pv_ldc2_w X m_701 d_M_des_51 ?_
    refine pv_land X d_M_des_54 ?_
    refine pv_lstore (ll2 := [(10, .long ((pk b 64 mini 64) &&& (4294967295 : Int64))), (8, .long (((pk b 64 mini 64).toUInt64 >>> ((32 : Int32).toInt64.toUInt64 &&& Int64.toUInt64 63)).toInt64)), (6, .long (pk b 64 mini 64)), (0, .ref zm), (3, .long b), (5, .int 0)]) X d_M_des_55 (by decide) rfl ?_
    refine pv_iconst X 0 d_M_des_57 (by decide) ?_
    refine pv_istore (ll2 := [(12, .int 0), (10, .long ((pk b 64 mini 64) &&& (4294967295 : Int64))), (8, .long (((pk b 64 mini 64).toUInt64 >>> ((32 : Int32).toInt64.toUInt64 &&& Int64.toUInt64 63)).toInt64)), (6, .long (pk b 64 mini 64)), (0, .ref zm), (3, .long b), (5, .int 0)]) X d_M_des_58 (by decide) rfl ?_
    refine pv_lpick (ll2 := [(12, .int (nI 0)), (8, .long ((mdp k (fun i => i) (pk b 64 mini 64) 0).1)), (10, .long ((mdp k (fun i => i) (pk b 64 mini 64) 0).2)), (0, .ref zm), (5, .int 0)]) [0, 2, 1, 4, 6] rfl ?_
    refine pv_eqw (ws2 := [ob zm 5 [.ref zmp, .ref zm1, .ref zm2, .ref zmx, .int th, .ref zmh, .ref zmt, .int ys, .long yl, .long yr, .ref zmu, .ref zme, .ref zma, .ref zmb, .ref zmk, .ref zmc, .ref zmd, .ref zmi, .ref zmo, .ref zmf, .ref zmg, .ref zmn, .long yp, .long yq, .int yw, .long yx], aI G zmp 32 tb_perm, aI G zm1 56 tb_c1, aI G zm2 48 tb_c2, aI G zmx 512 tb_box, aJ G zmh 6 yv, aZ G zmt 6 yt, aI G zmu 16 yu, aZ G zme 16 ye, aJ G zma 16 ya, aJ G zmb 16 yb, aZ G zmk 8 yk, aJ G zmc 8 yc, aJ G zmd 8 yd, aJ G zmi 8 yi, aI G zmo 8 yo, aJ G zmf 5 yf, aJ G zmg 8 yg, aJ G zmn 16 (rnd k yn 16)]) rfl ?_
    refine pv_loop 16 (fun i => True) (fun i => [ob zm 5 [.ref zmp, .ref zm1, .ref zm2, .ref zmx, .int th, .ref zmh, .ref zmt, .int ys, .long yl, .long yr, .ref zmu, .ref zme, .ref zma, .ref zmb, .ref zmk, .ref zmc, .ref zmd, .ref zmi, .ref zmo, .ref zmf, .ref zmg, .ref zmn, .long yp, .long yq, .int yw, .long yx], aI G zmp 32 tb_perm, aI G zm1 56 tb_c1, aI G zm2 48 tb_c2, aI G zmx 512 tb_box, aJ G zmh 6 yv, aZ G zmt 6 yt, aI G zmu 16 yu, aZ G zme 16 ye, aJ G zma 16 ya, aJ G zmb 16 yb, aZ G zmk 8 yk, aJ G zmc 8 yc, aJ G zmd 8 yd, aJ G zmi 8 yi, aI G zmo 8 yo, aJ G zmf 5 yf, aJ G zmg 8 yg, aJ G zmn 16 (rnd k yn 16)]) (fun i => [(12, .int (nI i)), (8, .long ((mdp k (fun i => i) (pk b 64 mini 64) i).1)), (10, .long ((mdp k (fun i => i) (pk b 64 mini 64) i).2)), (0, .ref zm), (5, .int 0)]) 0 (by omega) trivial (fun hI_i => ?_) (fun i h_i hI_i ih_i => ?_)
    · skip
      refine pv_iload X 0 d_M_des_60 rfl ?_
      refine pv_bipush X 16 d_M_des_62 (by decide) ?_
      refine pv_icmp_ge X 112 d_M_des_64 rfl (fun _ => ?_) (fun h => absurd (by decide) h)
      refine pv_lload X 2 d_M_des_112 rfl ?_
      refine pv_bipush X 32 d_M_des_114 (by decide) ?_
      refine pv_lshl X d_M_des_116 ?_
      refine pv_lload X 1 d_M_des_117 rfl ?_
      refine pv_lor X d_M_des_119 ?_
      refine pv_lstore (ll2 := [(6, .long ((((mdp k (fun i => i) (pk b 64 mini 64) 16).2) <<< ((32 : Int32).toInt64 &&& 63)) ||| ((mdp k (fun i => i) (pk b 64 mini 64) 16).1))), (12, .int (nI 16)), (8, .long ((mdp k (fun i => i) (pk b 64 mini 64) 16).1)), (10, .long ((mdp k (fun i => i) (pk b 64 mini 64) 16).2)), (0, .ref zm), (5, .int 0)]) X d_M_des_120 (by decide) rfl ?_
      refine pv_lconst X 0 d_M_des_122 (by decide) ?_
      refine pv_lstore (ll2 := [(12, .long (0 : Int64)), (6, .long ((((mdp k (fun i => i) (pk b 64 mini 64) 16).2) <<< ((32 : Int32).toInt64 &&& 63)) ||| ((mdp k (fun i => i) (pk b 64 mini 64) 16).1))), (8, .long ((mdp k (fun i => i) (pk b 64 mini 64) 16).1)), (10, .long ((mdp k (fun i => i) (pk b 64 mini 64) 16).2)), (0, .ref zm), (5, .int 0)]) X d_M_des_123 (by decide) rfl ?_
      refine pv_iconst X 0 d_M_des_125 (by decide) ?_
      refine pv_istore (ll2 := [(14, .int 0), (12, .long (0 : Int64)), (6, .long ((((mdp k (fun i => i) (pk b 64 mini 64) 16).2) <<< ((32 : Int32).toInt64 &&& 63)) ||| ((mdp k (fun i => i) (pk b 64 mini 64) 16).1))), (8, .long ((mdp k (fun i => i) (pk b 64 mini 64) 16).1)), (10, .long ((mdp k (fun i => i) (pk b 64 mini 64) 16).2)), (0, .ref zm), (5, .int 0)]) X d_M_des_126 (by decide) rfl ?_
      refine pv_lpick (ll2 := [(14, .int (nI 0)), (12, .long (mout (mjo (mdp k (fun i => i) (pk b 64 mini 64) 16)) 0)), (6, .long (mjo (mdp k (fun i => i) (pk b 64 mini 64) 16)))]) [0, 1, 2] rfl ?_
      refine pv_eqw (ws2 := [ob zm 5 [.ref zmp, .ref zm1, .ref zm2, .ref zmx, .int th, .ref zmh, .ref zmt, .int ys, .long yl, .long yr, .ref zmu, .ref zme, .ref zma, .ref zmb, .ref zmk, .ref zmc, .ref zmd, .ref zmi, .ref zmo, .ref zmf, .ref zmg, .ref zmn, .long yp, .long yq, .int yw, .long yx], aI G zmp 32 tb_perm, aI G zm1 56 tb_c1, aI G zm2 48 tb_c2, aI G zmx 512 tb_box, aJ G zmh 6 yv, aZ G zmt 6 yt, aI G zmu 16 yu, aZ G zme 16 ye, aJ G zma 16 ya, aJ G zmb 16 yb, aZ G zmk 8 yk, aJ G zmc 8 yc, aJ G zmd 8 yd, aJ G zmi 8 yi, aI G zmo 8 yo, aJ G zmf 5 yf, aJ G zmg 8 yg, aJ G zmn 16 (rnd k yn 16)]) rfl ?_
      refine pv_loop 64 (fun i => True) (fun i => [ob zm 5 [.ref zmp, .ref zm1, .ref zm2, .ref zmx, .int th, .ref zmh, .ref zmt, .int ys, .long yl, .long yr, .ref zmu, .ref zme, .ref zma, .ref zmb, .ref zmk, .ref zmc, .ref zmd, .ref zmi, .ref zmo, .ref zmf, .ref zmg, .ref zmn, .long yp, .long yq, .int yw, .long yx], aI G zmp 32 tb_perm, aI G zm1 56 tb_c1, aI G zm2 48 tb_c2, aI G zmx 512 tb_box, aJ G zmh 6 yv, aZ G zmt 6 yt, aI G zmu 16 yu, aZ G zme 16 ye, aJ G zma 16 ya, aJ G zmb 16 yb, aZ G zmk 8 yk, aJ G zmc 8 yc, aJ G zmd 8 yd, aJ G zmi 8 yi, aI G zmo 8 yo, aJ G zmf 5 yf, aJ G zmg 8 yg, aJ G zmn 16 (rnd k yn 16)]) (fun i => [(14, .int (nI i)), (12, .long (mout (mjo (mdp k (fun i => i) (pk b 64 mini 64) 16)) i)), (6, .long (mjo (mdp k (fun i => i) (pk b 64 mini 64) 16)))]) 0 (by omega) trivial (fun hI_i => ?_) (fun i h_i hI_i ih_i => ?_)
      · skip
        refine pv_iload X 0 d_M_des_128 rfl ?_
        refine pv_bipush X 64 d_M_des_130 (by decide) ?_
        refine pv_icmp_ge X 166 d_M_des_132 rfl (fun _ => ?_) (fun h => absurd (by decide) h)
        refine pv_lload X 1 d_M_des_166 rfl ?_
        exact pv_lret X hr hlk () rfl rfl d_M_des_168
      · skip
        refine pv_iload X 0 d_M_des_128 rfl ?_
        refine pv_bipush X 64 d_M_des_130 (by decide) ?_
        refine pv_icmp_ge X 166 d_M_des_132 rfl (fun h => absurd h (nI_ge h_i (by decide))) (fun _ => ?_)
        refine pv_lload X 1 d_M_des_135 rfl ?_
        refine pv_lload X 2 d_M_des_137 rfl ?_
        refine pv_iload X 0 d_M_des_139 rfl ?_
        refine pv_iconst X 1 d_M_des_141 (by decide) ?_
        refine pv_iadd X d_M_des_142 ?_
        refine pv_bipush X 64 d_M_des_143 (by decide) ?_
        refine pv_calll0 X (rn_S X (c_M_bit l G (mjo (mdp k (fun i => i) (pk b 64 mini 64) 16)) ((nI i) + 1) 64) trivial mf_M_bit m_694 m_695 rfl (by decide) (by decide) rfl (Nat.le_of_ble_eq_true rfl) d_M_des_145) ?_
        refine pv_bipush X 64 d_M_des_148 (by decide) ?_
        refine pv_iload X 0 d_M_des_150 rfl ?_
        refine pv_calli0 X (rn_S X (c_M_initial l G (nI i)) trivial mf_M_initial m_698 m_699 rfl (by decide) (by decide) rfl (Nat.le_of_ble_eq_true rfl) d_M_des_152) ?_
        refine pv_isub X d_M_des_155 ?_
        refine pv_lshl X d_M_des_156 ?_
        refine pv_lor X d_M_des_157 ?_
        refine pv_lstore (ll2 := [(12, .long ((mout (mjo (mdp k (fun i => i) (pk b 64 mini 64) 16)) i) ||| ((f_M_bit (mjo (mdp k (fun i => i) (pk b 64 mini 64) 16)) ((nI i) + 1) 64) <<< ((64 - (f_M_initial (nI i))).toInt64 &&& 63)))), (14, .int (nI i)), (6, .long (mjo (mdp k (fun i => i) (pk b 64 mini 64) 16)))]) X d_M_des_158 (by decide) rfl ?_
        refine pv_iinc (ll2 := [(14, .int (nI (i + 1))), (12, .long ((mout (mjo (mdp k (fun i => i) (pk b 64 mini 64) 16)) i) ||| ((f_M_bit (mjo (mdp k (fun i => i) (pk b 64 mini 64) 16)) ((nI i) + 1) 64) <<< ((64 - (f_M_initial (nI i))).toInt64 &&& 63)))), (6, .long (mjo (mdp k (fun i => i) (pk b 64 mini 64) 16)))]) X 1 (nI (i + 1)) d_M_des_160 rfl (nI_1 _) (by decide) rfl ?_
        refine pv_goto X 128 d_M_des_163 rfl ?_
        refine pv_lpick (ll2 := [(14, .int (nI (i + 1))), (12, .long (mout (mjo (mdp k (fun i => i) (pk b 64 mini 64) 16)) (i + 1))), (6, .long (mjo (mdp k (fun i => i) (pk b 64 mini 64) 16)))]) [0, 1, 2] rfl ?_
        refine pv_eqw (ws2 := [ob zm 5 [.ref zmp, .ref zm1, .ref zm2, .ref zmx, .int th, .ref zmh, .ref zmt, .int ys, .long yl, .long yr, .ref zmu, .ref zme, .ref zma, .ref zmb, .ref zmk, .ref zmc, .ref zmd, .ref zmi, .ref zmo, .ref zmf, .ref zmg, .ref zmn, .long yp, .long yq, .int yw, .long yx], aI G zmp 32 tb_perm, aI G zm1 56 tb_c1, aI G zm2 48 tb_c2, aI G zmx 512 tb_box, aJ G zmh 6 yv, aZ G zmt 6 yt, aI G zmu 16 yu, aZ G zme 16 ye, aJ G zma 16 ya, aJ G zmb 16 yb, aZ G zmk 8 yk, aJ G zmc 8 yc, aJ G zmd 8 yd, aJ G zmi 8 yi, aI G zmo 8 yo, aJ G zmf 5 yf, aJ G zmg 8 yg, aJ G zmn 16 (rnd k yn 16)]) rfl ?_
        exact ih_i trivial
    · skip
      refine pv_iload X 0 d_M_des_60 rfl ?_
      refine pv_bipush X 16 d_M_des_62 (by decide) ?_
      refine pv_icmp_ge X 112 d_M_des_64 rfl (fun h => absurd h (nI_ge h_i (by decide))) (fun _ => ?_)
      refine pv_lload X 1 d_M_des_67 rfl ?_
      refine pv_aload_n X 3 d_M_des_69 rfl ?_
      refine pv_lload X 2 d_M_des_70 rfl ?_
      refine pv_aload_n X 3 d_M_des_72 rfl ?_
      refine pv_get X 0 21 u_M_in m_595 rfl rfl (by decide) ⟨rfl, rfl, rfl⟩ rfl d_M_des_73 ?_
      refine pv_iload X 4 d_M_des_76 rfl ?_
      refine pv_if_eq X 89 d_M_des_78 rfl (fun _ => ?_) (fun h => absurd (by decide) h)
      refine pv_iload X 0 d_M_des_89 rfl ?_
      refine pv_lald X 18 rfl (vp_in_nI (by omega) (by omega)) d_M_des_91 ?_
      refine pv_topl ((rnd k yn 16) i) (congrArg (rnd k yn 16) (nI_clamp (by omega))) ?_
      refine pv_topl (mrk k i) (rnd_at (by omega)) ?_
      refine pv_calllE X (Cut.all _) (rn_V X (c_M_mangle l G zm zmp zm1 zm2 zmx zmh zmt zmu zme zma zmb zmk zmc zmd zmi zmo zmf zmg zmn th ys yl yr yv yt yu ye ya yb yk yc yd yi yo yf yg (rnd k yn 16) yp yq yw yx ((mdp k (fun i => i) (pk b 64 mini 64) i).2) (mrk k i) ) trivial mf_M_mangle m_702 m_704 ms_17 rfl 0 rfl rfl rfl (by decide) (by decide) rfl (Nat.le_of_ble_eq_true rfl) d_M_des_92) (fun x4 => ?_)
      refine pv_eqw (ws2 := [ob zm 5 [.ref zmp, .ref zm1, .ref zm2, .ref zmx, .int th, .ref zmh, .ref zmt, .int ys, .long yl, .long yr, .ref zmu, .ref zme, .ref zma, .ref zmb, .ref zmk, .ref zmc, .ref zmd, .ref zmi, .ref zmo, .ref zmf, .ref zmg, .ref zmn, .long yp, .long yq, .int yw, .long yx], aI G zmp 32 tb_perm, aI G zm1 56 tb_c1, aI G zm2 48 tb_c2, aI G zmx 512 tb_box, aJ G zmh 6 yv, aZ G zmt 6 yt, aI G zmu 16 yu, aZ G zme 16 ye, aJ G zma 16 ya, aJ G zmb 16 yb, aZ G zmk 8 yk, aJ G zmc 8 yc, aJ G zmd 8 yd, aJ G zmi 8 yi, aI G zmo 8 yo, aJ G zmf 5 yf, aJ G zmg 8 yg, aJ G zmn 16 (rnd k yn 16)]) rfl ?_
      refine pv_lxor X d_M_des_95 ?_
      refine pv_lstore (ll2 := [(13, .long (((mdp k (fun i => i) (pk b 64 mini 64) i).1) ^^^ (mang ((mdp k (fun i => i) (pk b 64 mini 64) i).2) (mrk k i)))), (12, .int (nI i)), (8, .long ((mdp k (fun i => i) (pk b 64 mini 64) i).1)), (10, .long ((mdp k (fun i => i) (pk b 64 mini 64) i).2)), (0, .ref zm), (5, .int 0)]) X d_M_des_96 (by decide) rfl ?_
      refine pv_lload X 3 d_M_des_98 rfl ?_
      refine pv_lstore (ll2 := [(8, .long ((mdp k (fun i => i) (pk b 64 mini 64) i).2)), (13, .long (((mdp k (fun i => i) (pk b 64 mini 64) i).1) ^^^ (mang ((mdp k (fun i => i) (pk b 64 mini 64) i).2) (mrk k i)))), (12, .int (nI i)), (10, .long ((mdp k (fun i => i) (pk b 64 mini 64) i).2)), (0, .ref zm), (5, .int 0)]) X d_M_des_100 (by decide) rfl ?_
      refine pv_lload X 1 d_M_des_102 rfl ?_
      refine pv_lstore (ll2 := [(10, .long (((mdp k (fun i => i) (pk b 64 mini 64) i).1) ^^^ (mang ((mdp k (fun i => i) (pk b 64 mini 64) i).2) (mrk k i)))), (8, .long ((mdp k (fun i => i) (pk b 64 mini 64) i).2)), (13, .long (((mdp k (fun i => i) (pk b 64 mini 64) i).1) ^^^ (mang ((mdp k (fun i => i) (pk b 64 mini 64) i).2) (mrk k i)))), (12, .int (nI i)), (0, .ref zm), (5, .int 0)]) X d_M_des_104 (by decide) rfl ?_
      refine pv_iinc (ll2 := [(12, .int (nI (i + 1))), (10, .long (((mdp k (fun i => i) (pk b 64 mini 64) i).1) ^^^ (mang ((mdp k (fun i => i) (pk b 64 mini 64) i).2) (mrk k i)))), (8, .long ((mdp k (fun i => i) (pk b 64 mini 64) i).2)), (13, .long (((mdp k (fun i => i) (pk b 64 mini 64) i).1) ^^^ (mang ((mdp k (fun i => i) (pk b 64 mini 64) i).2) (mrk k i)))), (0, .ref zm), (5, .int 0)]) X 3 (nI (i + 1)) d_M_des_106 rfl (nI_1 _) (by decide) rfl ?_
      refine pv_goto X 60 d_M_des_109 rfl ?_
      refine pv_lpick (ll2 := [(12, .int (nI (i + 1))), (8, .long ((mdp k (fun i => i) (pk b 64 mini 64) (i + 1)).1)), (10, .long ((mdp k (fun i => i) (pk b 64 mini 64) (i + 1)).2)), (0, .ref zm), (5, .int 0)]) [0, 2, 1, 4, 5] rfl ?_
      refine pv_eqw (ws2 := [ob zm 5 [.ref zmp, .ref zm1, .ref zm2, .ref zmx, .int th, .ref zmh, .ref zmt, .int ys, .long yl, .long yr, .ref zmu, .ref zme, .ref zma, .ref zmb, .ref zmk, .ref zmc, .ref zmd, .ref zmi, .ref zmo, .ref zmf, .ref zmg, .ref zmn, .long yp, .long yq, .int yw, .long yx], aI G zmp 32 tb_perm, aI G zm1 56 tb_c1, aI G zm2 48 tb_c2, aI G zmx 512 tb_box, aJ G zmh 6 yv, aZ G zmt 6 yt, aI G zmu 16 yu, aZ G zme 16 ye, aJ G zma 16 ya, aJ G zmb 16 yb, aZ G zmk 8 yk, aJ G zmc 8 yc, aJ G zmd 8 yd, aJ G zmi 8 yi, aI G zmo 8 yo, aJ G zmf 5 yf, aJ G zmg 8 yg, aJ G zmn 16 (rnd k yn 16)]) rfl ?_
      exact ih_i trivial
  · skip
    refine pv_iload X 0 d_M_des_11 rfl ?_
    refine pv_bipush X 64 d_M_des_13 (by decide) ?_
    refine pv_icmp_ge X 42 d_M_des_15 rfl (fun h => absurd h (nI_ge h_i (by decide))) (fun _ => ?_)
    refine pv_lload X 1 d_M_des_18 rfl ?_
    refine pv_iconst X 1 d_M_des_20 (by decide) ?_
    refine pv_lshl X d_M_des_21 ?_
    refine pv_lload_n X 3 d_M_des_22 rfl ?_
    refine pv_iload X 0 d_M_des_23 rfl ?_
    refine pv_calli0 X (rn_S X (c_M_initial l G (nI i)) trivial mf_M_initial m_698 m_699 rfl (by decide) (by decide) rfl (Nat.le_of_ble_eq_true rfl) d_M_des_25) ?_
    refine pv_bipush X 64 d_M_des_28 (by decide) ?_
    refine pv_calll0 X (rn_S X (c_M_bit l G b (f_M_initial (nI i)) 64) trivial mf_M_bit m_694 m_695 rfl (by decide) (by decide) rfl (Nat.le_of_ble_eq_true rfl) d_M_des_30) ?_
    refine pv_lor X d_M_des_33 ?_
    refine pv_lstore (ll2 := [(6, .long (((pk b 64 mini i) <<< ((1 : Int32).toInt64 &&& 63)) ||| (f_M_bit b (f_M_initial (nI i)) 64))), (8, .int (nI i)), (0, .ref zm), (3, .long b), (5, .int 0)]) X d_M_des_34 (by decide) rfl ?_
    refine pv_iinc (ll2 := [(8, .int (nI (i + 1))), (6, .long (((pk b 64 mini i) <<< ((1 : Int32).toInt64 &&& 63)) ||| (f_M_bit b (f_M_initial (nI i)) 64))), (0, .ref zm), (3, .long b), (5, .int 0)]) X 1 (nI (i + 1)) d_M_des_36 rfl (nI_1 _) (by decide) rfl ?_
    refine pv_goto X 11 d_M_des_39 rfl ?_
    refine pv_lpick (ll2 := [(8, .int (nI (i + 1))), (6, .long (pk b 64 mini (i + 1))), (0, .ref zm), (3, .long b), (5, .int 0)]) [0, 1, 2, 3, 4] rfl ?_
    refine pv_eqw (ws2 := [ob zm 5 [.ref zmp, .ref zm1, .ref zm2, .ref zmx, .int th, .ref zmh, .ref zmt, .int ys, .long yl, .long yr, .ref zmu, .ref zme, .ref zma, .ref zmb, .ref zmk, .ref zmc, .ref zmd, .ref zmi, .ref zmo, .ref zmf, .ref zmg, .ref zmn, .long yp, .long yq, .int yw, .long yx], aI G zmp 32 tb_perm, aI G zm1 56 tb_c1, aI G zm2 48 tb_c2, aI G zmx 512 tb_box, aJ G zmh 6 yv, aZ G zmt 6 yt, aI G zmu 16 yu, aZ G zme 16 ye, aJ G zma 16 ya, aJ G zmb 16 yb, aZ G zmk 8 yk, aJ G zmc 8 yc, aJ G zmd 8 yd, aJ G zmi 8 yi, aI G zmo 8 yo, aJ G zmf 5 yf, aJ G zmg 8 yg, aJ G zmn 16 (rnd k yn 16)]) rfl ?_
    exact ih_i trivial
theorem d_M_des_81 : decode b_M_des 81 = .ok (.bipush 15, 2) := by decide +kernel
theorem d_M_des_83 : decode b_M_des 83 = .ok (.iload 12, 2) := by decide +kernel
theorem d_M_des_85 : decode b_M_des 85 = .ok (.isub, 1) := by decide +kernel
theorem d_M_des_86 : decode b_M_des 86 = .ok (.goto 5, 3) := by decide +kernel
set_option maxRecDepth 100000 in
set_option maxHeartbeats 4000000 in
theorem c_M_des1 (l : Launch) (G : Gt) (zm zmp zm1 zm2 zmx zmh zmt zmu zme zma zmb zmk zmc zmd zmi zmo zmf zmg zmn : Nat) (th ys : Int32) (yl yr : Int64) (yv : Nat → Int64) (yt yu ye : Nat → Int32) (ya yb : Nat → Int64) (yk : Nat → Int32) (yc yd yi : Nat → Int64) (yo : Nat → Int32) (yf yg yn : Nat → Int64) (yp yq : Int64) (yw : Int32) (yx : Int64) (k b : Int64) : CtL l G y_M_des b_M_des 15 (some .long) rm_M_des E0 [.ref zm, .long k, .long b, .int 1] [ob zm 5 [.ref zmp, .ref zm1, .ref zm2, .ref zmx, .int th, .ref zmh, .ref zmt, .int ys, .long yl, .long yr, .ref zmu, .ref zme, .ref zma, .ref zmb, .ref zmk, .ref zmc, .ref zmd, .ref zmi, .ref zmo, .ref zmf, .ref zmg, .ref zmn, .long yp, .long yq, .int yw, .long yx], aI G zmp 32 tb_perm, aI G zm1 56 tb_c1, aI G zm2 48 tb_c2, aI G zmx 512 tb_box, aJ G zmh 6 yv, aZ G zmt 6 yt, aI G zmu 16 yu, aZ G zme 16 ye, aJ G zma 16 ya, aJ G zmb 16 yb, aZ G zmk 8 yk, aJ G zmc 8 yc, aJ G zmd 8 yd, aJ G zmi 8 yi, aI G zmo 8 yo, aJ G zmf 5 yf, aJ G zmg 8 yg, aJ G zmn 16 yn] (fun r (_ : Unit) => r = f_mdes k (fun i => 15 - i) b) (fun _ => [ob zm 5 [.ref zmp, .ref zm1, .ref zm2, .ref zmx, .int th, .ref zmh, .ref zmt, .int ys, .long yl, .long yr, .ref zmu, .ref zme, .ref zma, .ref zmb, .ref zmk, .ref zmc, .ref zmd, .ref zmi, .ref zmo, .ref zmf, .ref zmg, .ref zmn, .long yp, .long yq, .int yw, .long yx], aI G zmp 32 tb_perm, aI G zm1 56 tb_c1, aI G zm2 48 tb_c2, aI G zmx 512 tb_box, aJ G zmh 6 yv, aZ G zmt 6 yt, aI G zmu 16 yu, aZ G zme 16 ye, aJ G zma 16 ya, aJ G zmb 16 yb, aZ G zmk 8 yk, aJ G zmc 8 yc, aJ G zmd 8 yd, aJ G zmi 8 yi, aI G zmo 8 yo, aJ G zmf 5 yf, aJ G zmg 8 yg, aJ G zmn 16 (rnd k yn 16)]) 0 0 := by
  refine Ct.of (Qp := fun A => va_Ql _ (qB G A _) A) Stb_0 (by decide) (Nat.le_of_ble_eq_true rfl) ?_
  intro p e s m args below meth c A X hE hr hlk hini
  refine pv_eql (ll2 := [(0, .ref zm), (1, .long k), (3, .long b), (5, .int 1)]) rfl ?_
  refine pv_aload_n X 0 d_M_des_0 rfl ?_
  refine pv_lload_n X 1 d_M_des_1 rfl ?_
  refine pv_callv X (Cut.all _) (rn_V X (c_M_schedule l G zm zmp zm1 zm2 zmx zmh zmt zmu zme zma zmb zmk zmc zmd zmi zmo zmf zmg zmn th ys yl yr yv yt yu ye ya yb yk yc yd yi yo yf yg yn yp yq yw yx k ) trivial mf_M_schedule m_690 m_692 ms_16 rfl 0 rfl rfl rfl (by decide) (by decide) rfl (Nat.le_of_ble_eq_true rfl) d_M_des_2) (fun x1 e1 => ?_)
  refine pv_eqw (ws2 := [ob zm 5 [.ref zmp, .ref zm1, .ref zm2, .ref zmx, .int th, .ref zmh, .ref zmt, .int ys, .long yl, .long yr, .ref zmu, .ref zme, .ref zma, .ref zmb, .ref zmk, .ref zmc, .ref zmd, .ref zmi, .ref zmo, .ref zmf, .ref zmg, .ref zmn, .long yp, .long yq, .int yw, .long yx], aI G zmp 32 tb_perm, aI G zm1 56 tb_c1, aI G zm2 48 tb_c2, aI G zmx 512 tb_box, aJ G zmh 6 yv, aZ G zmt 6 yt, aI G zmu 16 yu, aZ G zme 16 ye, aJ G zma 16 ya, aJ G zmb 16 yb, aZ G zmk 8 yk, aJ G zmc 8 yc, aJ G zmd 8 yd, aJ G zmi 8 yi, aI G zmo 8 yo, aJ G zmf 5 yf, aJ G zmg 8 yg, aJ G zmn 16 (rnd k yn 16)]) rfl ?_
  refine pv_lconst X 0 d_M_des_5 (by decide) ?_
  refine pv_lstore (ll2 := [(6, .long (0 : Int64)), (0, .ref zm), (1, .long k), (3, .long b), (5, .int 1)]) X d_M_des_6 (by decide) rfl ?_
  refine pv_iconst X 0 d_M_des_8 (by decide) ?_
  refine pv_istore (ll2 := [(8, .int 0), (6, .long (0 : Int64)), (0, .ref zm), (1, .long k), (3, .long b), (5, .int 1)]) X d_M_des_9 (by decide) rfl ?_
  refine pv_lpick (ll2 := [(8, .int (nI 0)), (6, .long (pk b 64 mini 0)), (0, .ref zm), (3, .long b), (5, .int 1)]) [0, 1, 2, 4, 5] rfl ?_
  refine pv_eqw (ws2 := [ob zm 5 [.ref zmp, .ref zm1, .ref zm2, .ref zmx, .int th, .ref zmh, .ref zmt, .int ys, .long yl, .long yr, .ref zmu, .ref zme, .ref zma, .ref zmb, .ref zmk, .ref zmc, .ref zmd, .ref zmi, .ref zmo, .ref zmf, .ref zmg, .ref zmn, .long yp, .long yq, .int yw, .long yx], aI G zmp 32 tb_perm, aI G zm1 56 tb_c1, aI G zm2 48 tb_c2, aI G zmx 512 tb_box, aJ G zmh 6 yv, aZ G zmt 6 yt, aI G zmu 16 yu, aZ G zme 16 ye, aJ G zma 16 ya, aJ G zmb 16 yb, aZ G zmk 8 yk, aJ G zmc 8 yc, aJ G zmd 8 yd, aJ G zmi 8 yi, aI G zmo 8 yo, aJ G zmf 5 yf, aJ G zmg 8 yg, aJ G zmn 16 (rnd k yn 16)]) rfl ?_
  refine pv_loop 64 (fun i => True) (fun i => [ob zm 5 [.ref zmp, .ref zm1, .ref zm2, .ref zmx, .int th, .ref zmh, .ref zmt, .int ys, .long yl, .long yr, .ref zmu, .ref zme, .ref zma, .ref zmb, .ref zmk, .ref zmc, .ref zmd, .ref zmi, .ref zmo, .ref zmf, .ref zmg, .ref zmn, .long yp, .long yq, .int yw, .long yx], aI G zmp 32 tb_perm, aI G zm1 56 tb_c1, aI G zm2 48 tb_c2, aI G zmx 512 tb_box, aJ G zmh 6 yv, aZ G zmt 6 yt, aI G zmu 16 yu, aZ G zme 16 ye, aJ G zma 16 ya, aJ G zmb 16 yb, aZ G zmk 8 yk, aJ G zmc 8 yc, aJ G zmd 8 yd, aJ G zmi 8 yi, aI G zmo 8 yo, aJ G zmf 5 yf, aJ G zmg 8 yg, aJ G zmn 16 (rnd k yn 16)]) (fun i => [(8, .int (nI i)), (6, .long (pk b 64 mini i)), (0, .ref zm), (3, .long b), (5, .int 1)]) 0 (by omega) trivial (fun hI_i => ?_) (fun i h_i hI_i ih_i => ?_)
  · skip
    refine pv_iload X 0 d_M_des_11 rfl ?_
    refine pv_bipush X 64 d_M_des_13 (by decide) ?_
    refine pv_icmp_ge X 42 d_M_des_15 rfl (fun _ => ?_) (fun h => absurd (by decide) h)
    refine pv_lload X 1 d_M_des_42 rfl ?_
    refine pv_bipush X 32 d_M_des_44 (by decide) ?_
    refine pv_lushr X d_M_des_46 ?_
    refine pv_lstore (ll2 := [(8, .long (((pk b 64 mini 64).toUInt64 >>> ((32 : Int32).toInt64.toUInt64 &&& Int64.toUInt64 63)).toInt64)), (6, .long (pk b 64 mini 64)), (0, .ref zm), (3, .long b), (5, .int 1)]) X d_M_des_47 (by decide) rfl ?_
    refine pv_lload X 1 d_M_des_49 rfl ?_
    refine pv_ldc2_w X m_701 d_M_des_51 ?_
    refine pv_land X d_M_des_54 ?_
    refine pv_lstore (ll2 := [(10, .long ((pk b 64 mini 64) &&& (4294967295 : Int64))), (8, .long (((pk b 64 mini 64).toUInt64 >>> ((32 : Int32).toInt64.toUInt64 &&& Int64.toUInt64 63)).toInt64)), (6, .long (pk b 64 mini 64)), (0, .ref zm), (3, .long b), (5, .int 1)]) X d_M_des_55 (by decide) rfl ?_
    refine pv_iconst X 0 d_M_des_57 (by decide) ?_
    refine pv_istore (ll2 := [(12, .int 0), (10, .long ((pk b 64 mini 64) &&& (4294967295 : Int64))), (8, .long (((pk b 64 mini 64).toUInt64 >>> ((32 : Int32).toInt64.toUInt64 &&& Int64.toUInt64 63)).toInt64)), (6, .long (pk b 64 mini 64)), (0, .ref zm), (3, .long b), (5, .int 1)]) X d_M_des_58 (by decide) rfl ?_
    refine pv_lpick (ll2 := [(12, .int (nI 0)), (8, .long ((mdp k (fun i => 15 - i) (pk b 64 mini 64) 0).1)), (10, .long ((mdp k (fun i => 15 - i) (pk b 64 mini 64) 0).2)), (0, .ref zm), (5, .int 1)]) [0, 2, 1, 4, 6] rfl ?_
    refine pv_eqw (ws2 := [ob zm 5 [.ref zmp, .ref zm1, .ref zm2, .ref zmx, .int th, .ref zmh, .ref zmt, .int ys, .long yl, .long yr, .ref zmu, .ref zme, .ref zma, .ref zmb, .ref zmk, .ref zmc, .ref zmd, .ref zmi, .ref zmo, .ref zmf, .ref zmg, .ref zmn, .long yp, .long yq, .int yw, .long yx], aI G zmp 32 tb_perm, aI G zm1 56 tb_c1, aI G zm2 48 tb_c2, aI G zmx 512 tb_box, aJ G zmh 6 yv, aZ G zmt 6 yt, aI G zmu 16 yu, aZ G zme 16 ye, aJ G zma 16 ya, aJ G zmb 16 yb, aZ G zmk 8 yk, aJ G zmc 8 yc, aJ G zmd 8 yd, aJ G zmi 8 yi, aI G zmo 8 yo, aJ G zmf 5 yf, aJ G zmg 8 yg, aJ G zmn 16 (rnd k yn 16)]) rfl ?_
    refine pv_loop 16 (fun i => True) (fun i => [ob zm 5 [.ref zmp, .ref zm1, .ref zm2, .ref zmx, .int th, .ref zmh, .ref zmt, .int ys, .long yl, .long yr, .ref zmu, .ref zme, .ref zma, .ref zmb, .ref zmk, .ref zmc, .ref zmd, .ref zmi, .ref zmo, .ref zmf, .ref zmg, .ref zmn, .long yp, .long yq, .int yw, .long yx], aI G zmp 32 tb_perm, aI G zm1 56 tb_c1, aI G zm2 48 tb_c2, aI G zmx 512 tb_box, aJ G zmh 6 yv, aZ G zmt 6 yt, aI G zmu 16 yu, aZ G zme 16 ye, aJ G zma 16 ya, aJ G zmb 16 yb, aZ G zmk 8 yk, aJ G zmc 8 yc, aJ G zmd 8 yd, aJ G zmi 8 yi, aI G zmo 8 yo, aJ G zmf 5 yf, aJ G zmg 8 yg, aJ G zmn 16 (rnd k yn 16)]) (fun i => [(12, .int (nI i)), (8, .long ((mdp k (fun i => 15 - i) (pk b 64 mini 64) i).1)), (10, .long ((mdp k (fun i => 15 - i) (pk b 64 mini 64) i).2)), (0, .ref zm), (5, .int 1)]) 0 (by omega) trivial (fun hI_i => ?_) (fun i h_i hI_i ih_i => ?_)
    · skip
      refine pv_iload X 0 d_M_des_60 rfl ?_
      refine pv_bipush X 16 d_M_des_62 (by decide) ?_
      refine pv_icmp_ge X 112 d_M_des_64 rfl (fun _ => ?_) (fun h => absurd (by decide) h)
      refine pv_lload X 2 d_M_des_112 rfl ?_
      refine pv_bipush X 32 d_M_des_114 (by decide) ?_
      refine pv_lshl X d_M_des_116 ?_
      refine pv_lload X 1 d_M_des_117 rfl ?_
      refine pv_lor X d_M_des_119 ?_
      refine pv_lstore (ll2 := [(6, .long ((((mdp k (fun i => 15 - i) (pk b 64 mini 64) 16).2) <<< ((32 : Int32).toInt64 &&& 63)) ||| ((mdp k (fun i => 15 - i) (pk b 64 mini 64) 16).1))), (12, .int (nI 16)), (8, .long ((mdp k (fun i => 15 - i) (pk b 64 mini 64) 16).1)), (10, .long ((mdp k (fun i => 15 - i) (pk b 64 mini 64) 16).2)), (0, .ref zm), (5, .int 1)]) X d_M_des_120 (by decide) rfl ?_
      refine pv_lconst X 0 d_M_des_122 (by decide) ?_
      refine pv_lstore (ll2 := [(12, .long (0 : Int64)), (6, .long ((((mdp k (fun i => 15 - i) (pk b 64 mini 64) 16).2) <<< ((32 : Int32).toInt64 &&& 63)) ||| ((mdp k (fun i => 15 - i) (pk b 64 mini 64) 16).1))), (8, .long ((mdp k (fun i => 15 - i) (pk b 64 mini 64) 16).1)), (10, .long ((mdp k (fun i => 15 - i) (pk b 64 mini 64) 16).2)), (0, .ref zm), (5, .int 1)]) X d_M_des_123 (by decide) rfl ?_
      refine pv_iconst X 0 d_M_des_125 (by decide) ?_
      refine pv_istore (ll2 := [(14, .int 0), (12, .long (0 : Int64)), (6, .long ((((mdp k (fun i => 15 - i) (pk b 64 mini 64) 16).2) <<< ((32 : Int32).toInt64 &&& 63)) ||| ((mdp k (fun i => 15 - i) (pk b 64 mini 64) 16).1))), (8, .long ((mdp k (fun i => 15 - i) (pk b 64 mini 64) 16).1)), (10, .long ((mdp k (fun i => 15 - i) (pk b 64 mini 64) 16).2)), (0, .ref zm), (5, .int 1)]) X d_M_des_126 (by decide) rfl ?_
      refine pv_lpick (ll2 := [(14, .int (nI 0)), (12, .long (mout (mjo (mdp k (fun i => 15 - i) (pk b 64 mini 64) 16)) 0)), (6, .long (mjo (mdp k (fun i => 15 - i) (pk b 64 mini 64) 16)))]) [0, 1, 2] rfl ?_
      refine pv_eqw (ws2 := [ob zm 5 [.ref zmp, .ref zm1, .ref zm2, .ref zmx, .int th, .ref zmh, .ref zmt, .int ys, .long yl, .long yr, .ref zmu, .ref zme, .ref zma, .ref zmb, .ref zmk, .ref zmc, .ref zmd, .ref zmi, .ref zmo, .ref zmf, .ref zmg, .ref zmn, .long yp, .long yq, .int yw, .long yx], aI G zmp 32 tb_perm, aI G zm1 56 tb_c1, aI G zm2 48 tb_c2, aI G zmx 512 tb_box, aJ G zmh 6 yv, aZ G zmt 6 yt, aI G zmu 16 yu, aZ G zme 16 ye, aJ G zma 16 ya, aJ G zmb 16 yb, aZ G zmk 8 yk, aJ G zmc 8 yc, aJ G zmd 8 yd, aJ G zmi 8 yi, aI G zmo 8 yo, aJ G zmf 5 yf, aJ G zmg 8 yg, aJ G zmn 16 (rnd k yn 16)]) rfl ?_
      refine pv_loop 64 (fun i => True) (fun i => [ob zm 5 [.ref zmp, .ref zm1, .ref zm2, .ref zmx, .int th, .ref zmh, .ref zmt, .int ys, .long yl, .long yr, .ref zmu, .ref zme, .ref zma, .ref zmb, .ref zmk, .ref zmc, .ref zmd, .ref zmi, .ref zmo, .ref zmf, .ref zmg, .ref zmn, .long yp, .long yq, .int yw, .long yx], aI G zmp 32 tb_perm, aI G zm1 56 tb_c1, aI G zm2 48 tb_c2, aI G zmx 512 tb_box, aJ G zmh 6 yv, aZ G zmt 6 yt, aI G zmu 16 yu, aZ G zme 16 ye, aJ G zma 16 ya, aJ G zmb 16 yb, aZ G zmk 8 yk, aJ G zmc 8 yc, aJ G zmd 8 yd, aJ G zmi 8 yi, aI G zmo 8 yo, aJ G zmf 5 yf, aJ G zmg 8 yg, aJ G zmn 16 (rnd k yn 16)]) (fun i => [(14, .int (nI i)), (12, .long (mout (mjo (mdp k (fun i => 15 - i) (pk b 64 mini 64) 16)) i)), (6, .long (mjo (mdp k (fun i => 15 - i) (pk b 64 mini 64) 16)))]) 0 (by omega) trivial (fun hI_i => ?_) (fun i h_i hI_i ih_i => ?_)
      · skip
        refine pv_iload X 0 d_M_des_128 rfl ?_
        refine pv_bipush X 64 d_M_des_130 (by decide) ?_
        refine pv_icmp_ge X 166 d_M_des_132 rfl (fun _ => ?_) (fun h => absurd (by decide) h)
        refine pv_lload X 1 d_M_des_166 rfl ?_
        exact pv_lret X hr hlk () rfl rfl d_M_des_168
      · skip
        refine pv_iload X 0 d_M_des_128 rfl ?_
        refine pv_bipush X 64 d_M_des_130 (by decide) ?_
        refine pv_icmp_ge X 166 d_M_des_132 rfl (fun h => absurd h (nI_ge h_i (by decide))) (fun _ => ?_)
        refine pv_lload X 1 d_M_des_135 rfl ?_
        refine pv_lload X 2 d_M_des_137 rfl ?_
        refine pv_iload X 0 d_M_des_139 rfl ?_
        refine pv_iconst X 1 d_M_des_141 (by decide) ?_
        refine pv_iadd X d_M_des_142 ?_
        refine pv_bipush X 64 d_M_des_143 (by decide) ?_
        refine pv_calll0 X (rn_S X (c_M_bit l G (mjo (mdp k (fun i => 15 - i) (pk b 64 mini 64) 16)) ((nI i) + 1) 64) trivial mf_M_bit m_694 m_695 rfl (by decide) (by decide) rfl (Nat.le_of_ble_eq_true rfl) d_M_des_145) ?_
        refine pv_bipush X 64 d_M_des_148 (by decide) ?_
        refine pv_iload X 0 d_M_des_150 rfl ?_
        refine pv_calli0 X (rn_S X (c_M_initial l G (nI i)) trivial mf_M_initial m_698 m_699 rfl (by decide) (by decide) rfl (Nat.le_of_ble_eq_true rfl) d_M_des_152) ?_
        refine pv_isub X d_M_des_155 ?_
        refine pv_lshl X d_M_des_156 ?_
        refine pv_lor X d_M_des_157 ?_
        refine pv_lstore (ll2 := [(12, .long ((mout (mjo (mdp k (fun i => 15 - i) (pk b 64 mini 64) 16)) i) ||| ((f_M_bit (mjo (mdp k (fun i => 15 - i) (pk b 64 mini 64) 16)) ((nI i) + 1) 64) <<< ((64 - (f_M_initial (nI i))).toInt64 &&& 63)))), (14, .int (nI i)), (6, .long (mjo (mdp k (fun i => 15 - i) (pk b 64 mini 64) 16)))]) X d_M_des_158 (by decide) rfl ?_
        refine pv_iinc (ll2 := [(14, .int (nI (i + 1))), (12, .long ((mout (mjo (mdp k (fun i => 15 - i) (pk b 64 mini 64) 16)) i) ||| ((f_M_bit (mjo (mdp k (fun i => 15 - i) (pk b 64 mini 64) 16)) ((nI i) + 1) 64) <<< ((64 - (f_M_initial (nI i))).toInt64 &&& 63)))), (6, .long (mjo (mdp k (fun i => 15 - i) (pk b 64 mini 64) 16)))]) X 1 (nI (i + 1)) d_M_des_160 rfl (nI_1 _) (by decide) rfl ?_
        refine pv_goto X 128 d_M_des_163 rfl ?_
        refine pv_lpick (ll2 := [(14, .int (nI (i + 1))), (12, .long (mout (mjo (mdp k (fun i => 15 - i) (pk b 64 mini 64) 16)) (i + 1))), (6, .long (mjo (mdp k (fun i => 15 - i) (pk b 64 mini 64) 16)))]) [0, 1, 2] rfl ?_
        refine pv_eqw (ws2 := [ob zm 5 [.ref zmp, .ref zm1, .ref zm2, .ref zmx, .int th, .ref zmh, .ref zmt, .int ys, .long yl, .long yr, .ref zmu, .ref zme, .ref zma, .ref zmb, .ref zmk, .ref zmc, .ref zmd, .ref zmi, .ref zmo, .ref zmf, .ref zmg, .ref zmn, .long yp, .long yq, .int yw, .long yx], aI G zmp 32 tb_perm, aI G zm1 56 tb_c1, aI G zm2 48 tb_c2, aI G zmx 512 tb_box, aJ G zmh 6 yv, aZ G zmt 6 yt, aI G zmu 16 yu, aZ G zme 16 ye, aJ G zma 16 ya, aJ G zmb 16 yb, aZ G zmk 8 yk, aJ G zmc 8 yc, aJ G zmd 8 yd, aJ G zmi 8 yi, aI G zmo 8 yo, aJ G zmf 5 yf, aJ G zmg 8 yg, aJ G zmn 16 (rnd k yn 16)]) rfl ?_
        exact ih_i trivial
    · skip
      refine pv_iload X 0 d_M_des_60 rfl ?_
      refine pv_bipush X 16 d_M_des_62 (by decide) ?_
      refine pv_icmp_ge X 112 d_M_des_64 rfl (fun h => absurd h (nI_ge h_i (by decide))) (fun _ => ?_)
      refine pv_lload X 1 d_M_des_67 rfl ?_
      refine pv_aload_n X 3 d_M_des_69 rfl ?_
      refine pv_lload X 2 d_M_des_70 rfl ?_
      refine pv_aload_n X 3 d_M_des_72 rfl ?_
      refine pv_get X 0 21 u_M_in m_595 rfl rfl (by decide) ⟨rfl, rfl, rfl⟩ rfl d_M_des_73 ?_
      refine pv_iload X 4 d_M_des_76 rfl ?_
      refine pv_if_eq X 89 d_M_des_78 rfl (fun h => absurd h (by decide)) (fun _ => ?_)
      refine pv_bipush X 15 d_M_des_81 (by decide) ?_
      refine pv_iload X 0 d_M_des_83 rfl ?_
      refine pv_isub X d_M_des_85 ?_
      refine pv_goto X 91 d_M_des_86 rfl ?_
      refine pv_topi (nI (15 - i)) (pk_sub (a := 15) (b := i) (by omega)) ?_
      refine pv_lald X 18 rfl (vp_in_nI (by omega) (by omega)) d_M_des_91 ?_
      refine pv_topl ((rnd k yn 16) (15 - i)) (congrArg (rnd k yn 16) (nI_clamp (by omega))) ?_
      refine pv_topl (mrk k (15 - i)) (rnd_at (by omega)) ?_
      refine pv_calllE X (Cut.all _) (rn_V X (c_M_mangle l G zm zmp zm1 zm2 zmx zmh zmt zmu zme zma zmb zmk zmc zmd zmi zmo zmf zmg zmn th ys yl yr yv yt yu ye ya yb yk yc yd yi yo yf yg (rnd k yn 16) yp yq yw yx ((mdp k (fun i => 15 - i) (pk b 64 mini 64) i).2) (mrk k (15 - i)) ) trivial mf_M_mangle m_702 m_704 ms_17 rfl 0 rfl rfl rfl (by decide) (by decide) rfl (Nat.le_of_ble_eq_true rfl) d_M_des_92) (fun x4 => ?_)
      refine pv_eqw (ws2 := [ob zm 5 [.ref zmp, .ref zm1, .ref zm2, .ref zmx, .int th, .ref zmh, .ref zmt, .int ys, .long yl, .long yr, .ref zmu, .ref zme, .ref zma, .ref zmb, .ref zmk, .ref zmc, .ref zmd, .ref zmi, .ref zmo, .ref zmf, .ref zmg, .ref zmn, .long yp, .long yq, .int yw, .long yx], aI G zmp 32 tb_perm, aI G zm1 56 tb_c1, aI G zm2 48 tb_c2, aI G zmx 512 tb_box, aJ G zmh 6 yv, aZ G zmt 6 yt, aI G zmu 16 yu, aZ G zme 16 ye, aJ G zma 16 ya, aJ G zmb 16 yb, aZ G zmk 8 yk, aJ G zmc 8 yc, aJ G zmd 8 yd, aJ G zmi 8 yi, aI G zmo 8 yo, aJ G zmf 5 yf, aJ G zmg 8 yg, aJ G zmn 16 (rnd k yn 16)]) rfl ?_
      refine pv_lxor X d_M_des_95 ?_
      refine pv_lstore (ll2 := [(13, .long (((mdp k (fun i => 15 - i) (pk b 64 mini 64) i).1) ^^^ (mang ((mdp k (fun i => 15 - i) (pk b 64 mini 64) i).2) (mrk k (15 - i))))), (12, .int (nI i)), (8, .long ((mdp k (fun i => 15 - i) (pk b 64 mini 64) i).1)), (10, .long ((mdp k (fun i => 15 - i) (pk b 64 mini 64) i).2)), (0, .ref zm), (5, .int 1)]) X d_M_des_96 (by decide) rfl ?_
      refine pv_lload X 3 d_M_des_98 rfl ?_
      refine pv_lstore (ll2 := [(8, .long ((mdp k (fun i => 15 - i) (pk b 64 mini 64) i).2)), (13, .long (((mdp k (fun i => 15 - i) (pk b 64 mini 64) i).1) ^^^ (mang ((mdp k (fun i => 15 - i) (pk b 64 mini 64) i).2) (mrk k (15 - i))))), (12, .int (nI i)), (10, .long ((mdp k (fun i => 15 - i) (pk b 64 mini 64) i).2)), (0, .ref zm), (5, .int 1)]) X d_M_des_100 (by decide) rfl ?_
      refine pv_lload X 1 d_M_des_102 rfl ?_
      refine pv_lstore (ll2 := [(10, .long (((mdp k (fun i => 15 - i) (pk b 64 mini 64) i).1) ^^^ (mang ((mdp k (fun i => 15 - i) (pk b 64 mini 64) i).2) (mrk k (15 - i))))), (8, .long ((mdp k (fun i => 15 - i) (pk b 64 mini 64) i).2)), (13, .long (((mdp k (fun i => 15 - i) (pk b 64 mini 64) i).1) ^^^ (mang ((mdp k (fun i => 15 - i) (pk b 64 mini 64) i).2) (mrk k (15 - i))))), (12, .int (nI i)), (0, .ref zm), (5, .int 1)]) X d_M_des_104 (by decide) rfl ?_
      refine pv_iinc (ll2 := [(12, .int (nI (i + 1))), (10, .long (((mdp k (fun i => 15 - i) (pk b 64 mini 64) i).1) ^^^ (mang ((mdp k (fun i => 15 - i) (pk b 64 mini 64) i).2) (mrk k (15 - i))))), (8, .long ((mdp k (fun i => 15 - i) (pk b 64 mini 64) i).2)), (13, .long (((mdp k (fun i => 15 - i) (pk b 64 mini 64) i).1) ^^^ (mang ((mdp k (fun i => 15 - i) (pk b 64 mini 64) i).2) (mrk k (15 - i))))), (0, .ref zm), (5, .int 1)]) X 3 (nI (i + 1)) d_M_des_106 rfl (nI_1 _) (by decide) rfl ?_
      refine pv_goto X 60 d_M_des_109 rfl ?_
      refine pv_lpick (ll2 := [(12, .int (nI (i + 1))), (8, .long ((mdp k (fun i => 15 - i) (pk b 64 mini 64) (i + 1)).1)), (10, .long ((mdp k (fun i => 15 - i) (pk b 64 mini 64) (i + 1)).2)), (0, .ref zm), (5, .int 1)]) [0, 2, 1, 4, 5] rfl ?_
      refine pv_eqw (ws2 := [ob zm 5 [.ref zmp, .ref zm1, .ref zm2, .ref zmx, .int th, .ref zmh, .ref zmt, .int ys, .long yl, .long yr, .ref zmu, .ref zme, .ref zma, .ref zmb, .ref zmk, .ref zmc, .ref zmd, .ref zmi, .ref zmo, .ref zmf, .ref zmg, .ref zmn, .long yp, .long yq, .int yw, .long yx], aI G zmp 32 tb_perm, aI G zm1 56 tb_c1, aI G zm2 48 tb_c2, aI G zmx 512 tb_box, aJ G zmh 6 yv, aZ G zmt 6 yt, aI G zmu 16 yu, aZ G zme 16 ye, aJ G zma 16 ya, aJ G zmb 16 yb, aZ G zmk 8 yk, aJ G zmc 8 yc, aJ G zmd 8 yd, aJ G zmi 8 yi, aI G zmo 8 yo, aJ G zmf 5 yf, aJ G zmg 8 yg, aJ G zmn 16 (rnd k yn 16)]) rfl ?_
      exact ih_i trivial
  · skip
    refine pv_iload X 0 d_M_des_11 rfl ?_
    refine pv_bipush X 64 d_M_des_13 (by decide) ?_
    refine pv_icmp_ge X 42 d_M_des_15 rfl (fun h => absurd h (nI_ge h_i (by decide))) (fun _ => ?_)
    refine pv_lload X 1 d_M_des_18 rfl ?_
    refine pv_iconst X 1 d_M_des_20 (by decide) ?_
    refine pv_lshl X d_M_des_21 ?_
    refine pv_lload_n X 3 d_M_des_22 rfl ?_
    refine pv_iload X 0 d_M_des_23 rfl ?_
    refine pv_calli0 X (rn_S X (c_M_initial l G (nI i)) trivial mf_M_initial m_698 m_699 rfl (by decide) (by decide) rfl (Nat.le_of_ble_eq_true rfl) d_M_des_25) ?_
    refine pv_bipush X 64 d_M_des_28 (by decide) ?_
    refine pv_calll0 X (rn_S X (c_M_bit l G b (f_M_initial (nI i)) 64) trivial mf_M_bit m_694 m_695 rfl (by decide) (by decide) rfl (Nat.le_of_ble_eq_true rfl) d_M_des_30) ?_
    refine pv_lor X d_M_des_33 ?_
    refine pv_lstore (ll2 := [(6, .long (((pk b 64 mini i) <<< ((1 : Int32).toInt64 &&& 63)) ||| (f_M_bit b (f_M_initial (nI i)) 64))), (8, .int (nI i)), (0, .ref zm), (3, .long b), (5, .int 1)]) X d_M_des_34 (by decide) rfl ?_
    refine pv_iinc (ll2 := [(8, .int (nI (i + 1))), (6, .long (((pk b 64 mini i) <<< ((1 : Int32).toInt64 &&& 63)) ||| (f_M_bit b (f_M_initial (nI i)) 64))), (0, .ref zm), (3, .long b), (5, .int 1)]) X 1 (nI (i + 1)) d_M_des_36 rfl (nI_1 _) (by decide) rfl ?_
    refine pv_goto X 11 d_M_des_39 rfl ?_
    refine pv_lpick (ll2 := [(8, .int (nI (i + 1))), (6, .long (pk b 64 mini (i + 1))), (0, .ref zm), (3, .long b), (5, .int 1)]) [0, 1, 2, 3, 4] rfl ?_
    refine pv_eqw (ws2 := [ob zm 5 [.ref zmp, .ref zm1, .ref zm2, .ref zmx, .int th, .ref zmh, .ref zmt, .int ys, .long yl, .long yr, .ref zmu, .ref zme, .ref zma, .ref zmb, .ref zmk, .ref zmc, .ref zmd, .ref zmi, .ref zmo, .ref zmf, .ref zmg, .ref zmn, .long yp, .long yq, .int yw, .long yx], aI G zmp 32 tb_perm, aI G zm1 56 tb_c1, aI G zm2 48 tb_c2, aI G zmx 512 tb_box, aJ G zmh 6 yv, aZ G zmt 6 yt, aI G zmu 16 yu, aZ G zme 16 ye, aJ G zma 16 ya, aJ G zmb 16 yb, aZ G zmk 8 yk, aJ G zmc 8 yc, aJ G zmd 8 yd, aJ G zmi 8 yi, aI G zmo 8 yo, aJ G zmf 5 yf, aJ G zmg 8 yg, aJ G zmn 16 (rnd k yn 16)]) rfl ?_
    exact ih_i trivial
