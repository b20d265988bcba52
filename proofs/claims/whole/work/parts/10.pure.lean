def f_D_turned (x : Int64) (t : Int32) : Int64 := ((x <<< (t.toInt64 &&& 63)) ||| ((x.toUInt64 >>> ((28 - t).toInt64.toUInt64 &&& Int64.toUInt64 63)).toInt64)) &&& (268435455 : Int64)
abbrev rm_D_turned : Room := { frames := 0, cells := 0, slots := 0, locals := 0 }
theorem mf_D_turned : MF y_D_turned b_D_turned 3 (some .long) 2 := ⟨m_185, m_4, by decide, by decide, by decide +kernel⟩
theorem d_D_turned_0 : decode b_D_turned 0 = .ok (.lload_n 0, 1) := by decide +kernel
theorem d_D_turned_1 : decode b_D_turned 1 = .ok (.iload_n 2, 1) := by decide +kernel
theorem d_D_turned_2 : decode b_D_turned 2 = .ok (.lshl, 1) := by decide +kernel
theorem d_D_turned_3 : decode b_D_turned 3 = .ok (.lload_n 0, 1) := by decide +kernel
theorem d_D_turned_4 : decode b_D_turned 4 = .ok (.bipush 28, 2) := by decide +kernel
theorem d_D_turned_6 : decode b_D_turned 6 = .ok (.iload_n 2, 1) := by decide +kernel
theorem d_D_turned_7 : decode b_D_turned 7 = .ok (.isub, 1) := by decide +kernel
theorem d_D_turned_8 : decode b_D_turned 8 = .ok (.lushr, 1) := by decide +kernel
theorem d_D_turned_9 : decode b_D_turned 9 = .ok (.lor, 1) := by decide +kernel
theorem d_D_turned_10 : decode b_D_turned 10 = .ok (.ldc2_w 25, 3) := by decide +kernel
theorem d_D_turned_13 : decode b_D_turned 13 = .ok (.land, 1) := by decide +kernel
theorem d_D_turned_14 : decode b_D_turned 14 = .ok (.lreturn, 1) := by decide +kernel
set_option maxRecDepth 100000 in
set_option maxHeartbeats 4000000 in
theorem c_D_turned (l : Launch) (G : Gt) (x : Int64) (t : Int32) : CtL l G y_D_turned b_D_turned 3 (some .long) rm_D_turned E0 [.long x, .int t] [] (fun r (_ : Unit) => r = f_D_turned x t) (fun _ => []) 0 0 := by
  refine Ct.of (Qp := fun A => va_Ql _ (qB G A _) A) Stb_0 (by decide) (Nat.le_of_ble_eq_true rfl) ?_
  intro p e s m args below meth c A X hE hr hlk hini
  refine pv_eql (ll2 := [(0, .long x), (2, .int t)]) rfl ?_
  refine pv_lload_n X 0 d_D_turned_0 rfl ?_
  refine pv_iload_n X 1 d_D_turned_1 rfl ?_
  refine pv_lshl X d_D_turned_2 ?_
  refine pv_lload_n X 0 d_D_turned_3 rfl ?_
  refine pv_bipush X 28 d_D_turned_4 (by decide) ?_
  refine pv_iload_n X 1 d_D_turned_6 rfl ?_
  refine pv_isub X d_D_turned_7 ?_
  refine pv_lushr X d_D_turned_8 ?_
  refine pv_lor X d_D_turned_9 ?_
  refine pv_ldc2_w X m_180 d_D_turned_10 ?_
  refine pv_land X d_D_turned_13 ?_
  exact pv_lret X hr hlk () rfl rfl d_D_turned_14
def f_S_isNumber (k : Int32) : Int32 := if k < 0 then 0 else (if 16 ≤ k then 0 else 1)
theorem bo_S_isNumber (k : Int32) : Bo (f_S_isNumber k) := by
  unfold f_S_isNumber
  repeat (first | with_reducible exact bo_0 | with_reducible exact bo_1 | split)
abbrev rm_S_isNumber : Room := { frames := 0, cells := 0, slots := 0, locals := 0 }
theorem mf_S_isNumber : MF y_S_isNumber b_S_isNumber 1 (some .boolean) 1 := ⟨m_152, m_2, by decide, by decide, by decide +kernel⟩
theorem d_S_isNumber_0 : decode b_S_isNumber 0 = .ok (.iload_n 0, 1) := by decide +kernel
theorem d_S_isNumber_1 : decode b_S_isNumber 1 = .ok (.ifCond .lt 13, 3) := by decide +kernel
theorem d_S_isNumber_4 : decode b_S_isNumber 4 = .ok (.iload_n 0, 1) := by decide +kernel
theorem d_S_isNumber_5 : decode b_S_isNumber 5 = .ok (.bipush 16, 2) := by decide +kernel
theorem d_S_isNumber_7 : decode b_S_isNumber 7 = .ok (.if_icmp .ge 7, 3) := by decide +kernel
theorem d_S_isNumber_10 : decode b_S_isNumber 10 = .ok (.iconst 1, 1) := by decide +kernel
theorem d_S_isNumber_11 : decode b_S_isNumber 11 = .ok (.goto 4, 3) := by decide +kernel
theorem d_S_isNumber_14 : decode b_S_isNumber 14 = .ok (.iconst 0, 1) := by decide +kernel
theorem d_S_isNumber_15 : decode b_S_isNumber 15 = .ok (.ireturn, 1) := by decide +kernel
set_option maxRecDepth 100000 in
set_option maxHeartbeats 4000000 in
theorem c_S_isNumber (l : Launch) (G : Gt) (k : Int32) : CtI l G y_S_isNumber b_S_isNumber 1 (some .boolean) rm_S_isNumber E0 [.int k] [] (fun r (_ : Unit) => r = f_S_isNumber k) (fun _ => []) 0 0 := by
  refine Ct.of (Qp := fun A => va_Qi _ (qB G A _) A) Stb_0 (by decide) (Nat.le_of_ble_eq_true rfl) ?_
  intro p e s m args below meth c A X hE hr hlk hini
  refine pv_eql (ll2 := [(0, .int k)]) rfl ?_
  refine pv_iload_n X 0 d_S_isNumber_0 rfl ?_
  refine pv_if_lt X 14 d_S_isNumber_1 rfl (fun h1 => ?_) (fun h1n => ?_)
  · skip
    refine pv_iconst X 0 d_S_isNumber_14 (by decide) ?_
    exact pv_zret X hr hlk rfl () (by show _ = f_S_isNumber k; unfold f_S_isNumber; rw [if_pos h1]) rfl d_S_isNumber_15
  · skip
    refine pv_iload_n X 0 d_S_isNumber_4 rfl ?_
    refine pv_bipush X 16 d_S_isNumber_5 (by decide) ?_
    refine pv_icmp_ge X 14 d_S_isNumber_7 rfl (fun h2 => ?_) (fun h2n => ?_)
    · skip
      refine pv_iconst X 0 d_S_isNumber_14 (by decide) ?_
      exact pv_zret X hr hlk rfl () (by show _ = f_S_isNumber k; unfold f_S_isNumber; rw [if_neg h1n, if_pos h2]) rfl d_S_isNumber_15
    · skip
      refine pv_iconst X 1 d_S_isNumber_10 (by decide) ?_
      refine pv_goto X 15 d_S_isNumber_11 rfl ?_
      exact pv_zret X hr hlk rfl () (by show _ = f_S_isNumber k; unfold f_S_isNumber; rw [if_neg h1n, if_neg h2n]) rfl d_S_isNumber_15
def f_T_isNumber (k : Int32) : Int32 := if k < 0 then 0 else (if 8 ≤ k then 0 else 1)
theorem bo_T_isNumber (k : Int32) : Bo (f_T_isNumber k) := by
  unfold f_T_isNumber
  repeat (first | with_reducible exact bo_0 | with_reducible exact bo_1 | split)
abbrev rm_T_isNumber : Room := { frames := 0, cells := 0, slots := 0, locals := 0 }
theorem mf_T_isNumber : MF y_T_isNumber b_T_isNumber 1 (some .boolean) 1 := ⟨m_289, m_3, by decide, by decide, by decide +kernel⟩
theorem d_T_isNumber_0 : decode b_T_isNumber 0 = .ok (.iload_n 0, 1) := by decide +kernel
theorem d_T_isNumber_1 : decode b_T_isNumber 1 = .ok (.ifCond .lt 13, 3) := by decide +kernel
theorem d_T_isNumber_4 : decode b_T_isNumber 4 = .ok (.iload_n 0, 1) := by decide +kernel
theorem d_T_isNumber_5 : decode b_T_isNumber 5 = .ok (.bipush 8, 2) := by decide +kernel
theorem d_T_isNumber_7 : decode b_T_isNumber 7 = .ok (.if_icmp .ge 7, 3) := by decide +kernel
theorem d_T_isNumber_10 : decode b_T_isNumber 10 = .ok (.iconst 1, 1) := by decide +kernel
theorem d_T_isNumber_11 : decode b_T_isNumber 11 = .ok (.goto 4, 3) := by decide +kernel
theorem d_T_isNumber_14 : decode b_T_isNumber 14 = .ok (.iconst 0, 1) := by decide +kernel
theorem d_T_isNumber_15 : decode b_T_isNumber 15 = .ok (.ireturn, 1) := by decide +kernel
set_option maxRecDepth 100000 in
set_option maxHeartbeats 4000000 in
theorem c_T_isNumber (l : Launch) (G : Gt) (k : Int32) : CtI l G y_T_isNumber b_T_isNumber 1 (some .boolean) rm_T_isNumber E0 [.int k] [] (fun r (_ : Unit) => r = f_T_isNumber k) (fun _ => []) 0 0 := by
  refine Ct.of (Qp := fun A => va_Qi _ (qB G A _) A) Stb_0 (by decide) (Nat.le_of_ble_eq_true rfl) ?_
  intro p e s m args below meth c A X hE hr hlk hini
  refine pv_eql (ll2 := [(0, .int k)]) rfl ?_
  refine pv_iload_n X 0 d_T_isNumber_0 rfl ?_
  refine pv_if_lt X 14 d_T_isNumber_1 rfl (fun h1 => ?_) (fun h1n => ?_)
  · skip
    refine pv_iconst X 0 d_T_isNumber_14 (by decide) ?_
    exact pv_zret X hr hlk rfl () (by show _ = f_T_isNumber k; unfold f_T_isNumber; rw [if_pos h1]) rfl d_T_isNumber_15
  · skip
    refine pv_iload_n X 0 d_T_isNumber_4 rfl ?_
    refine pv_bipush X 8 d_T_isNumber_5 (by decide) ?_
    refine pv_icmp_ge X 14 d_T_isNumber_7 rfl (fun h2 => ?_) (fun h2n => ?_)
    · skip
      refine pv_iconst X 0 d_T_isNumber_14 (by decide) ?_
      exact pv_zret X hr hlk rfl () (by show _ = f_T_isNumber k; unfold f_T_isNumber; rw [if_neg h1n, if_pos h2]) rfl d_T_isNumber_15
    · skip
      refine pv_iconst X 1 d_T_isNumber_10 (by decide) ?_
      refine pv_goto X 15 d_T_isNumber_11 rfl ?_
      exact pv_zret X hr hlk rfl () (by show _ = f_T_isNumber k; unfold f_T_isNumber; rw [if_neg h1n, if_neg h2n]) rfl d_T_isNumber_15
def f_T_isSerial (v : Int64) : Int32 := if (lg_cmp v (0 : Int64)) < 0 then 0 else (if 0 < (lg_cmp v (8796093022207 : Int64)) then 0 else 1)
theorem bo_T_isSerial (v : Int64) : Bo (f_T_isSerial v) := by
  unfold f_T_isSerial
  repeat (first | with_reducible exact bo_0 | with_reducible exact bo_1 | split)
abbrev rm_T_isSerial : Room := { frames := 0, cells := 0, slots := 0, locals := 0 }
theorem mf_T_isSerial : MF y_T_isSerial b_T_isSerial 2 (some .boolean) 1 := ⟨m_292, m_3, by decide, by decide, by decide +kernel⟩
theorem d_T_isSerial_0 : decode b_T_isSerial 0 = .ok (.lload_n 0, 1) := by decide +kernel
theorem d_T_isSerial_1 : decode b_T_isSerial 1 = .ok (.lconst 0, 1) := by decide +kernel
theorem d_T_isSerial_2 : decode b_T_isSerial 2 = .ok (.lcmp, 1) := by decide +kernel
theorem d_T_isSerial_3 : decode b_T_isSerial 3 = .ok (.ifCond .lt 15, 3) := by decide +kernel
theorem d_T_isSerial_6 : decode b_T_isSerial 6 = .ok (.lload_n 0, 1) := by decide +kernel
theorem d_T_isSerial_7 : decode b_T_isSerial 7 = .ok (.ldc2_w 32, 3) := by decide +kernel
theorem d_T_isSerial_10 : decode b_T_isSerial 10 = .ok (.lcmp, 1) := by decide +kernel
theorem d_T_isSerial_11 : decode b_T_isSerial 11 = .ok (.ifCond .gt 7, 3) := by decide +kernel
theorem d_T_isSerial_14 : decode b_T_isSerial 14 = .ok (.iconst 1, 1) := by decide +kernel
theorem d_T_isSerial_15 : decode b_T_isSerial 15 = .ok (.goto 4, 3) := by decide +kernel
theorem d_T_isSerial_18 : decode b_T_isSerial 18 = .ok (.iconst 0, 1) := by decide +kernel
theorem d_T_isSerial_19 : decode b_T_isSerial 19 = .ok (.ireturn, 1) := by decide +kernel
set_option maxRecDepth 100000 in
set_option maxHeartbeats 4000000 in
theorem c_T_isSerial (l : Launch) (G : Gt) (v : Int64) : CtI l G y_T_isSerial b_T_isSerial 2 (some .boolean) rm_T_isSerial E0 [.long v] [] (fun r (_ : Unit) => r = f_T_isSerial v) (fun _ => []) 0 0 := by
  refine Ct.of (Qp := fun A => va_Qi _ (qB G A _) A) Stb_0 (by decide) (Nat.le_of_ble_eq_true rfl) ?_
  intro p e s m args below meth c A X hE hr hlk hini
  refine pv_eql (ll2 := [(0, .long v)]) rfl ?_
  refine pv_lload_n X 0 d_T_isSerial_0 rfl ?_
  refine pv_lconst X 0 d_T_isSerial_1 (by decide) ?_
  refine pv_lcmp X d_T_isSerial_2 ?_
  refine pv_if_lt X 18 d_T_isSerial_3 rfl (fun h1 => ?_) (fun h1n => ?_)
  · skip
    refine pv_iconst X 0 d_T_isSerial_18 (by decide) ?_
    exact pv_zret X hr hlk rfl () (by show _ = f_T_isSerial v; unfold f_T_isSerial; rw [if_pos h1]) rfl d_T_isSerial_19
  · skip
    refine pv_lload_n X 0 d_T_isSerial_6 rfl ?_
    refine pv_ldc2_w X m_293 d_T_isSerial_7 ?_
    refine pv_lcmp X d_T_isSerial_10 ?_
    refine pv_if_gt X 18 d_T_isSerial_11 rfl (fun h2 => ?_) (fun h2n => ?_)
    · skip
      refine pv_iconst X 0 d_T_isSerial_18 (by decide) ?_
      exact pv_zret X hr hlk rfl () (by show _ = f_T_isSerial v; unfold f_T_isSerial; rw [if_neg h1n, if_pos h2]) rfl d_T_isSerial_19
    · skip
      refine pv_iconst X 1 d_T_isSerial_14 (by decide) ?_
      refine pv_goto X 19 d_T_isSerial_15 rfl ?_
      exact pv_zret X hr hlk rfl () (by show _ = f_T_isSerial v; unfold f_T_isSerial; rw [if_neg h1n, if_neg h2n]) rfl d_T_isSerial_19
def f_K_firstLong (a : Int64) : Int64 := (36028797018963968 : Int64) ||| ((a.toUInt64 >>> ((16 : Int32).toInt64.toUInt64 &&& Int64.toUInt64 63)).toInt64)
abbrev rm_K_firstLong : Room := { frames := 0, cells := 0, slots := 0, locals := 0 }
theorem mf_K_firstLong : MF y_K_firstLong b_K_firstLong 2 (some .long) 1 := ⟨m_247, m_13, by decide, by decide, by decide +kernel⟩
theorem d_K_firstLong_0 : decode b_K_firstLong 0 = .ok (.ldc2_w 19, 3) := by decide +kernel
theorem d_K_firstLong_3 : decode b_K_firstLong 3 = .ok (.lload_n 0, 1) := by decide +kernel
theorem d_K_firstLong_4 : decode b_K_firstLong 4 = .ok (.bipush 16, 2) := by decide +kernel
theorem d_K_firstLong_6 : decode b_K_firstLong 6 = .ok (.lushr, 1) := by decide +kernel
theorem d_K_firstLong_7 : decode b_K_firstLong 7 = .ok (.lor, 1) := by decide +kernel
theorem d_K_firstLong_8 : decode b_K_firstLong 8 = .ok (.lreturn, 1) := by decide +kernel
set_option maxRecDepth 100000 in
set_option maxHeartbeats 4000000 in
theorem c_K_firstLong (l : Launch) (G : Gt) (a : Int64) : CtL l G y_K_firstLong b_K_firstLong 2 (some .long) rm_K_firstLong E0 [.long a] [] (fun r (_ : Unit) => r = f_K_firstLong a) (fun _ => []) 0 0 := by
  refine Ct.of (Qp := fun A => va_Ql _ (qB G A _) A) Stb_0 (by decide) (Nat.le_of_ble_eq_true rfl) ?_
  intro p e s m args below meth c A X hE hr hlk hini
  refine pv_eql (ll2 := [(0, .long a)]) rfl ?_
  refine pv_ldc2_w X m_248 d_K_firstLong_0 ?_
  refine pv_lload_n X 0 d_K_firstLong_3 rfl ?_
  refine pv_bipush X 16 d_K_firstLong_4 (by decide) ?_
  refine pv_lushr X d_K_firstLong_6 ?_
  refine pv_lor X d_K_firstLong_7 ?_
  exact pv_lret X hr hlk () rfl rfl d_K_firstLong_8
def f_K_secondLong (a : Int64) (b : Int64) : Int64 := (a <<< ((48 : Int32).toInt64 &&& 63)) ||| ((b.toUInt64 >>> ((16 : Int32).toInt64.toUInt64 &&& Int64.toUInt64 63)).toInt64)
abbrev rm_K_secondLong : Room := { frames := 0, cells := 0, slots := 0, locals := 0 }
theorem mf_K_secondLong : MF y_K_secondLong b_K_secondLong 4 (some .long) 2 := ⟨m_251, m_13, by decide, by decide, by decide +kernel⟩
theorem d_K_secondLong_0 : decode b_K_secondLong 0 = .ok (.lload_n 0, 1) := by decide +kernel
theorem d_K_secondLong_1 : decode b_K_secondLong 1 = .ok (.bipush 48, 2) := by decide +kernel
theorem d_K_secondLong_3 : decode b_K_secondLong 3 = .ok (.lshl, 1) := by decide +kernel
theorem d_K_secondLong_4 : decode b_K_secondLong 4 = .ok (.lload_n 2, 1) := by decide +kernel
theorem d_K_secondLong_5 : decode b_K_secondLong 5 = .ok (.bipush 16, 2) := by decide +kernel
theorem d_K_secondLong_7 : decode b_K_secondLong 7 = .ok (.lushr, 1) := by decide +kernel
theorem d_K_secondLong_8 : decode b_K_secondLong 8 = .ok (.lor, 1) := by decide +kernel
theorem d_K_secondLong_9 : decode b_K_secondLong 9 = .ok (.lreturn, 1) := by decide +kernel
set_option maxRecDepth 100000 in
set_option maxHeartbeats 4000000 in
theorem c_K_secondLong (l : Launch) (G : Gt) (a : Int64) (b : Int64) : CtL l G y_K_secondLong b_K_secondLong 4 (some .long) rm_K_secondLong E0 [.long a, .long b] [] (fun r (_ : Unit) => r = f_K_secondLong a b) (fun _ => []) 0 0 := by
  refine Ct.of (Qp := fun A => va_Ql _ (qB G A _) A) Stb_0 (by decide) (Nat.le_of_ble_eq_true rfl) ?_
  intro p e s m args below meth c A X hE hr hlk hini
  refine pv_eql (ll2 := [(0, .long a), (2, .long b)]) rfl ?_
  refine pv_lload_n X 0 d_K_secondLong_0 rfl ?_
  refine pv_bipush X 48 d_K_secondLong_1 (by decide) ?_
  refine pv_lshl X d_K_secondLong_3 ?_
  refine pv_lload_n X 1 d_K_secondLong_4 rfl ?_
  refine pv_bipush X 16 d_K_secondLong_5 (by decide) ?_
  refine pv_lushr X d_K_secondLong_7 ?_
  refine pv_lor X d_K_secondLong_8 ?_
  exact pv_lret X hr hlk () rfl rfl d_K_secondLong_9
def f_K_thirdLong (a : Int64) : Int64 := a <<< ((48 : Int32).toInt64 &&& 63)
abbrev rm_K_thirdLong : Room := { frames := 0, cells := 0, slots := 0, locals := 0 }
theorem mf_K_thirdLong : MF y_K_thirdLong b_K_thirdLong 2 (some .long) 1 := ⟨m_254, m_13, by decide, by decide, by decide +kernel⟩
theorem d_K_thirdLong_0 : decode b_K_thirdLong 0 = .ok (.lload_n 0, 1) := by decide +kernel
theorem d_K_thirdLong_1 : decode b_K_thirdLong 1 = .ok (.bipush 48, 2) := by decide +kernel
theorem d_K_thirdLong_3 : decode b_K_thirdLong 3 = .ok (.lshl, 1) := by decide +kernel
theorem d_K_thirdLong_4 : decode b_K_thirdLong 4 = .ok (.lreturn, 1) := by decide +kernel
set_option maxRecDepth 100000 in
set_option maxHeartbeats 4000000 in
theorem c_K_thirdLong (l : Launch) (G : Gt) (a : Int64) : CtL l G y_K_thirdLong b_K_thirdLong 2 (some .long) rm_K_thirdLong E0 [.long a] [] (fun r (_ : Unit) => r = f_K_thirdLong a) (fun _ => []) 0 0 := by
  refine Ct.of (Qp := fun A => va_Ql _ (qB G A _) A) Stb_0 (by decide) (Nat.le_of_ble_eq_true rfl) ?_
  intro p e s m args below meth c A X hE hr hlk hini
  refine pv_eql (ll2 := [(0, .long a)]) rfl ?_
  refine pv_lload_n X 0 d_K_thirdLong_0 rfl ?_
  refine pv_bipush X 48 d_K_thirdLong_1 (by decide) ?_
  refine pv_lshl X d_K_thirdLong_3 ?_
  exact pv_lret X hr hlk () rfl rfl d_K_thirdLong_4
def f_K_leftHalf (a : Int64) (b : Int64) : Int64 := (a <<< ((16 : Int32).toInt64 &&& 63)) ||| ((b.toUInt64 >>> ((48 : Int32).toInt64.toUInt64 &&& Int64.toUInt64 63)).toInt64)
abbrev rm_K_leftHalf : Room := { frames := 0, cells := 0, slots := 0, locals := 0 }
theorem mf_K_leftHalf : MF y_K_leftHalf b_K_leftHalf 4 (some .long) 2 := ⟨m_275, m_13, by decide, by decide, by decide +kernel⟩
theorem d_K_leftHalf_0 : decode b_K_leftHalf 0 = .ok (.lload_n 0, 1) := by decide +kernel
theorem d_K_leftHalf_1 : decode b_K_leftHalf 1 = .ok (.bipush 16, 2) := by decide +kernel
theorem d_K_leftHalf_3 : decode b_K_leftHalf 3 = .ok (.lshl, 1) := by decide +kernel
theorem d_K_leftHalf_4 : decode b_K_leftHalf 4 = .ok (.lload_n 2, 1) := by decide +kernel
theorem d_K_leftHalf_5 : decode b_K_leftHalf 5 = .ok (.bipush 48, 2) := by decide +kernel
theorem d_K_leftHalf_7 : decode b_K_leftHalf 7 = .ok (.lushr, 1) := by decide +kernel
theorem d_K_leftHalf_8 : decode b_K_leftHalf 8 = .ok (.lor, 1) := by decide +kernel
theorem d_K_leftHalf_9 : decode b_K_leftHalf 9 = .ok (.lreturn, 1) := by decide +kernel
set_option maxRecDepth 100000 in
set_option maxHeartbeats 4000000 in
theorem c_K_leftHalf (l : Launch) (G : Gt) (a : Int64) (b : Int64) : CtL l G y_K_leftHalf b_K_leftHalf 4 (some .long) rm_K_leftHalf E0 [.long a, .long b] [] (fun r (_ : Unit) => r = f_K_leftHalf a b) (fun _ => []) 0 0 := by
  refine Ct.of (Qp := fun A => va_Ql _ (qB G A _) A) Stb_0 (by decide) (Nat.le_of_ble_eq_true rfl) ?_
  intro p e s m args below meth c A X hE hr hlk hini
  refine pv_eql (ll2 := [(0, .long a), (2, .long b)]) rfl ?_
  refine pv_lload_n X 0 d_K_leftHalf_0 rfl ?_
  refine pv_bipush X 16 d_K_leftHalf_1 (by decide) ?_
  refine pv_lshl X d_K_leftHalf_3 ?_
  refine pv_lload_n X 1 d_K_leftHalf_4 rfl ?_
  refine pv_bipush X 48 d_K_leftHalf_5 (by decide) ?_
  refine pv_lushr X d_K_leftHalf_7 ?_
  refine pv_lor X d_K_leftHalf_8 ?_
  exact pv_lret X hr hlk () rfl rfl d_K_leftHalf_9
def f_K_rightHalf (a : Int64) (b : Int64) : Int64 := (a <<< ((16 : Int32).toInt64 &&& 63)) ||| ((b.toUInt64 >>> ((48 : Int32).toInt64.toUInt64 &&& Int64.toUInt64 63)).toInt64)
abbrev rm_K_rightHalf : Room := { frames := 0, cells := 0, slots := 0, locals := 0 }
theorem mf_K_rightHalf : MF y_K_rightHalf b_K_rightHalf 4 (some .long) 2 := ⟨m_278, m_13, by decide, by decide, by decide +kernel⟩
theorem d_K_rightHalf_0 : decode b_K_rightHalf 0 = .ok (.lload_n 0, 1) := by decide +kernel
theorem d_K_rightHalf_1 : decode b_K_rightHalf 1 = .ok (.bipush 16, 2) := by decide +kernel
theorem d_K_rightHalf_3 : decode b_K_rightHalf 3 = .ok (.lshl, 1) := by decide +kernel
theorem d_K_rightHalf_4 : decode b_K_rightHalf 4 = .ok (.lload_n 2, 1) := by decide +kernel
theorem d_K_rightHalf_5 : decode b_K_rightHalf 5 = .ok (.bipush 48, 2) := by decide +kernel
theorem d_K_rightHalf_7 : decode b_K_rightHalf 7 = .ok (.lushr, 1) := by decide +kernel
theorem d_K_rightHalf_8 : decode b_K_rightHalf 8 = .ok (.lor, 1) := by decide +kernel
theorem d_K_rightHalf_9 : decode b_K_rightHalf 9 = .ok (.lreturn, 1) := by decide +kernel
set_option maxRecDepth 100000 in
set_option maxHeartbeats 4000000 in
theorem c_K_rightHalf (l : Launch) (G : Gt) (a : Int64) (b : Int64) : CtL l G y_K_rightHalf b_K_rightHalf 4 (some .long) rm_K_rightHalf E0 [.long a, .long b] [] (fun r (_ : Unit) => r = f_K_rightHalf a b) (fun _ => []) 0 0 := by
  refine Ct.of (Qp := fun A => va_Ql _ (qB G A _) A) Stb_0 (by decide) (Nat.le_of_ble_eq_true rfl) ?_
  intro p e s m args below meth c A X hE hr hlk hini
  refine pv_eql (ll2 := [(0, .long a), (2, .long b)]) rfl ?_
  refine pv_lload_n X 0 d_K_rightHalf_0 rfl ?_
  refine pv_bipush X 16 d_K_rightHalf_1 (by decide) ?_
  refine pv_lshl X d_K_rightHalf_3 ?_
  refine pv_lload_n X 1 d_K_rightHalf_4 rfl ?_
  refine pv_bipush X 48 d_K_rightHalf_5 (by decide) ?_
  refine pv_lushr X d_K_rightHalf_7 ?_
  refine pv_lor X d_K_rightHalf_8 ?_
  exact pv_lret X hr hlk () rfl rfl d_K_rightHalf_9
def f_K_isFramed (a : Int64) (b : Int64) : Int32 := if (lg_cmp ((a.toUInt64 >>> ((48 : Int32).toInt64.toUInt64 &&& Int64.toUInt64 63)).toInt64) (128 : Int64)) = 0 then (if (lg_cmp (b <<< ((16 : Int32).toInt64 &&& 63)) (0 : Int64)) = 0 then 1 else 0) else 0
theorem bo_K_isFramed (a : Int64) (b : Int64) : Bo (f_K_isFramed a b) := by
  unfold f_K_isFramed
  repeat (first | with_reducible exact bo_0 | with_reducible exact bo_1 | split)
abbrev rm_K_isFramed : Room := { frames := 0, cells := 0, slots := 0, locals := 0 }
theorem mf_K_isFramed : MF y_K_isFramed b_K_isFramed 4 (some .boolean) 2 := ⟨m_281, m_13, by decide, by decide, by decide +kernel⟩
theorem d_K_isFramed_0 : decode b_K_isFramed 0 = .ok (.lload_n 0, 1) := by decide +kernel
theorem d_K_isFramed_1 : decode b_K_isFramed 1 = .ok (.bipush 48, 2) := by decide +kernel
theorem d_K_isFramed_3 : decode b_K_isFramed 3 = .ok (.lushr, 1) := by decide +kernel
theorem d_K_isFramed_4 : decode b_K_isFramed 4 = .ok (.ldc2_w 21, 3) := by decide +kernel
theorem d_K_isFramed_7 : decode b_K_isFramed 7 = .ok (.lcmp, 1) := by decide +kernel
theorem d_K_isFramed_8 : decode b_K_isFramed 8 = .ok (.ifCond .ne 16, 3) := by decide +kernel
theorem d_K_isFramed_11 : decode b_K_isFramed 11 = .ok (.lload_n 2, 1) := by decide +kernel
theorem d_K_isFramed_12 : decode b_K_isFramed 12 = .ok (.bipush 16, 2) := by decide +kernel
theorem d_K_isFramed_14 : decode b_K_isFramed 14 = .ok (.lshl, 1) := by decide +kernel
theorem d_K_isFramed_15 : decode b_K_isFramed 15 = .ok (.lconst 0, 1) := by decide +kernel
theorem d_K_isFramed_16 : decode b_K_isFramed 16 = .ok (.lcmp, 1) := by decide +kernel
theorem d_K_isFramed_17 : decode b_K_isFramed 17 = .ok (.ifCond .ne 7, 3) := by decide +kernel
theorem d_K_isFramed_20 : decode b_K_isFramed 20 = .ok (.iconst 1, 1) := by decide +kernel
theorem d_K_isFramed_21 : decode b_K_isFramed 21 = .ok (.goto 4, 3) := by decide +kernel
theorem d_K_isFramed_24 : decode b_K_isFramed 24 = .ok (.iconst 0, 1) := by decide +kernel
theorem d_K_isFramed_25 : decode b_K_isFramed 25 = .ok (.ireturn, 1) := by decide +kernel
set_option maxRecDepth 100000 in
set_option maxHeartbeats 4000000 in
theorem c_K_isFramed (l : Launch) (G : Gt) (a : Int64) (b : Int64) : CtI l G y_K_isFramed b_K_isFramed 4 (some .boolean) rm_K_isFramed E0 [.long a, .long b] [] (fun r (_ : Unit) => r = f_K_isFramed a b) (fun _ => []) 0 0 := by
  refine Ct.of (Qp := fun A => va_Qi _ (qB G A _) A) Stb_0 (by decide) (Nat.le_of_ble_eq_true rfl) ?_
  intro p e s m args below meth c A X hE hr hlk hini
  refine pv_eql (ll2 := [(0, .long a), (2, .long b)]) rfl ?_
  refine pv_lload_n X 0 d_K_isFramed_0 rfl ?_
  refine pv_bipush X 48 d_K_isFramed_1 (by decide) ?_
  refine pv_lushr X d_K_isFramed_3 ?_
  refine pv_ldc2_w X m_282 d_K_isFramed_4 ?_
  refine pv_lcmp X d_K_isFramed_7 ?_
  refine pv_if_ne X 24 d_K_isFramed_8 rfl (fun h1 => ?_) (fun h1n => ?_)
  · skip
    refine pv_iconst X 0 d_K_isFramed_24 (by decide) ?_
    exact pv_zret X hr hlk rfl () (by show _ = f_K_isFramed a b; unfold f_K_isFramed; rw [if_neg h1]) rfl d_K_isFramed_25
  · skip
    refine pv_lload_n X 1 d_K_isFramed_11 rfl ?_
    refine pv_bipush X 16 d_K_isFramed_12 (by decide) ?_
    refine pv_lshl X d_K_isFramed_14 ?_
    refine pv_lconst X 0 d_K_isFramed_15 (by decide) ?_
    refine pv_lcmp X d_K_isFramed_16 ?_
    refine pv_if_ne X 24 d_K_isFramed_17 rfl (fun h2 => ?_) (fun h2n => ?_)
    · skip
      refine pv_iconst X 0 d_K_isFramed_24 (by decide) ?_
      exact pv_zret X hr hlk rfl () (by show _ = f_K_isFramed a b; unfold f_K_isFramed; rw [if_pos h1n, if_neg h2]) rfl d_K_isFramed_25
    · skip
      refine pv_iconst X 1 d_K_isFramed_20 (by decide) ?_
      refine pv_goto X 25 d_K_isFramed_21 rfl ?_
      exact pv_zret X hr hlk rfl () (by show _ = f_K_isFramed a b; unfold f_K_isFramed; rw [if_pos h1n, if_pos h2n]) rfl d_K_isFramed_25
def f_B_isFormat (f : Int32) : Int32 := if f = 0 then 1 else (if f = 1 then 1 else (if f = 3 then 1 else 0))
theorem bo_B_isFormat (f : Int32) : Bo (f_B_isFormat f) := by
  unfold f_B_isFormat
  repeat (first | with_reducible exact bo_0 | with_reducible exact bo_1 | split)
abbrev rm_B_isFormat : Room := { frames := 0, cells := 0, slots := 0, locals := 0 }
theorem mf_B_isFormat : MF y_B_isFormat b_B_isFormat 1 (some .boolean) 1 := ⟨m_367, m_15, by decide, by decide, by decide +kernel⟩
theorem d_B_isFormat_0 : decode b_B_isFormat 0 = .ok (.iload_n 0, 1) := by decide +kernel
theorem d_B_isFormat_1 : decode b_B_isFormat 1 = .ok (.ifCond .eq 13, 3) := by decide +kernel
theorem d_B_isFormat_4 : decode b_B_isFormat 4 = .ok (.iload_n 0, 1) := by decide +kernel
theorem d_B_isFormat_5 : decode b_B_isFormat 5 = .ok (.iconst 1, 1) := by decide +kernel
theorem d_B_isFormat_6 : decode b_B_isFormat 6 = .ok (.if_icmp .eq 8, 3) := by decide +kernel
theorem d_B_isFormat_9 : decode b_B_isFormat 9 = .ok (.iload_n 0, 1) := by decide +kernel
theorem d_B_isFormat_10 : decode b_B_isFormat 10 = .ok (.iconst 3, 1) := by decide +kernel
theorem d_B_isFormat_11 : decode b_B_isFormat 11 = .ok (.if_icmp .ne 7, 3) := by decide +kernel
theorem d_B_isFormat_14 : decode b_B_isFormat 14 = .ok (.iconst 1, 1) := by decide +kernel
theorem d_B_isFormat_15 : decode b_B_isFormat 15 = .ok (.goto 4, 3) := by decide +kernel
theorem d_B_isFormat_18 : decode b_B_isFormat 18 = .ok (.iconst 0, 1) := by decide +kernel
theorem d_B_isFormat_19 : decode b_B_isFormat 19 = .ok (.ireturn, 1) := by decide +kernel
set_option maxRecDepth 100000 in
set_option maxHeartbeats 4000000 in
theorem c_B_isFormat (l : Launch) (G : Gt) (f : Int32) : CtI l G y_B_isFormat b_B_isFormat 1 (some .boolean) rm_B_isFormat E0 [.int f] [] (fun r (_ : Unit) => r = f_B_isFormat f) (fun _ => []) 0 0 := by
  refine Ct.of (Qp := fun A => va_Qi _ (qB G A _) A) Stb_0 (by decide) (Nat.le_of_ble_eq_true rfl) ?_
  intro p e s m args below meth c A X hE hr hlk hini
  refine pv_eql (ll2 := [(0, .int f)]) rfl ?_
  refine pv_iload_n X 0 d_B_isFormat_0 rfl ?_
  refine pv_if_eq X 14 d_B_isFormat_1 rfl (fun h1 => ?_) (fun h1n => ?_)
  · skip
    refine pv_iconst X 1 d_B_isFormat_14 (by decide) ?_
    refine pv_goto X 19 d_B_isFormat_15 rfl ?_
    exact pv_zret X hr hlk rfl () (by show _ = f_B_isFormat f; unfold f_B_isFormat; rw [if_pos h1]) rfl d_B_isFormat_19
  · skip
    refine pv_iload_n X 0 d_B_isFormat_4 rfl ?_
    refine pv_iconst X 1 d_B_isFormat_5 (by decide) ?_
    refine pv_icmp_eq X 14 d_B_isFormat_6 rfl (fun h2 => ?_) (fun h2n => ?_)
    · skip
      refine pv_iconst X 1 d_B_isFormat_14 (by decide) ?_
      refine pv_goto X 19 d_B_isFormat_15 rfl ?_
      exact pv_zret X hr hlk rfl () (by show _ = f_B_isFormat f; unfold f_B_isFormat; rw [if_neg h1n, if_pos h2]) rfl d_B_isFormat_19
    · skip
      refine pv_iload_n X 0 d_B_isFormat_9 rfl ?_
      refine pv_iconst X 3 d_B_isFormat_10 (by decide) ?_
      refine pv_icmp_ne X 18 d_B_isFormat_11 rfl (fun h3 => ?_) (fun h3n => ?_)
      · skip
        refine pv_iconst X 0 d_B_isFormat_18 (by decide) ?_
        exact pv_zret X hr hlk rfl () (by show _ = f_B_isFormat f; unfold f_B_isFormat; rw [if_neg h1n, if_neg h2n, if_neg h3]) rfl d_B_isFormat_19
      · skip
        refine pv_iconst X 1 d_B_isFormat_14 (by decide) ?_
        refine pv_goto X 19 d_B_isFormat_15 rfl ?_
        exact pv_zret X hr hlk rfl () (by show _ = f_B_isFormat f; unfold f_B_isFormat; rw [if_neg h1n, if_neg h2n, if_pos h3n]) rfl d_B_isFormat_19
def f_B_isLength (n : Int32) : Int32 := if n < 4 then 0 else (if 12 < n then 0 else 1)
theorem bo_B_isLength (n : Int32) : Bo (f_B_isLength n) := by
  unfold f_B_isLength
  repeat (first | with_reducible exact bo_0 | with_reducible exact bo_1 | split)
abbrev rm_B_isLength : Room := { frames := 0, cells := 0, slots := 0, locals := 0 }
theorem mf_B_isLength : MF y_B_isLength b_B_isLength 1 (some .boolean) 1 := ⟨m_370, m_15, by decide, by decide, by decide +kernel⟩
theorem d_B_isLength_0 : decode b_B_isLength 0 = .ok (.iload_n 0, 1) := by decide +kernel
theorem d_B_isLength_1 : decode b_B_isLength 1 = .ok (.iconst 4, 1) := by decide +kernel
theorem d_B_isLength_2 : decode b_B_isLength 2 = .ok (.if_icmp .lt 13, 3) := by decide +kernel
theorem d_B_isLength_5 : decode b_B_isLength 5 = .ok (.iload_n 0, 1) := by decide +kernel
theorem d_B_isLength_6 : decode b_B_isLength 6 = .ok (.bipush 12, 2) := by decide +kernel
theorem d_B_isLength_8 : decode b_B_isLength 8 = .ok (.if_icmp .gt 7, 3) := by decide +kernel
theorem d_B_isLength_11 : decode b_B_isLength 11 = .ok (.iconst 1, 1) := by decide +kernel
theorem d_B_isLength_12 : decode b_B_isLength 12 = .ok (.goto 4, 3) := by decide +kernel
theorem d_B_isLength_15 : decode b_B_isLength 15 = .ok (.iconst 0, 1) := by decide +kernel
theorem d_B_isLength_16 : decode b_B_isLength 16 = .ok (.ireturn, 1) := by decide +kernel
set_option maxRecDepth 100000 in
set_option maxHeartbeats 4000000 in
theorem c_B_isLength (l : Launch) (G : Gt) (n : Int32) : CtI l G y_B_isLength b_B_isLength 1 (some .boolean) rm_B_isLength E0 [.int n] [] (fun r (_ : Unit) => r = f_B_isLength n) (fun _ => []) 0 0 := by
  refine Ct.of (Qp := fun A => va_Qi _ (qB G A _) A) Stb_0 (by decide) (Nat.le_of_ble_eq_true rfl) ?_
  intro p e s m args below meth c A X hE hr hlk hini
  refine pv_eql (ll2 := [(0, .int n)]) rfl ?_
  refine pv_iload_n X 0 d_B_isLength_0 rfl ?_
  refine pv_iconst X 4 d_B_isLength_1 (by decide) ?_
  refine pv_icmp_lt X 15 d_B_isLength_2 rfl (fun h1 => ?_) (fun h1n => ?_)
  · skip
    refine pv_iconst X 0 d_B_isLength_15 (by decide) ?_
    exact pv_zret X hr hlk rfl () (by show _ = f_B_isLength n; unfold f_B_isLength; rw [if_pos h1]) rfl d_B_isLength_16
  · skip
    refine pv_iload_n X 0 d_B_isLength_5 rfl ?_
    refine pv_bipush X 12 d_B_isLength_6 (by decide) ?_
    refine pv_icmp_gt X 15 d_B_isLength_8 rfl (fun h2 => ?_) (fun h2n => ?_)
    · skip
      refine pv_iconst X 0 d_B_isLength_15 (by decide) ?_
      exact pv_zret X hr hlk rfl () (by show _ = f_B_isLength n; unfold f_B_isLength; rw [if_neg h1n, if_pos h2]) rfl d_B_isLength_16
    · skip
      refine pv_iconst X 1 d_B_isLength_11 (by decide) ?_
      refine pv_goto X 16 d_B_isLength_12 rfl ?_
      exact pv_zret X hr hlk rfl () (by show _ = f_B_isLength n; unfold f_B_isLength; rw [if_neg h1n, if_neg h2n]) rfl d_B_isLength_16
def f_B_fillCount (n : Int32) : Int32 := 14 - n
abbrev rm_B_fillCount : Room := { frames := 0, cells := 0, slots := 0, locals := 0 }
theorem mf_B_fillCount : MF y_B_fillCount b_B_fillCount 1 (some .int) 1 := ⟨m_378, m_15, by decide, by decide, by decide +kernel⟩
theorem d_B_fillCount_0 : decode b_B_fillCount 0 = .ok (.bipush 14, 2) := by decide +kernel
theorem d_B_fillCount_2 : decode b_B_fillCount 2 = .ok (.iload_n 0, 1) := by decide +kernel
theorem d_B_fillCount_3 : decode b_B_fillCount 3 = .ok (.isub, 1) := by decide +kernel
theorem d_B_fillCount_4 : decode b_B_fillCount 4 = .ok (.ireturn, 1) := by decide +kernel
set_option maxRecDepth 100000 in
set_option maxHeartbeats 4000000 in
theorem c_B_fillCount (l : Launch) (G : Gt) (n : Int32) : CtI l G y_B_fillCount b_B_fillCount 1 (some .int) rm_B_fillCount E0 [.int n] [] (fun r (_ : Unit) => r = f_B_fillCount n) (fun _ => []) 0 0 := by
  refine Ct.of (Qp := fun A => va_Qi _ (qB G A _) A) Stb_0 (by decide) (Nat.le_of_ble_eq_true rfl) ?_
  intro p e s m args below meth c A X hE hr hlk hini
  refine pv_eql (ll2 := [(0, .int n)]) rfl ?_
  refine pv_bipush X 14 d_B_fillCount_0 (by decide) ?_
  refine pv_iload_n X 0 d_B_fillCount_2 rfl ?_
  refine pv_isub X d_B_fillCount_3 ?_
  exact pv_iret X hr hlk () rfl rfl d_B_fillCount_4
def f_B_accountPart (f : Int32) (a : Int64) : Int64 := if f = 1 then (0 : Int64) else (((a.toUInt64 >>> ((4 : Int32).toInt64.toUInt64 &&& Int64.toUInt64 63)).toInt64) &&& (281474976710655 : Int64))
abbrev rm_B_accountPart : Room := { frames := 0, cells := 0, slots := 0, locals := 0 }
theorem mf_B_accountPart : MF y_B_accountPart b_B_accountPart 3 (some .long) 2 := ⟨m_397, m_15, by decide, by decide, by decide +kernel⟩
theorem d_B_accountPart_0 : decode b_B_accountPart 0 = .ok (.iload_n 0, 1) := by decide +kernel
theorem d_B_accountPart_1 : decode b_B_accountPart 1 = .ok (.iconst 1, 1) := by decide +kernel
theorem d_B_accountPart_2 : decode b_B_accountPart 2 = .ok (.if_icmp .ne 7, 3) := by decide +kernel
theorem d_B_accountPart_5 : decode b_B_accountPart 5 = .ok (.lconst 0, 1) := by decide +kernel
theorem d_B_accountPart_6 : decode b_B_accountPart 6 = .ok (.goto 10, 3) := by decide +kernel
theorem d_B_accountPart_9 : decode b_B_accountPart 9 = .ok (.lload_n 1, 1) := by decide +kernel
theorem d_B_accountPart_10 : decode b_B_accountPart 10 = .ok (.iconst 4, 1) := by decide +kernel
theorem d_B_accountPart_11 : decode b_B_accountPart 11 = .ok (.lushr, 1) := by decide +kernel
theorem d_B_accountPart_12 : decode b_B_accountPart 12 = .ok (.ldc2_w 23, 3) := by decide +kernel
theorem d_B_accountPart_15 : decode b_B_accountPart 15 = .ok (.land, 1) := by decide +kernel
theorem d_B_accountPart_16 : decode b_B_accountPart 16 = .ok (.lreturn, 1) := by decide +kernel
set_option maxRecDepth 100000 in
set_option maxHeartbeats 4000000 in
theorem c_B_accountPart (l : Launch) (G : Gt) (f : Int32) (a : Int64) : CtL l G y_B_accountPart b_B_accountPart 3 (some .long) rm_B_accountPart E0 [.int f, .long a] [] (fun r (_ : Unit) => r = f_B_accountPart f a) (fun _ => []) 0 0 := by
  refine Ct.of (Qp := fun A => va_Ql _ (qB G A _) A) Stb_0 (by decide) (Nat.le_of_ble_eq_true rfl) ?_
  intro p e s m args below meth c A X hE hr hlk hini
  refine pv_eql (ll2 := [(0, .int f), (1, .long a)]) rfl ?_
  refine pv_iload_n X 0 d_B_accountPart_0 rfl ?_
  refine pv_iconst X 1 d_B_accountPart_1 (by decide) ?_
  refine pv_icmp_ne X 9 d_B_accountPart_2 rfl (fun h1 => ?_) (fun h1n => ?_)
  · skip
    refine pv_lload_n X 1 d_B_accountPart_9 rfl ?_
    refine pv_iconst X 4 d_B_accountPart_10 (by decide) ?_
    refine pv_lushr X d_B_accountPart_11 ?_
    refine pv_ldc2_w X m_398 d_B_accountPart_12 ?_
    refine pv_land X d_B_accountPart_15 ?_
    exact pv_lret X hr hlk () (by show _ = f_B_accountPart f a; unfold f_B_accountPart; rw [if_neg h1]) rfl d_B_accountPart_16
  · skip
    refine pv_lconst X 0 d_B_accountPart_5 (by decide) ?_
    refine pv_goto X 16 d_B_accountPart_6 rfl ?_
    exact pv_lret X hr hlk () (by show _ = f_B_accountPart f a; unfold f_B_accountPart; rw [if_pos h1n]) rfl d_B_accountPart_16
def f_B_made (f : Int32) (a : Int64) (n : Int32) (d : Int64) (z : Int64) : Int64 := if f = 0 then (((((f.toInt64 <<< ((60 : Int32).toInt64 &&& 63)) ||| (n.toInt64 <<< ((56 : Int32).toInt64 &&& 63))) ||| (d <<< ((4 * (f_B_fillCount n)).toInt64 &&& 63))) ||| ((-1 : Int64) &&& (((1 : Int64) <<< ((4 * (f_B_fillCount n)).toInt64 &&& 63)) - (1 : Int64)))) ^^^ (f_B_accountPart f a)) else (((((f.toInt64 <<< ((60 : Int32).toInt64 &&& 63)) ||| (n.toInt64 <<< ((56 : Int32).toInt64 &&& 63))) ||| (d <<< ((4 * (f_B_fillCount n)).toInt64 &&& 63))) ||| (z &&& (((1 : Int64) <<< ((4 * (f_B_fillCount n)).toInt64 &&& 63)) - (1 : Int64)))) ^^^ (f_B_accountPart f a))
abbrev rm_B_made : Room := { frames := 1, cells := 0, slots := 0, locals := 22 }
theorem mf_B_made : MF y_B_made b_B_made 13 (some .long) 5 := ⟨m_392, m_15, by decide, by decide, by decide +kernel⟩
theorem d_B_made_0 : decode b_B_made 0 = .ok (.iconst 4, 1) := by decide +kernel
theorem d_B_made_1 : decode b_B_made 1 = .ok (.iload_n 3, 1) := by decide +kernel
theorem d_B_made_2 : decode b_B_made 2 = .ok (.invokestatic 13, 3) := by decide +kernel
theorem d_B_made_5 : decode b_B_made 5 = .ok (.imul, 1) := by decide +kernel
theorem d_B_made_6 : decode b_B_made 6 = .ok (.istore 8, 2) := by decide +kernel
theorem d_B_made_8 : decode b_B_made 8 = .ok (.iload_n 0, 1) := by decide +kernel
theorem d_B_made_9 : decode b_B_made 9 = .ok (.ifCond .ne 9, 3) := by decide +kernel
theorem d_B_made_12 : decode b_B_made 12 = .ok (.ldc2_w 17, 3) := by decide +kernel
theorem d_B_made_15 : decode b_B_made 15 = .ok (.goto 5, 3) := by decide +kernel
theorem d_B_made_18 : decode b_B_made 18 = .ok (.lload 6, 2) := by decide +kernel
theorem d_B_made_20 : decode b_B_made 20 = .ok (.lconst 1, 1) := by decide +kernel
theorem d_B_made_21 : decode b_B_made 21 = .ok (.iload 8, 2) := by decide +kernel
theorem d_B_made_23 : decode b_B_made 23 = .ok (.lshl, 1) := by decide +kernel
theorem d_B_made_24 : decode b_B_made 24 = .ok (.lconst 1, 1) := by decide +kernel
theorem d_B_made_25 : decode b_B_made 25 = .ok (.lsub, 1) := by decide +kernel
theorem d_B_made_26 : decode b_B_made 26 = .ok (.land, 1) := by decide +kernel
theorem d_B_made_27 : decode b_B_made 27 = .ok (.lstore 9, 2) := by decide +kernel
theorem d_B_made_29 : decode b_B_made 29 = .ok (.iload_n 0, 1) := by decide +kernel
theorem d_B_made_30 : decode b_B_made 30 = .ok (.i2l, 1) := by decide +kernel
theorem d_B_made_31 : decode b_B_made 31 = .ok (.bipush 60, 2) := by decide +kernel
theorem d_B_made_33 : decode b_B_made 33 = .ok (.lshl, 1) := by decide +kernel
theorem d_B_made_34 : decode b_B_made 34 = .ok (.iload_n 3, 1) := by decide +kernel
theorem d_B_made_35 : decode b_B_made 35 = .ok (.i2l, 1) := by decide +kernel
theorem d_B_made_36 : decode b_B_made 36 = .ok (.bipush 56, 2) := by decide +kernel
theorem d_B_made_38 : decode b_B_made 38 = .ok (.lshl, 1) := by decide +kernel
theorem d_B_made_39 : decode b_B_made 39 = .ok (.lor, 1) := by decide +kernel
theorem d_B_made_40 : decode b_B_made 40 = .ok (.lload 4, 2) := by decide +kernel
theorem d_B_made_42 : decode b_B_made 42 = .ok (.iload 8, 2) := by decide +kernel
theorem d_B_made_44 : decode b_B_made 44 = .ok (.lshl, 1) := by decide +kernel
theorem d_B_made_45 : decode b_B_made 45 = .ok (.lor, 1) := by decide +kernel
theorem d_B_made_46 : decode b_B_made 46 = .ok (.lload 9, 2) := by decide +kernel
theorem d_B_made_48 : decode b_B_made 48 = .ok (.lor, 1) := by decide +kernel
theorem d_B_made_49 : decode b_B_made 49 = .ok (.lstore 11, 2) := by decide +kernel
theorem d_B_made_51 : decode b_B_made 51 = .ok (.lload 11, 2) := by decide +kernel
theorem d_B_made_53 : decode b_B_made 53 = .ok (.iload_n 0, 1) := by decide +kernel
theorem d_B_made_54 : decode b_B_made 54 = .ok (.lload_n 1, 1) := by decide +kernel
theorem d_B_made_55 : decode b_B_made 55 = .ok (.invokestatic 19, 3) := by decide +kernel
theorem d_B_made_58 : decode b_B_made 58 = .ok (.lxor, 1) := by decide +kernel
theorem d_B_made_59 : decode b_B_made 59 = .ok (.lreturn, 1) := by decide +kernel
set_option maxRecDepth 100000 in
set_option maxHeartbeats 4000000 in
theorem c_B_made (l : Launch) (G : Gt) (f : Int32) (a : Int64) (n : Int32) (d : Int64) (z : Int64) : CtL l G y_B_made b_B_made 13 (some .long) rm_B_made E0 [.int f, .long a, .int n, .long d, .long z] [] (fun r (_ : Unit) => r = f_B_made f a n d z) (fun _ => []) 0 0 := by
  refine Ct.of (Qp := fun A => va_Ql _ (qB G A _) A) Stb_0 (by decide) (Nat.le_of_ble_eq_true rfl) ?_
  intro p e s m args below meth c A X hE hr hlk hini
  refine pv_eql (ll2 := [(0, .int f), (1, .long a), (3, .int n), (4, .long d), (6, .long z)]) rfl ?_
  refine pv_iconst X 4 d_B_made_0 (by decide) ?_
  refine pv_iload_n X 2 d_B_made_1 rfl ?_
  refine pv_calli0 X (rn_S X (c_B_fillCount l G n) trivial mf_B_fillCount m_393 m_377 rfl (by decide) (by decide) rfl (Nat.le_of_ble_eq_true rfl) d_B_made_2) ?_
  refine pv_imul X d_B_made_5 ?_
  refine pv_istore (ll2 := [(8, .int (4 * (f_B_fillCount n))), (0, .int f), (1, .long a), (3, .int n), (4, .long d), (6, .long z)]) X d_B_made_6 (by decide) rfl ?_
  refine pv_iload_n X 1 d_B_made_8 rfl ?_
  refine pv_if_ne X 18 d_B_made_9 rfl (fun h2 => ?_) (fun h2n => ?_)
  · skip
    refine pv_lload X 5 d_B_made_18 rfl ?_
    refine pv_lconst X 1 d_B_made_20 (by decide) ?_
    refine pv_iload X 0 d_B_made_21 rfl ?_
    refine pv_lshl X d_B_made_23 ?_
    refine pv_lconst X 1 d_B_made_24 (by decide) ?_
    refine pv_lsub X d_B_made_25 ?_
    refine pv_land X d_B_made_26 ?_
    refine pv_lstore (ll2 := [(9, .long (z &&& (((1 : Int64) <<< ((4 * (f_B_fillCount n)).toInt64 &&& 63)) - (1 : Int64)))), (8, .int (4 * (f_B_fillCount n))), (0, .int f), (1, .long a), (3, .int n), (4, .long d), (6, .long z)]) X d_B_made_27 (by decide) rfl ?_
    refine pv_iload_n X 2 d_B_made_29 rfl ?_
    refine pv_i2l X d_B_made_30 ?_
    refine pv_bipush X 60 d_B_made_31 (by decide) ?_
    refine pv_lshl X d_B_made_33 ?_
    refine pv_iload_n X 4 d_B_made_34 rfl ?_
    refine pv_i2l X d_B_made_35 ?_
    refine pv_bipush X 56 d_B_made_36 (by decide) ?_
    refine pv_lshl X d_B_made_38 ?_
    refine pv_lor X d_B_made_39 ?_
    refine pv_lload X 5 d_B_made_40 rfl ?_
    refine pv_iload X 1 d_B_made_42 rfl ?_
    refine pv_lshl X d_B_made_44 ?_
    refine pv_lor X d_B_made_45 ?_
    refine pv_lload X 0 d_B_made_46 rfl ?_
    refine pv_lor X d_B_made_48 ?_
    refine pv_lstore (ll2 := [(11, .long ((((f.toInt64 <<< ((60 : Int32).toInt64 &&& 63)) ||| (n.toInt64 <<< ((56 : Int32).toInt64 &&& 63))) ||| (d <<< ((4 * (f_B_fillCount n)).toInt64 &&& 63))) ||| (z &&& (((1 : Int64) <<< ((4 * (f_B_fillCount n)).toInt64 &&& 63)) - (1 : Int64))))), (9, .long (z &&& (((1 : Int64) <<< ((4 * (f_B_fillCount n)).toInt64 &&& 63)) - (1 : Int64)))), (8, .int (4 * (f_B_fillCount n))), (0, .int f), (1, .long a), (3, .int n), (4, .long d), (6, .long z)]) X d_B_made_49 (by decide) rfl ?_
    refine pv_lload X 0 d_B_made_51 rfl ?_
    refine pv_iload_n X 3 d_B_made_53 rfl ?_
    refine pv_lload_n X 4 d_B_made_54 rfl ?_
    refine pv_calll0 X (rn_S X (c_B_accountPart l G f a) trivial mf_B_accountPart m_395 m_396 rfl (by decide) (by decide) rfl (Nat.le_of_ble_eq_true rfl) d_B_made_55) ?_
    refine pv_lxor X d_B_made_58 ?_
    exact pv_lret X hr hlk () (by show _ = f_B_made f a n d z; unfold f_B_made; rw [if_neg h2]) rfl d_B_made_59
  · skip
    refine pv_ldc2_w X m_394 d_B_made_12 ?_
    refine pv_goto X 20 d_B_made_15 rfl ?_
    refine pv_lconst X 1 d_B_made_20 (by decide) ?_
    refine pv_iload X 0 d_B_made_21 rfl ?_
    refine pv_lshl X d_B_made_23 ?_
    refine pv_lconst X 1 d_B_made_24 (by decide) ?_
    refine pv_lsub X d_B_made_25 ?_
    refine pv_land X d_B_made_26 ?_
    refine pv_lstore (ll2 := [(9, .long ((-1 : Int64) &&& (((1 : Int64) <<< ((4 * (f_B_fillCount n)).toInt64 &&& 63)) - (1 : Int64)))), (8, .int (4 * (f_B_fillCount n))), (0, .int f), (1, .long a), (3, .int n), (4, .long d), (6, .long z)]) X d_B_made_27 (by decide) rfl ?_
    refine pv_iload_n X 2 d_B_made_29 rfl ?_
    refine pv_i2l X d_B_made_30 ?_
    refine pv_bipush X 60 d_B_made_31 (by decide) ?_
    refine pv_lshl X d_B_made_33 ?_
    refine pv_iload_n X 4 d_B_made_34 rfl ?_
    refine pv_i2l X d_B_made_35 ?_
    refine pv_bipush X 56 d_B_made_36 (by decide) ?_
    refine pv_lshl X d_B_made_38 ?_
    refine pv_lor X d_B_made_39 ?_
    refine pv_lload X 5 d_B_made_40 rfl ?_
    refine pv_iload X 1 d_B_made_42 rfl ?_
    refine pv_lshl X d_B_made_44 ?_
    refine pv_lor X d_B_made_45 ?_
    refine pv_lload X 0 d_B_made_46 rfl ?_
    refine pv_lor X d_B_made_48 ?_
    refine pv_lstore (ll2 := [(11, .long ((((f.toInt64 <<< ((60 : Int32).toInt64 &&& 63)) ||| (n.toInt64 <<< ((56 : Int32).toInt64 &&& 63))) ||| (d <<< ((4 * (f_B_fillCount n)).toInt64 &&& 63))) ||| ((-1 : Int64) &&& (((1 : Int64) <<< ((4 * (f_B_fillCount n)).toInt64 &&& 63)) - (1 : Int64))))), (9, .long ((-1 : Int64) &&& (((1 : Int64) <<< ((4 * (f_B_fillCount n)).toInt64 &&& 63)) - (1 : Int64)))), (8, .int (4 * (f_B_fillCount n))), (0, .int f), (1, .long a), (3, .int n), (4, .long d), (6, .long z)]) X d_B_made_49 (by decide) rfl ?_
    refine pv_lload X 0 d_B_made_51 rfl ?_
    refine pv_iload_n X 3 d_B_made_53 rfl ?_
    refine pv_lload_n X 4 d_B_made_54 rfl ?_
    refine pv_calll0 X (rn_S X (c_B_accountPart l G f a) trivial mf_B_accountPart m_395 m_396 rfl (by decide) (by decide) rfl (Nat.le_of_ble_eq_true rfl) d_B_made_55) ?_
    refine pv_lxor X d_B_made_58 ?_
    exact pv_lret X hr hlk () (by show _ = f_B_made f a n d z; unfold f_B_made; rw [if_pos h2n]) rfl d_B_made_59
def f_B_lengthOf (v : Int64) : Int32 := (((v.toUInt64 >>> ((56 : Int32).toInt64.toUInt64 &&& Int64.toUInt64 63)).toInt64) &&& (15 : Int64)).toInt32
abbrev rm_B_lengthOf : Room := { frames := 0, cells := 0, slots := 0, locals := 0 }
theorem mf_B_lengthOf : MF y_B_lengthOf b_B_lengthOf 2 (some .int) 1 := ⟨m_413, m_15, by decide, by decide, by decide +kernel⟩
theorem d_B_lengthOf_0 : decode b_B_lengthOf 0 = .ok (.lload_n 0, 1) := by decide +kernel
theorem d_B_lengthOf_1 : decode b_B_lengthOf 1 = .ok (.bipush 56, 2) := by decide +kernel
theorem d_B_lengthOf_3 : decode b_B_lengthOf 3 = .ok (.lushr, 1) := by decide +kernel
theorem d_B_lengthOf_4 : decode b_B_lengthOf 4 = .ok (.ldc2_w 43, 3) := by decide +kernel
theorem d_B_lengthOf_7 : decode b_B_lengthOf 7 = .ok (.land, 1) := by decide +kernel
theorem d_B_lengthOf_8 : decode b_B_lengthOf 8 = .ok (.l2i, 1) := by decide +kernel
theorem d_B_lengthOf_9 : decode b_B_lengthOf 9 = .ok (.ireturn, 1) := by decide +kernel
set_option maxRecDepth 100000 in
set_option maxHeartbeats 4000000 in
theorem c_B_lengthOf (l : Launch) (G : Gt) (v : Int64) : CtI l G y_B_lengthOf b_B_lengthOf 2 (some .int) rm_B_lengthOf E0 [.long v] [] (fun r (_ : Unit) => r = f_B_lengthOf v) (fun _ => []) 0 0 := by
  refine Ct.of (Qp := fun A => va_Qi _ (qB G A _) A) Stb_0 (by decide) (Nat.le_of_ble_eq_true rfl) ?_
  intro p e s m args below meth c A X hE hr hlk hini
  refine pv_eql (ll2 := [(0, .long v)]) rfl ?_
  refine pv_lload_n X 0 d_B_lengthOf_0 rfl ?_
  refine pv_bipush X 56 d_B_lengthOf_1 (by decide) ?_
  refine pv_lushr X d_B_lengthOf_3 ?_
  refine pv_ldc2_w X m_385 d_B_lengthOf_4 ?_
  refine pv_land X d_B_lengthOf_7 ?_
  refine pv_l2i X d_B_lengthOf_8 ?_
  exact pv_iret X hr hlk () rfl rfl d_B_lengthOf_9
def f_B_digitsOf (v : Int64) (n : Int32) : Int64 := ((v <<< ((8 : Int32).toInt64 &&& 63)).toUInt64 >>> ((64 - (4 * n)).toInt64.toUInt64 &&& Int64.toUInt64 63)).toInt64
abbrev rm_B_digitsOf : Room := { frames := 0, cells := 0, slots := 0, locals := 0 }
theorem mf_B_digitsOf : MF y_B_digitsOf b_B_digitsOf 3 (some .long) 2 := ⟨m_417, m_15, by decide, by decide, by decide +kernel⟩
theorem d_B_digitsOf_0 : decode b_B_digitsOf 0 = .ok (.lload_n 0, 1) := by decide +kernel
theorem d_B_digitsOf_1 : decode b_B_digitsOf 1 = .ok (.bipush 8, 2) := by decide +kernel
theorem d_B_digitsOf_3 : decode b_B_digitsOf 3 = .ok (.lshl, 1) := by decide +kernel
theorem d_B_digitsOf_4 : decode b_B_digitsOf 4 = .ok (.bipush 64, 2) := by decide +kernel
theorem d_B_digitsOf_6 : decode b_B_digitsOf 6 = .ok (.iconst 4, 1) := by decide +kernel
theorem d_B_digitsOf_7 : decode b_B_digitsOf 7 = .ok (.iload_n 2, 1) := by decide +kernel
theorem d_B_digitsOf_8 : decode b_B_digitsOf 8 = .ok (.imul, 1) := by decide +kernel
theorem d_B_digitsOf_9 : decode b_B_digitsOf 9 = .ok (.isub, 1) := by decide +kernel
theorem d_B_digitsOf_10 : decode b_B_digitsOf 10 = .ok (.lushr, 1) := by decide +kernel
theorem d_B_digitsOf_11 : decode b_B_digitsOf 11 = .ok (.lreturn, 1) := by decide +kernel
set_option maxRecDepth 100000 in
set_option maxHeartbeats 4000000 in
theorem c_B_digitsOf (l : Launch) (G : Gt) (v : Int64) (n : Int32) : CtL l G y_B_digitsOf b_B_digitsOf 3 (some .long) rm_B_digitsOf E0 [.long v, .int n] [] (fun r (_ : Unit) => r = f_B_digitsOf v n) (fun _ => []) 0 0 := by
  refine Ct.of (Qp := fun A => va_Ql _ (qB G A _) A) Stb_0 (by decide) (Nat.le_of_ble_eq_true rfl) ?_
  intro p e s m args below meth c A X hE hr hlk hini
  refine pv_eql (ll2 := [(0, .long v), (2, .int n)]) rfl ?_
  refine pv_lload_n X 0 d_B_digitsOf_0 rfl ?_
  refine pv_bipush X 8 d_B_digitsOf_1 (by decide) ?_
  refine pv_lshl X d_B_digitsOf_3 ?_
  refine pv_bipush X 64 d_B_digitsOf_4 (by decide) ?_
  refine pv_iconst X 4 d_B_digitsOf_6 (by decide) ?_
  refine pv_iload_n X 1 d_B_digitsOf_7 rfl ?_
  refine pv_imul X d_B_digitsOf_8 ?_
  refine pv_isub X d_B_digitsOf_9 ?_
  refine pv_lushr X d_B_digitsOf_10 ?_
  exact pv_lret X hr hlk () rfl rfl d_B_digitsOf_11
def f_P_isKeyNumber (k : Int32) : Int32 := if k < 0 then 0 else (if 24 ≤ k then 0 else 1)
theorem bo_P_isKeyNumber (k : Int32) : Bo (f_P_isKeyNumber k) := by
  unfold f_P_isKeyNumber
  repeat (first | with_reducible exact bo_0 | with_reducible exact bo_1 | split)
abbrev rm_P_isKeyNumber : Room := { frames := 0, cells := 0, slots := 0, locals := 0 }
theorem mf_P_isKeyNumber : MF y_P_isKeyNumber b_P_isKeyNumber 1 (some .boolean) 1 := ⟨m_342, m_1, by decide, by decide, by decide +kernel⟩
theorem d_P_isKeyNumber_0 : decode b_P_isKeyNumber 0 = .ok (.iload_n 0, 1) := by decide +kernel
theorem d_P_isKeyNumber_1 : decode b_P_isKeyNumber 1 = .ok (.ifCond .lt 13, 3) := by decide +kernel
theorem d_P_isKeyNumber_4 : decode b_P_isKeyNumber 4 = .ok (.iload_n 0, 1) := by decide +kernel
theorem d_P_isKeyNumber_5 : decode b_P_isKeyNumber 5 = .ok (.bipush 24, 2) := by decide +kernel
theorem d_P_isKeyNumber_7 : decode b_P_isKeyNumber 7 = .ok (.if_icmp .ge 7, 3) := by decide +kernel
theorem d_P_isKeyNumber_10 : decode b_P_isKeyNumber 10 = .ok (.iconst 1, 1) := by decide +kernel
theorem d_P_isKeyNumber_11 : decode b_P_isKeyNumber 11 = .ok (.goto 4, 3) := by decide +kernel
theorem d_P_isKeyNumber_14 : decode b_P_isKeyNumber 14 = .ok (.iconst 0, 1) := by decide +kernel
theorem d_P_isKeyNumber_15 : decode b_P_isKeyNumber 15 = .ok (.ireturn, 1) := by decide +kernel
set_option maxRecDepth 100000 in
set_option maxHeartbeats 4000000 in
theorem c_P_isKeyNumber (l : Launch) (G : Gt) (k : Int32) : CtI l G y_P_isKeyNumber b_P_isKeyNumber 1 (some .boolean) rm_P_isKeyNumber E0 [.int k] [] (fun r (_ : Unit) => r = f_P_isKeyNumber k) (fun _ => []) 0 0 := by
  refine Ct.of (Qp := fun A => va_Qi _ (qB G A _) A) Stb_0 (by decide) (Nat.le_of_ble_eq_true rfl) ?_
  intro p e s m args below meth c A X hE hr hlk hini
  refine pv_eql (ll2 := [(0, .int k)]) rfl ?_
  refine pv_iload_n X 0 d_P_isKeyNumber_0 rfl ?_
  refine pv_if_lt X 14 d_P_isKeyNumber_1 rfl (fun h1 => ?_) (fun h1n => ?_)
  · skip
    refine pv_iconst X 0 d_P_isKeyNumber_14 (by decide) ?_
    exact pv_zret X hr hlk rfl () (by show _ = f_P_isKeyNumber k; unfold f_P_isKeyNumber; rw [if_pos h1]) rfl d_P_isKeyNumber_15
  · skip
    refine pv_iload_n X 0 d_P_isKeyNumber_4 rfl ?_
    refine pv_bipush X 24 d_P_isKeyNumber_5 (by decide) ?_
    refine pv_icmp_ge X 14 d_P_isKeyNumber_7 rfl (fun h2 => ?_) (fun h2n => ?_)
    · skip
      refine pv_iconst X 0 d_P_isKeyNumber_14 (by decide) ?_
      exact pv_zret X hr hlk rfl () (by show _ = f_P_isKeyNumber k; unfold f_P_isKeyNumber; rw [if_neg h1n, if_pos h2]) rfl d_P_isKeyNumber_15
    · skip
      refine pv_iconst X 1 d_P_isKeyNumber_10 (by decide) ?_
      refine pv_goto X 15 d_P_isKeyNumber_11 rfl ?_
      exact pv_zret X hr hlk rfl () (by show _ = f_P_isKeyNumber k; unfold f_P_isKeyNumber; rw [if_neg h1n, if_neg h2n]) rfl d_P_isKeyNumber_15
def f_JL_bitCount (x : Int64) : Int32 := (((((((((x - (((x.toUInt64 >>> ((1 : Int32).toInt64.toUInt64 &&& Int64.toUInt64 63)).toInt64) &&& (6148914691236517205 : Int64))) &&& (3689348814741910323 : Int64)) + ((((x - (((x.toUInt64 >>> ((1 : Int32).toInt64.toUInt64 &&& Int64.toUInt64 63)).toInt64) &&& (6148914691236517205 : Int64))).toUInt64 >>> ((2 : Int32).toInt64.toUInt64 &&& Int64.toUInt64 63)).toInt64) &&& (3689348814741910323 : Int64))) + (((((x - (((x.toUInt64 >>> ((1 : Int32).toInt64.toUInt64 &&& Int64.toUInt64 63)).toInt64) &&& (6148914691236517205 : Int64))) &&& (3689348814741910323 : Int64)) + ((((x - (((x.toUInt64 >>> ((1 : Int32).toInt64.toUInt64 &&& Int64.toUInt64 63)).toInt64) &&& (6148914691236517205 : Int64))).toUInt64 >>> ((2 : Int32).toInt64.toUInt64 &&& Int64.toUInt64 63)).toInt64) &&& (3689348814741910323 : Int64))).toUInt64 >>> ((4 : Int32).toInt64.toUInt64 &&& Int64.toUInt64 63)).toInt64)) &&& (1085102592571150095 : Int64)) + (((((((x - (((x.toUInt64 >>> ((1 : Int32).toInt64.toUInt64 &&& Int64.toUInt64 63)).toInt64) &&& (6148914691236517205 : Int64))) &&& (3689348814741910323 : Int64)) + ((((x - (((x.toUInt64 >>> ((1 : Int32).toInt64.toUInt64 &&& Int64.toUInt64 63)).toInt64) &&& (6148914691236517205 : Int64))).toUInt64 >>> ((2 : Int32).toInt64.toUInt64 &&& Int64.toUInt64 63)).toInt64) &&& (3689348814741910323 : Int64))) + (((((x - (((x.toUInt64 >>> ((1 : Int32).toInt64.toUInt64 &&& Int64.toUInt64 63)).toInt64) &&& (6148914691236517205 : Int64))) &&& (3689348814741910323 : Int64)) + ((((x - (((x.toUInt64 >>> ((1 : Int32).toInt64.toUInt64 &&& Int64.toUInt64 63)).toInt64) &&& (6148914691236517205 : Int64))).toUInt64 >>> ((2 : Int32).toInt64.toUInt64 &&& Int64.toUInt64 63)).toInt64) &&& (3689348814741910323 : Int64))).toUInt64 >>> ((4 : Int32).toInt64.toUInt64 &&& Int64.toUInt64 63)).toInt64)) &&& (1085102592571150095 : Int64)).toUInt64 >>> ((8 : Int32).toInt64.toUInt64 &&& Int64.toUInt64 63)).toInt64)) + ((((((((x - (((x.toUInt64 >>> ((1 : Int32).toInt64.toUInt64 &&& Int64.toUInt64 63)).toInt64) &&& (6148914691236517205 : Int64))) &&& (3689348814741910323 : Int64)) + ((((x - (((x.toUInt64 >>> ((1 : Int32).toInt64.toUInt64 &&& Int64.toUInt64 63)).toInt64) &&& (6148914691236517205 : Int64))).toUInt64 >>> ((2 : Int32).toInt64.toUInt64 &&& Int64.toUInt64 63)).toInt64) &&& (3689348814741910323 : Int64))) + (((((x - (((x.toUInt64 >>> ((1 : Int32).toInt64.toUInt64 &&& Int64.toUInt64 63)).toInt64) &&& (6148914691236517205 : Int64))) &&& (3689348814741910323 : Int64)) + ((((x - (((x.toUInt64 >>> ((1 : Int32).toInt64.toUInt64 &&& Int64.toUInt64 63)).toInt64) &&& (6148914691236517205 : Int64))).toUInt64 >>> ((2 : Int32).toInt64.toUInt64 &&& Int64.toUInt64 63)).toInt64) &&& (3689348814741910323 : Int64))).toUInt64 >>> ((4 : Int32).toInt64.toUInt64 &&& Int64.toUInt64 63)).toInt64)) &&& (1085102592571150095 : Int64)) + (((((((x - (((x.toUInt64 >>> ((1 : Int32).toInt64.toUInt64 &&& Int64.toUInt64 63)).toInt64) &&& (6148914691236517205 : Int64))) &&& (3689348814741910323 : Int64)) + ((((x - (((x.toUInt64 >>> ((1 : Int32).toInt64.toUInt64 &&& Int64.toUInt64 63)).toInt64) &&& (6148914691236517205 : Int64))).toUInt64 >>> ((2 : Int32).toInt64.toUInt64 &&& Int64.toUInt64 63)).toInt64) &&& (3689348814741910323 : Int64))) + (((((x - (((x.toUInt64 >>> ((1 : Int32).toInt64.toUInt64 &&& Int64.toUInt64 63)).toInt64) &&& (6148914691236517205 : Int64))) &&& (3689348814741910323 : Int64)) + ((((x - (((x.toUInt64 >>> ((1 : Int32).toInt64.toUInt64 &&& Int64.toUInt64 63)).toInt64) &&& (6148914691236517205 : Int64))).toUInt64 >>> ((2 : Int32).toInt64.toUInt64 &&& Int64.toUInt64 63)).toInt64) &&& (3689348814741910323 : Int64))).toUInt64 >>> ((4 : Int32).toInt64.toUInt64 &&& Int64.toUInt64 63)).toInt64)) &&& (1085102592571150095 : Int64)).toUInt64 >>> ((8 : Int32).toInt64.toUInt64 &&& Int64.toUInt64 63)).toInt64)).toUInt64 >>> ((16 : Int32).toInt64.toUInt64 &&& Int64.toUInt64 63)).toInt64)) + (((((((((x - (((x.toUInt64 >>> ((1 : Int32).toInt64.toUInt64 &&& Int64.toUInt64 63)).toInt64) &&& (6148914691236517205 : Int64))) &&& (3689348814741910323 : Int64)) + ((((x - (((x.toUInt64 >>> ((1 : Int32).toInt64.toUInt64 &&& Int64.toUInt64 63)).toInt64) &&& (6148914691236517205 : Int64))).toUInt64 >>> ((2 : Int32).toInt64.toUInt64 &&& Int64.toUInt64 63)).toInt64) &&& (3689348814741910323 : Int64))) + (((((x - (((x.toUInt64 >>> ((1 : Int32).toInt64.toUInt64 &&& Int64.toUInt64 63)).toInt64) &&& (6148914691236517205 : Int64))) &&& (3689348814741910323 : Int64)) + ((((x - (((x.toUInt64 >>> ((1 : Int32).toInt64.toUInt64 &&& Int64.toUInt64 63)).toInt64) &&& (6148914691236517205 : Int64))).toUInt64 >>> ((2 : Int32).toInt64.toUInt64 &&& Int64.toUInt64 63)).toInt64) &&& (3689348814741910323 : Int64))).toUInt64 >>> ((4 : Int32).toInt64.toUInt64 &&& Int64.toUInt64 63)).toInt64)) &&& (1085102592571150095 : Int64)) + (((((((x - (((x.toUInt64 >>> ((1 : Int32).toInt64.toUInt64 &&& Int64.toUInt64 63)).toInt64) &&& (6148914691236517205 : Int64))) &&& (3689348814741910323 : Int64)) + ((((x - (((x.toUInt64 >>> ((1 : Int32).toInt64.toUInt64 &&& Int64.toUInt64 63)).toInt64) &&& (6148914691236517205 : Int64))).toUInt64 >>> ((2 : Int32).toInt64.toUInt64 &&& Int64.toUInt64 63)).toInt64) &&& (3689348814741910323 : Int64))) + (((((x - (((x.toUInt64 >>> ((1 : Int32).toInt64.toUInt64 &&& Int64.toUInt64 63)).toInt64) &&& (6148914691236517205 : Int64))) &&& (3689348814741910323 : Int64)) + ((((x - (((x.toUInt64 >>> ((1 : Int32).toInt64.toUInt64 &&& Int64.toUInt64 63)).toInt64) &&& (6148914691236517205 : Int64))).toUInt64 >>> ((2 : Int32).toInt64.toUInt64 &&& Int64.toUInt64 63)).toInt64) &&& (3689348814741910323 : Int64))).toUInt64 >>> ((4 : Int32).toInt64.toUInt64 &&& Int64.toUInt64 63)).toInt64)) &&& (1085102592571150095 : Int64)).toUInt64 >>> ((8 : Int32).toInt64.toUInt64 &&& Int64.toUInt64 63)).toInt64)) + ((((((((x - (((x.toUInt64 >>> ((1 : Int32).toInt64.toUInt64 &&& Int64.toUInt64 63)).toInt64) &&& (6148914691236517205 : Int64))) &&& (3689348814741910323 : Int64)) + ((((x - (((x.toUInt64 >>> ((1 : Int32).toInt64.toUInt64 &&& Int64.toUInt64 63)).toInt64) &&& (6148914691236517205 : Int64))).toUInt64 >>> ((2 : Int32).toInt64.toUInt64 &&& Int64.toUInt64 63)).toInt64) &&& (3689348814741910323 : Int64))) + (((((x - (((x.toUInt64 >>> ((1 : Int32).toInt64.toUInt64 &&& Int64.toUInt64 63)).toInt64) &&& (6148914691236517205 : Int64))) &&& (3689348814741910323 : Int64)) + ((((x - (((x.toUInt64 >>> ((1 : Int32).toInt64.toUInt64 &&& Int64.toUInt64 63)).toInt64) &&& (6148914691236517205 : Int64))).toUInt64 >>> ((2 : Int32).toInt64.toUInt64 &&& Int64.toUInt64 63)).toInt64) &&& (3689348814741910323 : Int64))).toUInt64 >>> ((4 : Int32).toInt64.toUInt64 &&& Int64.toUInt64 63)).toInt64)) &&& (1085102592571150095 : Int64)) + (((((((x - (((x.toUInt64 >>> ((1 : Int32).toInt64.toUInt64 &&& Int64.toUInt64 63)).toInt64) &&& (6148914691236517205 : Int64))) &&& (3689348814741910323 : Int64)) + ((((x - (((x.toUInt64 >>> ((1 : Int32).toInt64.toUInt64 &&& Int64.toUInt64 63)).toInt64) &&& (6148914691236517205 : Int64))).toUInt64 >>> ((2 : Int32).toInt64.toUInt64 &&& Int64.toUInt64 63)).toInt64) &&& (3689348814741910323 : Int64))) + (((((x - (((x.toUInt64 >>> ((1 : Int32).toInt64.toUInt64 &&& Int64.toUInt64 63)).toInt64) &&& (6148914691236517205 : Int64))) &&& (3689348814741910323 : Int64)) + ((((x - (((x.toUInt64 >>> ((1 : Int32).toInt64.toUInt64 &&& Int64.toUInt64 63)).toInt64) &&& (6148914691236517205 : Int64))).toUInt64 >>> ((2 : Int32).toInt64.toUInt64 &&& Int64.toUInt64 63)).toInt64) &&& (3689348814741910323 : Int64))).toUInt64 >>> ((4 : Int32).toInt64.toUInt64 &&& Int64.toUInt64 63)).toInt64)) &&& (1085102592571150095 : Int64)).toUInt64 >>> ((8 : Int32).toInt64.toUInt64 &&& Int64.toUInt64 63)).toInt64)).toUInt64 >>> ((16 : Int32).toInt64.toUInt64 &&& Int64.toUInt64 63)).toInt64)).toUInt64 >>> ((32 : Int32).toInt64.toUInt64 &&& Int64.toUInt64 63)).toInt64)).toInt32) &&& 127
abbrev rm_JL_bitCount : Room := { frames := 0, cells := 0, slots := 0, locals := 0 }
theorem mf_JL_bitCount : MF y_JL_bitCount b_JL_bitCount 2 (some .int) 1 := ⟨m_159, m_12, by decide, by decide, by decide +kernel⟩
theorem d_JL_bitCount_0 : decode b_JL_bitCount 0 = .ok (.lload_n 0, 1) := by decide +kernel
theorem d_JL_bitCount_1 : decode b_JL_bitCount 1 = .ok (.lload_n 0, 1) := by decide +kernel
theorem d_JL_bitCount_2 : decode b_JL_bitCount 2 = .ok (.iconst 1, 1) := by decide +kernel
theorem d_JL_bitCount_3 : decode b_JL_bitCount 3 = .ok (.lushr, 1) := by decide +kernel
theorem d_JL_bitCount_4 : decode b_JL_bitCount 4 = .ok (.ldc2_w 314, 3) := by decide +kernel
theorem d_JL_bitCount_7 : decode b_JL_bitCount 7 = .ok (.land, 1) := by decide +kernel
theorem d_JL_bitCount_8 : decode b_JL_bitCount 8 = .ok (.lsub, 1) := by decide +kernel
theorem d_JL_bitCount_9 : decode b_JL_bitCount 9 = .ok (.lstore_n 0, 1) := by decide +kernel
theorem d_JL_bitCount_10 : decode b_JL_bitCount 10 = .ok (.lload_n 0, 1) := by decide +kernel
theorem d_JL_bitCount_11 : decode b_JL_bitCount 11 = .ok (.ldc2_w 316, 3) := by decide +kernel
theorem d_JL_bitCount_14 : decode b_JL_bitCount 14 = .ok (.land, 1) := by decide +kernel
theorem d_JL_bitCount_15 : decode b_JL_bitCount 15 = .ok (.lload_n 0, 1) := by decide +kernel
theorem d_JL_bitCount_16 : decode b_JL_bitCount 16 = .ok (.iconst 2, 1) := by decide +kernel
theorem d_JL_bitCount_17 : decode b_JL_bitCount 17 = .ok (.lushr, 1) := by decide +kernel
theorem d_JL_bitCount_18 : decode b_JL_bitCount 18 = .ok (.ldc2_w 316, 3) := by decide +kernel
theorem d_JL_bitCount_21 : decode b_JL_bitCount 21 = .ok (.land, 1) := by decide +kernel
theorem d_JL_bitCount_22 : decode b_JL_bitCount 22 = .ok (.ladd, 1) := by decide +kernel
theorem d_JL_bitCount_23 : decode b_JL_bitCount 23 = .ok (.lstore_n 0, 1) := by decide +kernel
theorem d_JL_bitCount_24 : decode b_JL_bitCount 24 = .ok (.lload_n 0, 1) := by decide +kernel
theorem d_JL_bitCount_25 : decode b_JL_bitCount 25 = .ok (.lload_n 0, 1) := by decide +kernel
theorem d_JL_bitCount_26 : decode b_JL_bitCount 26 = .ok (.iconst 4, 1) := by decide +kernel
theorem d_JL_bitCount_27 : decode b_JL_bitCount 27 = .ok (.lushr, 1) := by decide +kernel
theorem d_JL_bitCount_28 : decode b_JL_bitCount 28 = .ok (.ladd, 1) := by decide +kernel
theorem d_JL_bitCount_29 : decode b_JL_bitCount 29 = .ok (.ldc2_w 318, 3) := by decide +kernel
theorem d_JL_bitCount_32 : decode b_JL_bitCount 32 = .ok (.land, 1) := by decide +kernel
theorem d_JL_bitCount_33 : decode b_JL_bitCount 33 = .ok (.lstore_n 0, 1) := by decide +kernel
theorem d_JL_bitCount_34 : decode b_JL_bitCount 34 = .ok (.lload_n 0, 1) := by decide +kernel
theorem d_JL_bitCount_35 : decode b_JL_bitCount 35 = .ok (.lload_n 0, 1) := by decide +kernel
theorem d_JL_bitCount_36 : decode b_JL_bitCount 36 = .ok (.bipush 8, 2) := by decide +kernel
theorem d_JL_bitCount_38 : decode b_JL_bitCount 38 = .ok (.lushr, 1) := by decide +kernel
theorem d_JL_bitCount_39 : decode b_JL_bitCount 39 = .ok (.ladd, 1) := by decide +kernel
theorem d_JL_bitCount_40 : decode b_JL_bitCount 40 = .ok (.lstore_n 0, 1) := by decide +kernel
theorem d_JL_bitCount_41 : decode b_JL_bitCount 41 = .ok (.lload_n 0, 1) := by decide +kernel
theorem d_JL_bitCount_42 : decode b_JL_bitCount 42 = .ok (.lload_n 0, 1) := by decide +kernel
theorem d_JL_bitCount_43 : decode b_JL_bitCount 43 = .ok (.bipush 16, 2) := by decide +kernel
theorem d_JL_bitCount_45 : decode b_JL_bitCount 45 = .ok (.lushr, 1) := by decide +kernel
theorem d_JL_bitCount_46 : decode b_JL_bitCount 46 = .ok (.ladd, 1) := by decide +kernel
theorem d_JL_bitCount_47 : decode b_JL_bitCount 47 = .ok (.lstore_n 0, 1) := by decide +kernel
theorem d_JL_bitCount_48 : decode b_JL_bitCount 48 = .ok (.lload_n 0, 1) := by decide +kernel
theorem d_JL_bitCount_49 : decode b_JL_bitCount 49 = .ok (.lload_n 0, 1) := by decide +kernel
theorem d_JL_bitCount_50 : decode b_JL_bitCount 50 = .ok (.bipush 32, 2) := by decide +kernel
theorem d_JL_bitCount_52 : decode b_JL_bitCount 52 = .ok (.lushr, 1) := by decide +kernel
theorem d_JL_bitCount_53 : decode b_JL_bitCount 53 = .ok (.ladd, 1) := by decide +kernel
theorem d_JL_bitCount_54 : decode b_JL_bitCount 54 = .ok (.lstore_n 0, 1) := by decide +kernel
theorem d_JL_bitCount_55 : decode b_JL_bitCount 55 = .ok (.lload_n 0, 1) := by decide +kernel
theorem d_JL_bitCount_56 : decode b_JL_bitCount 56 = .ok (.l2i, 1) := by decide +kernel
theorem d_JL_bitCount_57 : decode b_JL_bitCount 57 = .ok (.bipush 127, 2) := by decide +kernel
theorem d_JL_bitCount_59 : decode b_JL_bitCount 59 = .ok (.iand, 1) := by decide +kernel
theorem d_JL_bitCount_60 : decode b_JL_bitCount 60 = .ok (.ireturn, 1) := by decide +kernel
set_option maxRecDepth 100000 in
set_option maxHeartbeats 4000000 in
theorem c_JL_bitCount (l : Launch) (G : Gt) (x : Int64) : CtI l G y_JL_bitCount b_JL_bitCount 2 (some .int) rm_JL_bitCount E0 [.long x] [] (fun r (_ : Unit) => r = f_JL_bitCount x) (fun _ => []) 0 0 := by
  refine Ct.of (Qp := fun A => va_Qi _ (qB G A _) A) Stb_0 (by decide) (Nat.le_of_ble_eq_true rfl) ?_
  intro p e s m args below meth c A X hE hr hlk hini
  refine pv_eql (ll2 := [(0, .long x)]) rfl ?_
  refine pv_lload_n X 0 d_JL_bitCount_0 rfl ?_
  refine pv_lload_n X 0 d_JL_bitCount_1 rfl ?_
  refine pv_iconst X 1 d_JL_bitCount_2 (by decide) ?_
  refine pv_lushr X d_JL_bitCount_3 ?_
  refine pv_ldc2_w X m_160 d_JL_bitCount_4 ?_
  refine pv_land X d_JL_bitCount_7 ?_
  refine pv_lsub X d_JL_bitCount_8 ?_
  refine pv_lstore_n (ll2 := [(0, .long (x - (((x.toUInt64 >>> ((1 : Int32).toInt64.toUInt64 &&& Int64.toUInt64 63)).toInt64) &&& (6148914691236517205 : Int64))))]) X d_JL_bitCount_9 (by decide) rfl ?_
  refine pv_lload_n X 0 d_JL_bitCount_10 rfl ?_
  refine pv_ldc2_w X m_161 d_JL_bitCount_11 ?_
  refine pv_land X d_JL_bitCount_14 ?_
  refine pv_lload_n X 0 d_JL_bitCount_15 rfl ?_
  refine pv_iconst X 2 d_JL_bitCount_16 (by decide) ?_
  refine pv_lushr X d_JL_bitCount_17 ?_
  refine pv_ldc2_w X m_161 d_JL_bitCount_18 ?_
  refine pv_land X d_JL_bitCount_21 ?_
  refine pv_ladd X d_JL_bitCount_22 ?_
  refine pv_lstore_n (ll2 := [(0, .long (((x - (((x.toUInt64 >>> ((1 : Int32).toInt64.toUInt64 &&& Int64.toUInt64 63)).toInt64) &&& (6148914691236517205 : Int64))) &&& (3689348814741910323 : Int64)) + ((((x - (((x.toUInt64 >>> ((1 : Int32).toInt64.toUInt64 &&& Int64.toUInt64 63)).toInt64) &&& (6148914691236517205 : Int64))).toUInt64 >>> ((2 : Int32).toInt64.toUInt64 &&& Int64.toUInt64 63)).toInt64) &&& (3689348814741910323 : Int64))))]) X d_JL_bitCount_23 (by decide) rfl ?_
  refine pv_lload_n X 0 d_JL_bitCount_24 rfl ?_
  refine pv_lload_n X 0 d_JL_bitCount_25 rfl ?_
  refine pv_iconst X 4 d_JL_bitCount_26 (by decide) ?_
  refine pv_lushr X d_JL_bitCount_27 ?_
  refine pv_ladd X d_JL_bitCount_28 ?_
  refine pv_ldc2_w X m_162 d_JL_bitCount_29 ?_
  refine pv_land X d_JL_bitCount_32 ?_
  refine pv_lstore_n (ll2 := [(0, .long (((((x - (((x.toUInt64 >>> ((1 : Int32).toInt64.toUInt64 &&& Int64.toUInt64 63)).toInt64) &&& (6148914691236517205 : Int64))) &&& (3689348814741910323 : Int64)) + ((((x - (((x.toUInt64 >>> ((1 : Int32).toInt64.toUInt64 &&& Int64.toUInt64 63)).toInt64) &&& (6148914691236517205 : Int64))).toUInt64 >>> ((2 : Int32).toInt64.toUInt64 &&& Int64.toUInt64 63)).toInt64) &&& (3689348814741910323 : Int64))) + (((((x - (((x.toUInt64 >>> ((1 : Int32).toInt64.toUInt64 &&& Int64.toUInt64 63)).toInt64) &&& (6148914691236517205 : Int64))) &&& (3689348814741910323 : Int64)) + ((((x - (((x.toUInt64 >>> ((1 : Int32).toInt64.toUInt64 &&& Int64.toUInt64 63)).toInt64) &&& (6148914691236517205 : Int64))).toUInt64 >>> ((2 : Int32).toInt64.toUInt64 &&& Int64.toUInt64 63)).toInt64) &&& (3689348814741910323 : Int64))).toUInt64 >>> ((4 : Int32).toInt64.toUInt64 &&& Int64.toUInt64 63)).toInt64)) &&& (1085102592571150095 : Int64)))]) X d_JL_bitCount_33 (by decide) rfl ?_
  refine pv_lload_n X 0 d_JL_bitCount_34 rfl ?_
  refine pv_lload_n X 0 d_JL_bitCount_35 rfl ?_
  refine pv_bipush X 8 d_JL_bitCount_36 (by decide) ?_
  refine pv_lushr X d_JL_bitCount_38 ?_
  refine pv_ladd X d_JL_bitCount_39 ?_
  refine pv_lstore_n (ll2 := [(0, .long ((((((x - (((x.toUInt64 >>> ((1 : Int32).toInt64.toUInt64 &&& Int64.toUInt64 63)).toInt64) &&& (6148914691236517205 : Int64))) &&& (3689348814741910323 : Int64)) + ((((x - (((x.toUInt64 >>> ((1 : Int32).toInt64.toUInt64 &&& Int64.toUInt64 63)).toInt64) &&& (6148914691236517205 : Int64))).toUInt64 >>> ((2 : Int32).toInt64.toUInt64 &&& Int64.toUInt64 63)).toInt64) &&& (3689348814741910323 : Int64))) + (((((x - (((x.toUInt64 >>> ((1 : Int32).toInt64.toUInt64 &&& Int64.toUInt64 63)).toInt64) &&& (6148914691236517205 : Int64))) &&& (3689348814741910323 : Int64)) + ((((x - (((x.toUInt64 >>> ((1 : Int32).toInt64.toUInt64 &&& Int64.toUInt64 63)).toInt64) &&& (6148914691236517205 : Int64))).toUInt64 >>> ((2 : Int32).toInt64.toUInt64 &&& Int64.toUInt64 63)).toInt64) &&& (3689348814741910323 : Int64))).toUInt64 >>> ((4 : Int32).toInt64.toUInt64 &&& Int64.toUInt64 63)).toInt64)) &&& (1085102592571150095 : Int64)) + (((((((x - (((x.toUInt64 >>> ((1 : Int32).toInt64.toUInt64 &&& Int64.toUInt64 63)).toInt64) &&& (6148914691236517205 : Int64))) &&& (3689348814741910323 : Int64)) + ((((x - (((x.toUInt64 >>> ((1 : Int32).toInt64.toUInt64 &&& Int64.toUInt64 63)).toInt64) &&& (6148914691236517205 : Int64))).toUInt64 >>> ((2 : Int32).toInt64.toUInt64 &&& Int64.toUInt64 63)).toInt64) &&& (3689348814741910323 : Int64))) + (((((x - (((x.toUInt64 >>> ((1 : Int32).toInt64.toUInt64 &&& Int64.toUInt64 63)).toInt64) &&& (6148914691236517205 : Int64))) &&& (3689348814741910323 : Int64)) + ((((x - (((x.toUInt64 >>> ((1 : Int32).toInt64.toUInt64 &&& Int64.toUInt64 63)).toInt64) &&& (6148914691236517205 : Int64))).toUInt64 >>> ((2 : Int32).toInt64.toUInt64 &&& Int64.toUInt64 63)).toInt64) &&& (3689348814741910323 : Int64))).toUInt64 >>> ((4 : Int32).toInt64.toUInt64 &&& Int64.toUInt64 63)).toInt64)) &&& (1085102592571150095 : Int64)).toUInt64 >>> ((8 : Int32).toInt64.toUInt64 &&& Int64.toUInt64 63)).toInt64)))]) X d_JL_bitCount_40 (by decide) rfl ?_
  refine pv_lload_n X 0 d_JL_bitCount_41 rfl ?_
  refine pv_lload_n X 0 d_JL_bitCount_42 rfl ?_
  refine pv_bipush X 16 d_JL_bitCount_43 (by decide) ?_
  refine pv_lushr X d_JL_bitCount_45 ?_
  refine pv_ladd X d_JL_bitCount_46 ?_
  refine pv_lstore_n (ll2 := [(0, .long (((((((x - (((x.toUInt64 >>> ((1 : Int32).toInt64.toUInt64 &&& Int64.toUInt64 63)).toInt64) &&& (6148914691236517205 : Int64))) &&& (3689348814741910323 : Int64)) + ((((x - (((x.toUInt64 >>> ((1 : Int32).toInt64.toUInt64 &&& Int64.toUInt64 63)).toInt64) &&& (6148914691236517205 : Int64))).toUInt64 >>> ((2 : Int32).toInt64.toUInt64 &&& Int64.toUInt64 63)).toInt64) &&& (3689348814741910323 : Int64))) + (((((x - (((x.toUInt64 >>> ((1 : Int32).toInt64.toUInt64 &&& Int64.toUInt64 63)).toInt64) &&& (6148914691236517205 : Int64))) &&& (3689348814741910323 : Int64)) + ((((x - (((x.toUInt64 >>> ((1 : Int32).toInt64.toUInt64 &&& Int64.toUInt64 63)).toInt64) &&& (6148914691236517205 : Int64))).toUInt64 >>> ((2 : Int32).toInt64.toUInt64 &&& Int64.toUInt64 63)).toInt64) &&& (3689348814741910323 : Int64))).toUInt64 >>> ((4 : Int32).toInt64.toUInt64 &&& Int64.toUInt64 63)).toInt64)) &&& (1085102592571150095 : Int64)) + (((((((x - (((x.toUInt64 >>> ((1 : Int32).toInt64.toUInt64 &&& Int64.toUInt64 63)).toInt64) &&& (6148914691236517205 : Int64))) &&& (3689348814741910323 : Int64)) + ((((x - (((x.toUInt64 >>> ((1 : Int32).toInt64.toUInt64 &&& Int64.toUInt64 63)).toInt64) &&& (6148914691236517205 : Int64))).toUInt64 >>> ((2 : Int32).toInt64.toUInt64 &&& Int64.toUInt64 63)).toInt64) &&& (3689348814741910323 : Int64))) + (((((x - (((x.toUInt64 >>> ((1 : Int32).toInt64.toUInt64 &&& Int64.toUInt64 63)).toInt64) &&& (6148914691236517205 : Int64))) &&& (3689348814741910323 : Int64)) + ((((x - (((x.toUInt64 >>> ((1 : Int32).toInt64.toUInt64 &&& Int64.toUInt64 63)).toInt64) &&& (6148914691236517205 : Int64))).toUInt64 >>> ((2 : Int32).toInt64.toUInt64 &&& Int64.toUInt64 63)).toInt64) &&& (3689348814741910323 : Int64))).toUInt64 >>> ((4 : Int32).toInt64.toUInt64 &&& Int64.toUInt64 63)).toInt64)) &&& (1085102592571150095 : Int64)).toUInt64 >>> ((8 : Int32).toInt64.toUInt64 &&& Int64.toUInt64 63)).toInt64)) + ((((((((x - (((x.toUInt64 >>> ((1 : Int32).toInt64.toUInt64 &&& Int64.toUInt64 63)).toInt64) &&& (6148914691236517205 : Int64))) &&& (3689348814741910323 : Int64)) + ((((x - (((x.toUInt64 >>> ((1 : Int32).toInt64.toUInt64 &&& Int64.toUInt64 63)).toInt64) &&& (6148914691236517205 : Int64))).toUInt64 >>> ((2 : Int32).toInt64.toUInt64 &&& Int64.toUInt64 63)).toInt64) &&& (3689348814741910323 : Int64))) + (((((x - (((x.toUInt64 >>> ((1 : Int32).toInt64.toUInt64 &&& Int64.toUInt64 63)).toInt64) &&& (6148914691236517205 : Int64))) &&& (3689348814741910323 : Int64)) + ((((x - (((x.toUInt64 >>> ((1 : Int32).toInt64.toUInt64 &&& Int64.toUInt64 63)).toInt64) &&& (6148914691236517205 : Int64))).toUInt64 >>> ((2 : Int32).toInt64.toUInt64 &&& Int64.toUInt64 63)).toInt64) &&& (3689348814741910323 : Int64))).toUInt64 >>> ((4 : Int32).toInt64.toUInt64 &&& Int64.toUInt64 63)).toInt64)) &&& (1085102592571150095 : Int64)) + (((((((x - (((x.toUInt64 >>> ((1 : Int32).toInt64.toUInt64 &&& Int64.toUInt64 63)).toInt64) &&& (6148914691236517205 : Int64))) &&& (3689348814741910323 : Int64)) + ((((x - (((x.toUInt64 >>> ((1 : Int32).toInt64.toUInt64 &&& Int64.toUInt64 63)).toInt64) &&& (6148914691236517205 : Int64))).toUInt64 >>> ((2 : Int32).toInt64.toUInt64 &&& Int64.toUInt64 63)).toInt64) &&& (3689348814741910323 : Int64))) + (((((x - (((x.toUInt64 >>> ((1 : Int32).toInt64.toUInt64 &&& Int64.toUInt64 63)).toInt64) &&& (6148914691236517205 : Int64))) &&& (3689348814741910323 : Int64)) + ((((x - (((x.toUInt64 >>> ((1 : Int32).toInt64.toUInt64 &&& Int64.toUInt64 63)).toInt64) &&& (6148914691236517205 : Int64))).toUInt64 >>> ((2 : Int32).toInt64.toUInt64 &&& Int64.toUInt64 63)).toInt64) &&& (3689348814741910323 : Int64))).toUInt64 >>> ((4 : Int32).toInt64.toUInt64 &&& Int64.toUInt64 63)).toInt64)) &&& (1085102592571150095 : Int64)).toUInt64 >>> ((8 : Int32).toInt64.toUInt64 &&& Int64.toUInt64 63)).toInt64)).toUInt64 >>> ((16 : Int32).toInt64.toUInt64 &&& Int64.toUInt64 63)).toInt64)))]) X d_JL_bitCount_47 (by decide) rfl ?_
  refine pv_lload_n X 0 d_JL_bitCount_48 rfl ?_
  refine pv_lload_n X 0 d_JL_bitCount_49 rfl ?_
  refine pv_bipush X 32 d_JL_bitCount_50 (by decide) ?_
  refine pv_lushr X d_JL_bitCount_52 ?_
  refine pv_ladd X d_JL_bitCount_53 ?_
  refine pv_lstore_n (ll2 := [(0, .long ((((((((x - (((x.toUInt64 >>> ((1 : Int32).toInt64.toUInt64 &&& Int64.toUInt64 63)).toInt64) &&& (6148914691236517205 : Int64))) &&& (3689348814741910323 : Int64)) + ((((x - (((x.toUInt64 >>> ((1 : Int32).toInt64.toUInt64 &&& Int64.toUInt64 63)).toInt64) &&& (6148914691236517205 : Int64))).toUInt64 >>> ((2 : Int32).toInt64.toUInt64 &&& Int64.toUInt64 63)).toInt64) &&& (3689348814741910323 : Int64))) + (((((x - (((x.toUInt64 >>> ((1 : Int32).toInt64.toUInt64 &&& Int64.toUInt64 63)).toInt64) &&& (6148914691236517205 : Int64))) &&& (3689348814741910323 : Int64)) + ((((x - (((x.toUInt64 >>> ((1 : Int32).toInt64.toUInt64 &&& Int64.toUInt64 63)).toInt64) &&& (6148914691236517205 : Int64))).toUInt64 >>> ((2 : Int32).toInt64.toUInt64 &&& Int64.toUInt64 63)).toInt64) &&& (3689348814741910323 : Int64))).toUInt64 >>> ((4 : Int32).toInt64.toUInt64 &&& Int64.toUInt64 63)).toInt64)) &&& (1085102592571150095 : Int64)) + (((((((x - (((x.toUInt64 >>> ((1 : Int32).toInt64.toUInt64 &&& Int64.toUInt64 63)).toInt64) &&& (6148914691236517205 : Int64))) &&& (3689348814741910323 : Int64)) + ((((x - (((x.toUInt64 >>> ((1 : Int32).toInt64.toUInt64 &&& Int64.toUInt64 63)).toInt64) &&& (6148914691236517205 : Int64))).toUInt64 >>> ((2 : Int32).toInt64.toUInt64 &&& Int64.toUInt64 63)).toInt64) &&& (3689348814741910323 : Int64))) + (((((x - (((x.toUInt64 >>> ((1 : Int32).toInt64.toUInt64 &&& Int64.toUInt64 63)).toInt64) &&& (6148914691236517205 : Int64))) &&& (3689348814741910323 : Int64)) + ((((x - (((x.toUInt64 >>> ((1 : Int32).toInt64.toUInt64 &&& Int64.toUInt64 63)).toInt64) &&& (6148914691236517205 : Int64))).toUInt64 >>> ((2 : Int32).toInt64.toUInt64 &&& Int64.toUInt64 63)).toInt64) &&& (3689348814741910323 : Int64))).toUInt64 >>> ((4 : Int32).toInt64.toUInt64 &&& Int64.toUInt64 63)).toInt64)) &&& (1085102592571150095 : Int64)).toUInt64 >>> ((8 : Int32).toInt64.toUInt64 &&& Int64.toUInt64 63)).toInt64)) + ((((((((x - (((x.toUInt64 >>> ((1 : Int32).toInt64.toUInt64 &&& Int64.toUInt64 63)).toInt64) &&& (6148914691236517205 : Int64))) &&& (3689348814741910323 : Int64)) + ((((x - (((x.toUInt64 >>> ((1 : Int32).toInt64.toUInt64 &&& Int64.toUInt64 63)).toInt64) &&& (6148914691236517205 : Int64))).toUInt64 >>> ((2 : Int32).toInt64.toUInt64 &&& Int64.toUInt64 63)).toInt64) &&& (3689348814741910323 : Int64))) + (((((x - (((x.toUInt64 >>> ((1 : Int32).toInt64.toUInt64 &&& Int64.toUInt64 63)).toInt64) &&& (6148914691236517205 : Int64))) &&& (3689348814741910323 : Int64)) + ((((x - (((x.toUInt64 >>> ((1 : Int32).toInt64.toUInt64 &&& Int64.toUInt64 63)).toInt64) &&& (6148914691236517205 : Int64))).toUInt64 >>> ((2 : Int32).toInt64.toUInt64 &&& Int64.toUInt64 63)).toInt64) &&& (3689348814741910323 : Int64))).toUInt64 >>> ((4 : Int32).toInt64.toUInt64 &&& Int64.toUInt64 63)).toInt64)) &&& (1085102592571150095 : Int64)) + (((((((x - (((x.toUInt64 >>> ((1 : Int32).toInt64.toUInt64 &&& Int64.toUInt64 63)).toInt64) &&& (6148914691236517205 : Int64))) &&& (3689348814741910323 : Int64)) + ((((x - (((x.toUInt64 >>> ((1 : Int32).toInt64.toUInt64 &&& Int64.toUInt64 63)).toInt64) &&& (6148914691236517205 : Int64))).toUInt64 >>> ((2 : Int32).toInt64.toUInt64 &&& Int64.toUInt64 63)).toInt64) &&& (3689348814741910323 : Int64))) + (((((x - (((x.toUInt64 >>> ((1 : Int32).toInt64.toUInt64 &&& Int64.toUInt64 63)).toInt64) &&& (6148914691236517205 : Int64))) &&& (3689348814741910323 : Int64)) + ((((x - (((x.toUInt64 >>> ((1 : Int32).toInt64.toUInt64 &&& Int64.toUInt64 63)).toInt64) &&& (6148914691236517205 : Int64))).toUInt64 >>> ((2 : Int32).toInt64.toUInt64 &&& Int64.toUInt64 63)).toInt64) &&& (3689348814741910323 : Int64))).toUInt64 >>> ((4 : Int32).toInt64.toUInt64 &&& Int64.toUInt64 63)).toInt64)) &&& (1085102592571150095 : Int64)).toUInt64 >>> ((8 : Int32).toInt64.toUInt64 &&& Int64.toUInt64 63)).toInt64)).toUInt64 >>> ((16 : Int32).toInt64.toUInt64 &&& Int64.toUInt64 63)).toInt64)) + (((((((((x - (((x.toUInt64 >>> ((1 : Int32).toInt64.toUInt64 &&& Int64.toUInt64 63)).toInt64) &&& (6148914691236517205 : Int64))) &&& (3689348814741910323 : Int64)) + ((((x - (((x.toUInt64 >>> ((1 : Int32).toInt64.toUInt64 &&& Int64.toUInt64 63)).toInt64) &&& (6148914691236517205 : Int64))).toUInt64 >>> ((2 : Int32).toInt64.toUInt64 &&& Int64.toUInt64 63)).toInt64) &&& (3689348814741910323 : Int64))) + (((((x - (((x.toUInt64 >>> ((1 : Int32).toInt64.toUInt64 &&& Int64.toUInt64 63)).toInt64) &&& (6148914691236517205 : Int64))) &&& (3689348814741910323 : Int64)) + ((((x - (((x.toUInt64 >>> ((1 : Int32).toInt64.toUInt64 &&& Int64.toUInt64 63)).toInt64) &&& (6148914691236517205 : Int64))).toUInt64 >>> ((2 : Int32).toInt64.toUInt64 &&& Int64.toUInt64 63)).toInt64) &&& (3689348814741910323 : Int64))).toUInt64 >>> ((4 : Int32).toInt64.toUInt64 &&& Int64.toUInt64 63)).toInt64)) &&& (1085102592571150095 : Int64)) + (((((((x - (((x.toUInt64 >>> ((1 : Int32).toInt64.toUInt64 &&& Int64.toUInt64 63)).toInt64) &&& (6148914691236517205 : Int64))) &&& (3689348814741910323 : Int64)) + ((((x - (((x.toUInt64 >>> ((1 : Int32).toInt64.toUInt64 &&& Int64.toUInt64 63)).toInt64) &&& (6148914691236517205 : Int64))).toUInt64 >>> ((2 : Int32).toInt64.toUInt64 &&& Int64.toUInt64 63)).toInt64) &&& (3689348814741910323 : Int64))) + (((((x - (((x.toUInt64 >>> ((1 : Int32).toInt64.toUInt64 &&& Int64.toUInt64 63)).toInt64) &&& (6148914691236517205 : Int64))) &&& (3689348814741910323 : Int64)) + ((((x - (((x.toUInt64 >>> ((1 : Int32).toInt64.toUInt64 &&& Int64.toUInt64 63)).toInt64) &&& (6148914691236517205 : Int64))).toUInt64 >>> ((2 : Int32).toInt64.toUInt64 &&& Int64.toUInt64 63)).toInt64) &&& (3689348814741910323 : Int64))).toUInt64 >>> ((4 : Int32).toInt64.toUInt64 &&& Int64.toUInt64 63)).toInt64)) &&& (1085102592571150095 : Int64)).toUInt64 >>> ((8 : Int32).toInt64.toUInt64 &&& Int64.toUInt64 63)).toInt64)) + ((((((((x - (((x.toUInt64 >>> ((1 : Int32).toInt64.toUInt64 &&& Int64.toUInt64 63)).toInt64) &&& (6148914691236517205 : Int64))) &&& (3689348814741910323 : Int64)) + ((((x - (((x.toUInt64 >>> ((1 : Int32).toInt64.toUInt64 &&& Int64.toUInt64 63)).toInt64) &&& (6148914691236517205 : Int64))).toUInt64 >>> ((2 : Int32).toInt64.toUInt64 &&& Int64.toUInt64 63)).toInt64) &&& (3689348814741910323 : Int64))) + (((((x - (((x.toUInt64 >>> ((1 : Int32).toInt64.toUInt64 &&& Int64.toUInt64 63)).toInt64) &&& (6148914691236517205 : Int64))) &&& (3689348814741910323 : Int64)) + ((((x - (((x.toUInt64 >>> ((1 : Int32).toInt64.toUInt64 &&& Int64.toUInt64 63)).toInt64) &&& (6148914691236517205 : Int64))).toUInt64 >>> ((2 : Int32).toInt64.toUInt64 &&& Int64.toUInt64 63)).toInt64) &&& (3689348814741910323 : Int64))).toUInt64 >>> ((4 : Int32).toInt64.toUInt64 &&& Int64.toUInt64 63)).toInt64)) &&& (1085102592571150095 : Int64)) + (((((((x - (((x.toUInt64 >>> ((1 : Int32).toInt64.toUInt64 &&& Int64.toUInt64 63)).toInt64) &&& (6148914691236517205 : Int64))) &&& (3689348814741910323 : Int64)) + ((((x - (((x.toUInt64 >>> ((1 : Int32).toInt64.toUInt64 &&& Int64.toUInt64 63)).toInt64) &&& (6148914691236517205 : Int64))).toUInt64 >>> ((2 : Int32).toInt64.toUInt64 &&& Int64.toUInt64 63)).toInt64) &&& (3689348814741910323 : Int64))) + (((((x - (((x.toUInt64 >>> ((1 : Int32).toInt64.toUInt64 &&& Int64.toUInt64 63)).toInt64) &&& (6148914691236517205 : Int64))) &&& (3689348814741910323 : Int64)) + ((((x - (((x.toUInt64 >>> ((1 : Int32).toInt64.toUInt64 &&& Int64.toUInt64 63)).toInt64) &&& (6148914691236517205 : Int64))).toUInt64 >>> ((2 : Int32).toInt64.toUInt64 &&& Int64.toUInt64 63)).toInt64) &&& (3689348814741910323 : Int64))).toUInt64 >>> ((4 : Int32).toInt64.toUInt64 &&& Int64.toUInt64 63)).toInt64)) &&& (1085102592571150095 : Int64)).toUInt64 >>> ((8 : Int32).toInt64.toUInt64 &&& Int64.toUInt64 63)).toInt64)).toUInt64 >>> ((16 : Int32).toInt64.toUInt64 &&& Int64.toUInt64 63)).toInt64)).toUInt64 >>> ((32 : Int32).toInt64.toUInt64 &&& Int64.toUInt64 63)).toInt64)))]) X d_JL_bitCount_54 (by decide) rfl ?_
  refine pv_lload_n X 0 d_JL_bitCount_55 rfl ?_
  refine pv_l2i X d_JL_bitCount_56 ?_
  refine pv_bipush X 127 d_JL_bitCount_57 (by decide) ?_
  refine pv_iand X d_JL_bitCount_59 ?_
  exact pv_iret X hr hlk () rfl rfl d_JL_bitCount_60
def f_JI_bitCount (x : Int32) : Int32 := (((((((x - (((x.toUInt32 >>> ((1 : Int32).toUInt32 &&& Int32.toUInt32 31)).toInt32) &&& 1431655765)) &&& 858993459) + ((((x - (((x.toUInt32 >>> ((1 : Int32).toUInt32 &&& Int32.toUInt32 31)).toInt32) &&& 1431655765)).toUInt32 >>> ((2 : Int32).toUInt32 &&& Int32.toUInt32 31)).toInt32) &&& 858993459)) + (((((x - (((x.toUInt32 >>> ((1 : Int32).toUInt32 &&& Int32.toUInt32 31)).toInt32) &&& 1431655765)) &&& 858993459) + ((((x - (((x.toUInt32 >>> ((1 : Int32).toUInt32 &&& Int32.toUInt32 31)).toInt32) &&& 1431655765)).toUInt32 >>> ((2 : Int32).toUInt32 &&& Int32.toUInt32 31)).toInt32) &&& 858993459)).toUInt32 >>> ((4 : Int32).toUInt32 &&& Int32.toUInt32 31)).toInt32)) &&& 252645135) + (((((((x - (((x.toUInt32 >>> ((1 : Int32).toUInt32 &&& Int32.toUInt32 31)).toInt32) &&& 1431655765)) &&& 858993459) + ((((x - (((x.toUInt32 >>> ((1 : Int32).toUInt32 &&& Int32.toUInt32 31)).toInt32) &&& 1431655765)).toUInt32 >>> ((2 : Int32).toUInt32 &&& Int32.toUInt32 31)).toInt32) &&& 858993459)) + (((((x - (((x.toUInt32 >>> ((1 : Int32).toUInt32 &&& Int32.toUInt32 31)).toInt32) &&& 1431655765)) &&& 858993459) + ((((x - (((x.toUInt32 >>> ((1 : Int32).toUInt32 &&& Int32.toUInt32 31)).toInt32) &&& 1431655765)).toUInt32 >>> ((2 : Int32).toUInt32 &&& Int32.toUInt32 31)).toInt32) &&& 858993459)).toUInt32 >>> ((4 : Int32).toUInt32 &&& Int32.toUInt32 31)).toInt32)) &&& 252645135).toUInt32 >>> ((8 : Int32).toUInt32 &&& Int32.toUInt32 31)).toInt32)) + ((((((((x - (((x.toUInt32 >>> ((1 : Int32).toUInt32 &&& Int32.toUInt32 31)).toInt32) &&& 1431655765)) &&& 858993459) + ((((x - (((x.toUInt32 >>> ((1 : Int32).toUInt32 &&& Int32.toUInt32 31)).toInt32) &&& 1431655765)).toUInt32 >>> ((2 : Int32).toUInt32 &&& Int32.toUInt32 31)).toInt32) &&& 858993459)) + (((((x - (((x.toUInt32 >>> ((1 : Int32).toUInt32 &&& Int32.toUInt32 31)).toInt32) &&& 1431655765)) &&& 858993459) + ((((x - (((x.toUInt32 >>> ((1 : Int32).toUInt32 &&& Int32.toUInt32 31)).toInt32) &&& 1431655765)).toUInt32 >>> ((2 : Int32).toUInt32 &&& Int32.toUInt32 31)).toInt32) &&& 858993459)).toUInt32 >>> ((4 : Int32).toUInt32 &&& Int32.toUInt32 31)).toInt32)) &&& 252645135) + (((((((x - (((x.toUInt32 >>> ((1 : Int32).toUInt32 &&& Int32.toUInt32 31)).toInt32) &&& 1431655765)) &&& 858993459) + ((((x - (((x.toUInt32 >>> ((1 : Int32).toUInt32 &&& Int32.toUInt32 31)).toInt32) &&& 1431655765)).toUInt32 >>> ((2 : Int32).toUInt32 &&& Int32.toUInt32 31)).toInt32) &&& 858993459)) + (((((x - (((x.toUInt32 >>> ((1 : Int32).toUInt32 &&& Int32.toUInt32 31)).toInt32) &&& 1431655765)) &&& 858993459) + ((((x - (((x.toUInt32 >>> ((1 : Int32).toUInt32 &&& Int32.toUInt32 31)).toInt32) &&& 1431655765)).toUInt32 >>> ((2 : Int32).toUInt32 &&& Int32.toUInt32 31)).toInt32) &&& 858993459)).toUInt32 >>> ((4 : Int32).toUInt32 &&& Int32.toUInt32 31)).toInt32)) &&& 252645135).toUInt32 >>> ((8 : Int32).toUInt32 &&& Int32.toUInt32 31)).toInt32)).toUInt32 >>> ((16 : Int32).toUInt32 &&& Int32.toUInt32 31)).toInt32)) &&& 63
abbrev rm_JI_bitCount : Room := { frames := 0, cells := 0, slots := 0, locals := 0 }
theorem mf_JI_bitCount : MF y_JI_bitCount b_JI_bitCount 1 (some .int) 1 := ⟨m_320, m_14, by decide, by decide, by decide +kernel⟩
theorem d_JI_bitCount_0 : decode b_JI_bitCount 0 = .ok (.iload_n 0, 1) := by decide +kernel
theorem d_JI_bitCount_1 : decode b_JI_bitCount 1 = .ok (.iload_n 0, 1) := by decide +kernel
theorem d_JI_bitCount_2 : decode b_JI_bitCount 2 = .ok (.iconst 1, 1) := by decide +kernel
theorem d_JI_bitCount_3 : decode b_JI_bitCount 3 = .ok (.iushr, 1) := by decide +kernel
theorem d_JI_bitCount_4 : decode b_JI_bitCount 4 = .ok (.ldc_w 265, 3) := by decide +kernel
theorem d_JI_bitCount_7 : decode b_JI_bitCount 7 = .ok (.iand, 1) := by decide +kernel
theorem d_JI_bitCount_8 : decode b_JI_bitCount 8 = .ok (.isub, 1) := by decide +kernel
theorem d_JI_bitCount_9 : decode b_JI_bitCount 9 = .ok (.istore_n 0, 1) := by decide +kernel
theorem d_JI_bitCount_10 : decode b_JI_bitCount 10 = .ok (.iload_n 0, 1) := by decide +kernel
theorem d_JI_bitCount_11 : decode b_JI_bitCount 11 = .ok (.ldc_w 266, 3) := by decide +kernel
theorem d_JI_bitCount_14 : decode b_JI_bitCount 14 = .ok (.iand, 1) := by decide +kernel
theorem d_JI_bitCount_15 : decode b_JI_bitCount 15 = .ok (.iload_n 0, 1) := by decide +kernel
theorem d_JI_bitCount_16 : decode b_JI_bitCount 16 = .ok (.iconst 2, 1) := by decide +kernel
theorem d_JI_bitCount_17 : decode b_JI_bitCount 17 = .ok (.iushr, 1) := by decide +kernel
theorem d_JI_bitCount_18 : decode b_JI_bitCount 18 = .ok (.ldc_w 266, 3) := by decide +kernel
theorem d_JI_bitCount_21 : decode b_JI_bitCount 21 = .ok (.iand, 1) := by decide +kernel
theorem d_JI_bitCount_22 : decode b_JI_bitCount 22 = .ok (.iadd, 1) := by decide +kernel
theorem d_JI_bitCount_23 : decode b_JI_bitCount 23 = .ok (.istore_n 0, 1) := by decide +kernel
theorem d_JI_bitCount_24 : decode b_JI_bitCount 24 = .ok (.iload_n 0, 1) := by decide +kernel
theorem d_JI_bitCount_25 : decode b_JI_bitCount 25 = .ok (.iload_n 0, 1) := by decide +kernel
theorem d_JI_bitCount_26 : decode b_JI_bitCount 26 = .ok (.iconst 4, 1) := by decide +kernel
theorem d_JI_bitCount_27 : decode b_JI_bitCount 27 = .ok (.iushr, 1) := by decide +kernel
theorem d_JI_bitCount_28 : decode b_JI_bitCount 28 = .ok (.iadd, 1) := by decide +kernel
theorem d_JI_bitCount_29 : decode b_JI_bitCount 29 = .ok (.ldc_w 267, 3) := by decide +kernel
theorem d_JI_bitCount_32 : decode b_JI_bitCount 32 = .ok (.iand, 1) := by decide +kernel
theorem d_JI_bitCount_33 : decode b_JI_bitCount 33 = .ok (.istore_n 0, 1) := by decide +kernel
theorem d_JI_bitCount_34 : decode b_JI_bitCount 34 = .ok (.iload_n 0, 1) := by decide +kernel
theorem d_JI_bitCount_35 : decode b_JI_bitCount 35 = .ok (.iload_n 0, 1) := by decide +kernel
theorem d_JI_bitCount_36 : decode b_JI_bitCount 36 = .ok (.bipush 8, 2) := by decide +kernel
theorem d_JI_bitCount_38 : decode b_JI_bitCount 38 = .ok (.iushr, 1) := by decide +kernel
theorem d_JI_bitCount_39 : decode b_JI_bitCount 39 = .ok (.iadd, 1) := by decide +kernel
theorem d_JI_bitCount_40 : decode b_JI_bitCount 40 = .ok (.istore_n 0, 1) := by decide +kernel
theorem d_JI_bitCount_41 : decode b_JI_bitCount 41 = .ok (.iload_n 0, 1) := by decide +kernel
theorem d_JI_bitCount_42 : decode b_JI_bitCount 42 = .ok (.iload_n 0, 1) := by decide +kernel
theorem d_JI_bitCount_43 : decode b_JI_bitCount 43 = .ok (.bipush 16, 2) := by decide +kernel
theorem d_JI_bitCount_45 : decode b_JI_bitCount 45 = .ok (.iushr, 1) := by decide +kernel
theorem d_JI_bitCount_46 : decode b_JI_bitCount 46 = .ok (.iadd, 1) := by decide +kernel
theorem d_JI_bitCount_47 : decode b_JI_bitCount 47 = .ok (.istore_n 0, 1) := by decide +kernel
theorem d_JI_bitCount_48 : decode b_JI_bitCount 48 = .ok (.iload_n 0, 1) := by decide +kernel
theorem d_JI_bitCount_49 : decode b_JI_bitCount 49 = .ok (.bipush 63, 2) := by decide +kernel
theorem d_JI_bitCount_51 : decode b_JI_bitCount 51 = .ok (.iand, 1) := by decide +kernel
theorem d_JI_bitCount_52 : decode b_JI_bitCount 52 = .ok (.ireturn, 1) := by decide +kernel
set_option maxRecDepth 100000 in
set_option maxHeartbeats 4000000 in
theorem c_JI_bitCount (l : Launch) (G : Gt) (x : Int32) : CtI l G y_JI_bitCount b_JI_bitCount 1 (some .int) rm_JI_bitCount E0 [.int x] [] (fun r (_ : Unit) => r = f_JI_bitCount x) (fun _ => []) 0 0 := by
  refine Ct.of (Qp := fun A => va_Qi _ (qB G A _) A) Stb_0 (by decide) (Nat.le_of_ble_eq_true rfl) ?_
  intro p e s m args below meth c A X hE hr hlk hini
  refine pv_eql (ll2 := [(0, .int x)]) rfl ?_
  refine pv_iload_n X 0 d_JI_bitCount_0 rfl ?_
  refine pv_iload_n X 0 d_JI_bitCount_1 rfl ?_
  refine pv_iconst X 1 d_JI_bitCount_2 (by decide) ?_
  refine pv_iushr X d_JI_bitCount_3 ?_
  refine pv_ldc_w X m_321 d_JI_bitCount_4 ?_
  refine pv_iand X d_JI_bitCount_7 ?_
  refine pv_isub X d_JI_bitCount_8 ?_
  refine pv_istore_n (ll2 := [(0, .int (x - (((x.toUInt32 >>> ((1 : Int32).toUInt32 &&& Int32.toUInt32 31)).toInt32) &&& 1431655765)))]) X d_JI_bitCount_9 (by decide) rfl ?_
  refine pv_iload_n X 0 d_JI_bitCount_10 rfl ?_
  refine pv_ldc_w X m_322 d_JI_bitCount_11 ?_
  refine pv_iand X d_JI_bitCount_14 ?_
  refine pv_iload_n X 0 d_JI_bitCount_15 rfl ?_
  refine pv_iconst X 2 d_JI_bitCount_16 (by decide) ?_
  refine pv_iushr X d_JI_bitCount_17 ?_
  refine pv_ldc_w X m_322 d_JI_bitCount_18 ?_
  refine pv_iand X d_JI_bitCount_21 ?_
  refine pv_iadd X d_JI_bitCount_22 ?_
  refine pv_istore_n (ll2 := [(0, .int (((x - (((x.toUInt32 >>> ((1 : Int32).toUInt32 &&& Int32.toUInt32 31)).toInt32) &&& 1431655765)) &&& 858993459) + ((((x - (((x.toUInt32 >>> ((1 : Int32).toUInt32 &&& Int32.toUInt32 31)).toInt32) &&& 1431655765)).toUInt32 >>> ((2 : Int32).toUInt32 &&& Int32.toUInt32 31)).toInt32) &&& 858993459)))]) X d_JI_bitCount_23 (by decide) rfl ?_
  refine pv_iload_n X 0 d_JI_bitCount_24 rfl ?_
  refine pv_iload_n X 0 d_JI_bitCount_25 rfl ?_
  refine pv_iconst X 4 d_JI_bitCount_26 (by decide) ?_
  refine pv_iushr X d_JI_bitCount_27 ?_
  refine pv_iadd X d_JI_bitCount_28 ?_
  refine pv_ldc_w X m_323 d_JI_bitCount_29 ?_
  refine pv_iand X d_JI_bitCount_32 ?_
  refine pv_istore_n (ll2 := [(0, .int (((((x - (((x.toUInt32 >>> ((1 : Int32).toUInt32 &&& Int32.toUInt32 31)).toInt32) &&& 1431655765)) &&& 858993459) + ((((x - (((x.toUInt32 >>> ((1 : Int32).toUInt32 &&& Int32.toUInt32 31)).toInt32) &&& 1431655765)).toUInt32 >>> ((2 : Int32).toUInt32 &&& Int32.toUInt32 31)).toInt32) &&& 858993459)) + (((((x - (((x.toUInt32 >>> ((1 : Int32).toUInt32 &&& Int32.toUInt32 31)).toInt32) &&& 1431655765)) &&& 858993459) + ((((x - (((x.toUInt32 >>> ((1 : Int32).toUInt32 &&& Int32.toUInt32 31)).toInt32) &&& 1431655765)).toUInt32 >>> ((2 : Int32).toUInt32 &&& Int32.toUInt32 31)).toInt32) &&& 858993459)).toUInt32 >>> ((4 : Int32).toUInt32 &&& Int32.toUInt32 31)).toInt32)) &&& 252645135))]) X d_JI_bitCount_33 (by decide) rfl ?_
  refine pv_iload_n X 0 d_JI_bitCount_34 rfl ?_
  refine pv_iload_n X 0 d_JI_bitCount_35 rfl ?_
  refine pv_bipush X 8 d_JI_bitCount_36 (by decide) ?_
  refine pv_iushr X d_JI_bitCount_38 ?_
  refine pv_iadd X d_JI_bitCount_39 ?_
  refine pv_istore_n (ll2 := [(0, .int ((((((x - (((x.toUInt32 >>> ((1 : Int32).toUInt32 &&& Int32.toUInt32 31)).toInt32) &&& 1431655765)) &&& 858993459) + ((((x - (((x.toUInt32 >>> ((1 : Int32).toUInt32 &&& Int32.toUInt32 31)).toInt32) &&& 1431655765)).toUInt32 >>> ((2 : Int32).toUInt32 &&& Int32.toUInt32 31)).toInt32) &&& 858993459)) + (((((x - (((x.toUInt32 >>> ((1 : Int32).toUInt32 &&& Int32.toUInt32 31)).toInt32) &&& 1431655765)) &&& 858993459) + ((((x - (((x.toUInt32 >>> ((1 : Int32).toUInt32 &&& Int32.toUInt32 31)).toInt32) &&& 1431655765)).toUInt32 >>> ((2 : Int32).toUInt32 &&& Int32.toUInt32 31)).toInt32) &&& 858993459)).toUInt32 >>> ((4 : Int32).toUInt32 &&& Int32.toUInt32 31)).toInt32)) &&& 252645135) + (((((((x - (((x.toUInt32 >>> ((1 : Int32).toUInt32 &&& Int32.toUInt32 31)).toInt32) &&& 1431655765)) &&& 858993459) + ((((x - (((x.toUInt32 >>> ((1 : Int32).toUInt32 &&& Int32.toUInt32 31)).toInt32) &&& 1431655765)).toUInt32 >>> ((2 : Int32).toUInt32 &&& Int32.toUInt32 31)).toInt32) &&& 858993459)) + (((((x - (((x.toUInt32 >>> ((1 : Int32).toUInt32 &&& Int32.toUInt32 31)).toInt32) &&& 1431655765)) &&& 858993459) + ((((x - (((x.toUInt32 >>> ((1 : Int32).toUInt32 &&& Int32.toUInt32 31)).toInt32) &&& 1431655765)).toUInt32 >>> ((2 : Int32).toUInt32 &&& Int32.toUInt32 31)).toInt32) &&& 858993459)).toUInt32 >>> ((4 : Int32).toUInt32 &&& Int32.toUInt32 31)).toInt32)) &&& 252645135).toUInt32 >>> ((8 : Int32).toUInt32 &&& Int32.toUInt32 31)).toInt32)))]) X d_JI_bitCount_40 (by decide) rfl ?_
  refine pv_iload_n X 0 d_JI_bitCount_41 rfl ?_
  refine pv_iload_n X 0 d_JI_bitCount_42 rfl ?_
  refine pv_bipush X 16 d_JI_bitCount_43 (by decide) ?_
  refine pv_iushr X d_JI_bitCount_45 ?_
  refine pv_iadd X d_JI_bitCount_46 ?_
  refine pv_istore_n (ll2 := [(0, .int (((((((x - (((x.toUInt32 >>> ((1 : Int32).toUInt32 &&& Int32.toUInt32 31)).toInt32) &&& 1431655765)) &&& 858993459) + ((((x - (((x.toUInt32 >>> ((1 : Int32).toUInt32 &&& Int32.toUInt32 31)).toInt32) &&& 1431655765)).toUInt32 >>> ((2 : Int32).toUInt32 &&& Int32.toUInt32 31)).toInt32) &&& 858993459)) + (((((x - (((x.toUInt32 >>> ((1 : Int32).toUInt32 &&& Int32.toUInt32 31)).toInt32) &&& 1431655765)) &&& 858993459) + ((((x - (((x.toUInt32 >>> ((1 : Int32).toUInt32 &&& Int32.toUInt32 31)).toInt32) &&& 1431655765)).toUInt32 >>> ((2 : Int32).toUInt32 &&& Int32.toUInt32 31)).toInt32) &&& 858993459)).toUInt32 >>> ((4 : Int32).toUInt32 &&& Int32.toUInt32 31)).toInt32)) &&& 252645135) + (((((((x - (((x.toUInt32 >>> ((1 : Int32).toUInt32 &&& Int32.toUInt32 31)).toInt32) &&& 1431655765)) &&& 858993459) + ((((x - (((x.toUInt32 >>> ((1 : Int32).toUInt32 &&& Int32.toUInt32 31)).toInt32) &&& 1431655765)).toUInt32 >>> ((2 : Int32).toUInt32 &&& Int32.toUInt32 31)).toInt32) &&& 858993459)) + (((((x - (((x.toUInt32 >>> ((1 : Int32).toUInt32 &&& Int32.toUInt32 31)).toInt32) &&& 1431655765)) &&& 858993459) + ((((x - (((x.toUInt32 >>> ((1 : Int32).toUInt32 &&& Int32.toUInt32 31)).toInt32) &&& 1431655765)).toUInt32 >>> ((2 : Int32).toUInt32 &&& Int32.toUInt32 31)).toInt32) &&& 858993459)).toUInt32 >>> ((4 : Int32).toUInt32 &&& Int32.toUInt32 31)).toInt32)) &&& 252645135).toUInt32 >>> ((8 : Int32).toUInt32 &&& Int32.toUInt32 31)).toInt32)) + ((((((((x - (((x.toUInt32 >>> ((1 : Int32).toUInt32 &&& Int32.toUInt32 31)).toInt32) &&& 1431655765)) &&& 858993459) + ((((x - (((x.toUInt32 >>> ((1 : Int32).toUInt32 &&& Int32.toUInt32 31)).toInt32) &&& 1431655765)).toUInt32 >>> ((2 : Int32).toUInt32 &&& Int32.toUInt32 31)).toInt32) &&& 858993459)) + (((((x - (((x.toUInt32 >>> ((1 : Int32).toUInt32 &&& Int32.toUInt32 31)).toInt32) &&& 1431655765)) &&& 858993459) + ((((x - (((x.toUInt32 >>> ((1 : Int32).toUInt32 &&& Int32.toUInt32 31)).toInt32) &&& 1431655765)).toUInt32 >>> ((2 : Int32).toUInt32 &&& Int32.toUInt32 31)).toInt32) &&& 858993459)).toUInt32 >>> ((4 : Int32).toUInt32 &&& Int32.toUInt32 31)).toInt32)) &&& 252645135) + (((((((x - (((x.toUInt32 >>> ((1 : Int32).toUInt32 &&& Int32.toUInt32 31)).toInt32) &&& 1431655765)) &&& 858993459) + ((((x - (((x.toUInt32 >>> ((1 : Int32).toUInt32 &&& Int32.toUInt32 31)).toInt32) &&& 1431655765)).toUInt32 >>> ((2 : Int32).toUInt32 &&& Int32.toUInt32 31)).toInt32) &&& 858993459)) + (((((x - (((x.toUInt32 >>> ((1 : Int32).toUInt32 &&& Int32.toUInt32 31)).toInt32) &&& 1431655765)) &&& 858993459) + ((((x - (((x.toUInt32 >>> ((1 : Int32).toUInt32 &&& Int32.toUInt32 31)).toInt32) &&& 1431655765)).toUInt32 >>> ((2 : Int32).toUInt32 &&& Int32.toUInt32 31)).toInt32) &&& 858993459)).toUInt32 >>> ((4 : Int32).toUInt32 &&& Int32.toUInt32 31)).toInt32)) &&& 252645135).toUInt32 >>> ((8 : Int32).toUInt32 &&& Int32.toUInt32 31)).toInt32)).toUInt32 >>> ((16 : Int32).toUInt32 &&& Int32.toUInt32 31)).toInt32)))]) X d_JI_bitCount_47 (by decide) rfl ?_
  refine pv_iload_n X 0 d_JI_bitCount_48 rfl ?_
  refine pv_bipush X 63 d_JI_bitCount_49 (by decide) ?_
  refine pv_iand X d_JI_bitCount_51 ?_
  exact pv_iret X hr hlk () rfl rfl d_JI_bitCount_52
def f_M_in (v : Int64) (lo : Int64) (hi : Int64) : Int32 := if (lg_cmp v lo) < 0 then 0 else (if 0 < (lg_cmp v hi) then 0 else 1)
theorem bo_M_in (v : Int64) (lo : Int64) (hi : Int64) : Bo (f_M_in v lo hi) := by
  unfold f_M_in
  repeat (first | with_reducible exact bo_0 | with_reducible exact bo_1 | split)
abbrev rm_M_in : Room := { frames := 0, cells := 0, slots := 0, locals := 0 }
theorem mf_M_in : MF y_M_in b_M_in 6 (some .boolean) 3 := ⟨m_664, m_6, by decide, by decide, by decide +kernel⟩
theorem d_M_in_0 : decode b_M_in 0 = .ok (.lload_n 0, 1) := by decide +kernel
theorem d_M_in_1 : decode b_M_in 1 = .ok (.lload_n 2, 1) := by decide +kernel
theorem d_M_in_2 : decode b_M_in 2 = .ok (.lcmp, 1) := by decide +kernel
theorem d_M_in_3 : decode b_M_in 3 = .ok (.ifCond .lt 14, 3) := by decide +kernel
theorem d_M_in_6 : decode b_M_in 6 = .ok (.lload_n 0, 1) := by decide +kernel
theorem d_M_in_7 : decode b_M_in 7 = .ok (.lload 4, 2) := by decide +kernel
theorem d_M_in_9 : decode b_M_in 9 = .ok (.lcmp, 1) := by decide +kernel
theorem d_M_in_10 : decode b_M_in 10 = .ok (.ifCond .gt 7, 3) := by decide +kernel
theorem d_M_in_13 : decode b_M_in 13 = .ok (.iconst 1, 1) := by decide +kernel
theorem d_M_in_14 : decode b_M_in 14 = .ok (.goto 4, 3) := by decide +kernel
theorem d_M_in_17 : decode b_M_in 17 = .ok (.iconst 0, 1) := by decide +kernel
theorem d_M_in_18 : decode b_M_in 18 = .ok (.ireturn, 1) := by decide +kernel
set_option maxRecDepth 100000 in
set_option maxHeartbeats 4000000 in
theorem c_M_in (l : Launch) (G : Gt) (v : Int64) (lo : Int64) (hi : Int64) : CtI l G y_M_in b_M_in 6 (some .boolean) rm_M_in E0 [.long v, .long lo, .long hi] [] (fun r (_ : Unit) => r = f_M_in v lo hi) (fun _ => []) 0 0 := by
  refine Ct.of (Qp := fun A => va_Qi _ (qB G A _) A) Stb_0 (by decide) (Nat.le_of_ble_eq_true rfl) ?_
  intro p e s m args below meth c A X hE hr hlk hini
  refine pv_eql (ll2 := [(0, .long v), (2, .long lo), (4, .long hi)]) rfl ?_
  refine pv_lload_n X 0 d_M_in_0 rfl ?_
  refine pv_lload_n X 1 d_M_in_1 rfl ?_
  refine pv_lcmp X d_M_in_2 ?_
  refine pv_if_lt X 17 d_M_in_3 rfl (fun h1 => ?_) (fun h1n => ?_)
  · skip
    refine pv_iconst X 0 d_M_in_17 (by decide) ?_
    exact pv_zret X hr hlk rfl () (by show _ = f_M_in v lo hi; unfold f_M_in; rw [if_pos h1]) rfl d_M_in_18
  · skip
    refine pv_lload_n X 0 d_M_in_6 rfl ?_
    refine pv_lload X 2 d_M_in_7 rfl ?_
    refine pv_lcmp X d_M_in_9 ?_
    refine pv_if_gt X 17 d_M_in_10 rfl (fun h2 => ?_) (fun h2n => ?_)
    · skip
      refine pv_iconst X 0 d_M_in_17 (by decide) ?_
      exact pv_zret X hr hlk rfl () (by show _ = f_M_in v lo hi; unfold f_M_in; rw [if_neg h1n, if_pos h2]) rfl d_M_in_18
    · skip
      refine pv_iconst X 1 d_M_in_13 (by decide) ?_
      refine pv_goto X 18 d_M_in_14 rfl ?_
      exact pv_zret X hr hlk rfl () (by show _ = f_M_in v lo hi; unfold f_M_in; rw [if_neg h1n, if_neg h2n]) rfl d_M_in_18
def f_M_bit (v : Int64) (k : Int32) (n : Int32) : Int64 := ((v.toUInt64 >>> ((n - k).toInt64.toUInt64 &&& Int64.toUInt64 63)).toInt64) &&& (1 : Int64)
abbrev rm_M_bit : Room := { frames := 0, cells := 0, slots := 0, locals := 0 }
theorem mf_M_bit : MF y_M_bit b_M_bit 4 (some .long) 3 := ⟨m_696, m_6, by decide, by decide, by decide +kernel⟩
theorem d_M_bit_0 : decode b_M_bit 0 = .ok (.lload_n 0, 1) := by decide +kernel
theorem d_M_bit_1 : decode b_M_bit 1 = .ok (.iload_n 3, 1) := by decide +kernel
theorem d_M_bit_2 : decode b_M_bit 2 = .ok (.iload_n 2, 1) := by decide +kernel
theorem d_M_bit_3 : decode b_M_bit 3 = .ok (.isub, 1) := by decide +kernel
theorem d_M_bit_4 : decode b_M_bit 4 = .ok (.lushr, 1) := by decide +kernel
theorem d_M_bit_5 : decode b_M_bit 5 = .ok (.lconst 1, 1) := by decide +kernel
theorem d_M_bit_6 : decode b_M_bit 6 = .ok (.land, 1) := by decide +kernel
theorem d_M_bit_7 : decode b_M_bit 7 = .ok (.lreturn, 1) := by decide +kernel
set_option maxRecDepth 100000 in
set_option maxHeartbeats 4000000 in
theorem c_M_bit (l : Launch) (G : Gt) (v : Int64) (k : Int32) (n : Int32) : CtL l G y_M_bit b_M_bit 4 (some .long) rm_M_bit E0 [.long v, .int k, .int n] [] (fun r (_ : Unit) => r = f_M_bit v k n) (fun _ => []) 0 0 := by
  refine Ct.of (Qp := fun A => va_Ql _ (qB G A _) A) Stb_0 (by decide) (Nat.le_of_ble_eq_true rfl) ?_
  intro p e s m args below meth c A X hE hr hlk hini
  refine pv_eql (ll2 := [(0, .long v), (2, .int k), (3, .int n)]) rfl ?_
  refine pv_lload_n X 0 d_M_bit_0 rfl ?_
  refine pv_iload_n X 2 d_M_bit_1 rfl ?_
  refine pv_iload_n X 1 d_M_bit_2 rfl ?_
  refine pv_isub X d_M_bit_3 ?_
  refine pv_lushr X d_M_bit_4 ?_
  refine pv_lconst X 1 d_M_bit_5 (by decide) ?_
  refine pv_land X d_M_bit_6 ?_
  exact pv_lret X hr hlk () rfl rfl d_M_bit_7
def f_M_initial (k : Int32) : Int32 := if 4 ≤ (k / 8) then ((57 + (2 * ((k / 8) - 4))) - (8 * (k - k / 8 * 8))) else ((58 + (2 * (k / 8))) - (8 * (k - k / 8 * 8)))
abbrev rm_M_initial : Room := { frames := 0, cells := 0, slots := 0, locals := 0 }
theorem mf_M_initial : MF y_M_initial b_M_initial 2 (some .int) 1 := ⟨m_700, m_6, by decide, by decide, by decide +kernel⟩
theorem d_M_initial_0 : decode b_M_initial 0 = .ok (.iload_n 0, 1) := by decide +kernel
theorem d_M_initial_1 : decode b_M_initial 1 = .ok (.bipush 8, 2) := by decide +kernel
theorem d_M_initial_3 : decode b_M_initial 3 = .ok (.idiv, 1) := by decide +kernel
theorem d_M_initial_4 : decode b_M_initial 4 = .ok (.istore_n 1, 1) := by decide +kernel
theorem d_M_initial_5 : decode b_M_initial 5 = .ok (.iload_n 1, 1) := by decide +kernel
theorem d_M_initial_6 : decode b_M_initial 6 = .ok (.iconst 4, 1) := by decide +kernel
theorem d_M_initial_7 : decode b_M_initial 7 = .ok (.if_icmp .ge 12, 3) := by decide +kernel
theorem d_M_initial_10 : decode b_M_initial 10 = .ok (.bipush 58, 2) := by decide +kernel
theorem d_M_initial_12 : decode b_M_initial 12 = .ok (.iconst 2, 1) := by decide +kernel
theorem d_M_initial_13 : decode b_M_initial 13 = .ok (.iload_n 1, 1) := by decide +kernel
theorem d_M_initial_14 : decode b_M_initial 14 = .ok (.imul, 1) := by decide +kernel
theorem d_M_initial_15 : decode b_M_initial 15 = .ok (.iadd, 1) := by decide +kernel
theorem d_M_initial_16 : decode b_M_initial 16 = .ok (.goto 11, 3) := by decide +kernel
theorem d_M_initial_19 : decode b_M_initial 19 = .ok (.bipush 57, 2) := by decide +kernel
theorem d_M_initial_21 : decode b_M_initial 21 = .ok (.iconst 2, 1) := by decide +kernel
theorem d_M_initial_22 : decode b_M_initial 22 = .ok (.iload_n 1, 1) := by decide +kernel
theorem d_M_initial_23 : decode b_M_initial 23 = .ok (.iconst 4, 1) := by decide +kernel
theorem d_M_initial_24 : decode b_M_initial 24 = .ok (.isub, 1) := by decide +kernel
theorem d_M_initial_25 : decode b_M_initial 25 = .ok (.imul, 1) := by decide +kernel
theorem d_M_initial_26 : decode b_M_initial 26 = .ok (.iadd, 1) := by decide +kernel
theorem d_M_initial_27 : decode b_M_initial 27 = .ok (.bipush 8, 2) := by decide +kernel
theorem d_M_initial_29 : decode b_M_initial 29 = .ok (.iload_n 0, 1) := by decide +kernel
theorem d_M_initial_30 : decode b_M_initial 30 = .ok (.bipush 8, 2) := by decide +kernel
theorem d_M_initial_32 : decode b_M_initial 32 = .ok (.irem, 1) := by decide +kernel
theorem d_M_initial_33 : decode b_M_initial 33 = .ok (.imul, 1) := by decide +kernel
theorem d_M_initial_34 : decode b_M_initial 34 = .ok (.isub, 1) := by decide +kernel
theorem d_M_initial_35 : decode b_M_initial 35 = .ok (.ireturn, 1) := by decide +kernel
set_option maxRecDepth 100000 in
set_option maxHeartbeats 4000000 in
theorem c_M_initial (l : Launch) (G : Gt) (k : Int32) : CtI l G y_M_initial b_M_initial 2 (some .int) rm_M_initial E0 [.int k] [] (fun r (_ : Unit) => r = f_M_initial k) (fun _ => []) 0 0 := by
  refine Ct.of (Qp := fun A => va_Qi _ (qB G A _) A) Stb_0 (by decide) (Nat.le_of_ble_eq_true rfl) ?_
  intro p e s m args below meth c A X hE hr hlk hini
  refine pv_eql (ll2 := [(0, .int k)]) rfl ?_
  refine pv_iload_n X 0 d_M_initial_0 rfl ?_
  refine pv_bipush X 8 d_M_initial_1 (by decide) ?_
  refine pv_idiv X d_M_initial_3 (by decide) ?_
  refine pv_istore_n (ll2 := [(1, .int (k / 8)), (0, .int k)]) X d_M_initial_4 (by decide) rfl ?_
  refine pv_iload_n X 0 d_M_initial_5 rfl ?_
  refine pv_iconst X 4 d_M_initial_6 (by decide) ?_
  refine pv_icmp_ge X 19 d_M_initial_7 rfl (fun h1 => ?_) (fun h1n => ?_)
  · skip
    refine pv_bipush X 57 d_M_initial_19 (by decide) ?_
    refine pv_iconst X 2 d_M_initial_21 (by decide) ?_
    refine pv_iload_n X 0 d_M_initial_22 rfl ?_
    refine pv_iconst X 4 d_M_initial_23 (by decide) ?_
    refine pv_isub X d_M_initial_24 ?_
    refine pv_imul X d_M_initial_25 ?_
    refine pv_iadd X d_M_initial_26 ?_
    refine pv_bipush X 8 d_M_initial_27 (by decide) ?_
    refine pv_iload_n X 1 d_M_initial_29 rfl ?_
    refine pv_bipush X 8 d_M_initial_30 (by decide) ?_
    refine pv_irem X d_M_initial_32 (by decide) ?_
    refine pv_imul X d_M_initial_33 ?_
    refine pv_isub X d_M_initial_34 ?_
    exact pv_iret X hr hlk () (by show _ = f_M_initial k; unfold f_M_initial; rw [if_pos h1]) rfl d_M_initial_35
  · skip
    refine pv_bipush X 58 d_M_initial_10 (by decide) ?_
    refine pv_iconst X 2 d_M_initial_12 (by decide) ?_
    refine pv_iload_n X 0 d_M_initial_13 rfl ?_
    refine pv_imul X d_M_initial_14 ?_
    refine pv_iadd X d_M_initial_15 ?_
    refine pv_goto X 27 d_M_initial_16 rfl ?_
    refine pv_bipush X 8 d_M_initial_27 (by decide) ?_
    refine pv_iload_n X 1 d_M_initial_29 rfl ?_
    refine pv_bipush X 8 d_M_initial_30 (by decide) ?_
    refine pv_irem X d_M_initial_32 (by decide) ?_
    refine pv_imul X d_M_initial_33 ?_
    refine pv_isub X d_M_initial_34 ?_
    exact pv_iret X hr hlk () (by show _ = f_M_initial k; unfold f_M_initial; rw [if_neg h1n]) rfl d_M_initial_35
def f_M_isSlot (k : Int32) : Int32 := f_M_in k.toInt64 (0 : Int64) (15 : Int64)
theorem bo_M_isSlot (k : Int32) : Bo (f_M_isSlot k) := by
  unfold f_M_isSlot
  repeat (first | with_reducible exact bo_0 | with_reducible exact bo_1 | with_reducible exact bo_M_in _ _ _ | split)
abbrev rm_M_isSlot : Room := { frames := 1, cells := 0, slots := 0, locals := 25 }
theorem mf_M_isSlot : MF y_M_isSlot b_M_isSlot 1 (some .boolean) 1 := ⟨m_726, m_6, by decide, by decide, by decide +kernel⟩
theorem d_M_isSlot_0 : decode b_M_isSlot 0 = .ok (.iload_n 0, 1) := by decide +kernel
theorem d_M_isSlot_1 : decode b_M_isSlot 1 = .ok (.i2l, 1) := by decide +kernel
theorem d_M_isSlot_2 : decode b_M_isSlot 2 = .ok (.lconst 0, 1) := by decide +kernel
theorem d_M_isSlot_3 : decode b_M_isSlot 3 = .ok (.ldc2_w 135, 3) := by decide +kernel
theorem d_M_isSlot_6 : decode b_M_isSlot 6 = .ok (.invokestatic 104, 3) := by decide +kernel
theorem d_M_isSlot_9 : decode b_M_isSlot 9 = .ok (.ireturn, 1) := by decide +kernel
set_option maxRecDepth 100000 in
set_option maxHeartbeats 4000000 in
theorem c_M_isSlot (l : Launch) (G : Gt) (k : Int32) : CtI l G y_M_isSlot b_M_isSlot 1 (some .boolean) rm_M_isSlot E0 [.int k] [] (fun r (_ : Unit) => r = f_M_isSlot k) (fun _ => []) 0 0 := by
  refine Ct.of (Qp := fun A => va_Qi _ (qB G A _) A) Stb_0 (by decide) (Nat.le_of_ble_eq_true rfl) ?_
  intro p e s m args below meth c A X hE hr hlk hini
  refine pv_eql (ll2 := [(0, .int k)]) rfl ?_
  refine pv_iload_n X 0 d_M_isSlot_0 rfl ?_
  refine pv_i2l X d_M_isSlot_1 ?_
  refine pv_lconst X 0 d_M_isSlot_2 (by decide) ?_
  refine pv_ldc2_w X m_727 d_M_isSlot_3 ?_
  refine pv_calli0 X (rn_S X (c_M_in l G k.toInt64 (0 : Int64) (15 : Int64)) trivial mf_M_in m_662 m_663 rfl (by decide) (by decide) rfl (Nat.le_of_ble_eq_true rfl) d_M_isSlot_6) ?_
  exact pv_zret X hr hlk (bo_M_in _ _ _).nar () rfl rfl d_M_isSlot_9
def f_M_letter (u : Int32) : Int64 := if u = 0 then (80 : Int64) else (if u = 1 then (77 : Int64) else (if u = 2 then (66 : Int64) else (79 : Int64)))
abbrev rm_M_letter : Room := { frames := 0, cells := 0, slots := 0, locals := 0 }
theorem mf_M_letter : MF y_M_letter b_M_letter 1 (some .long) 1 := ⟨m_751, m_6, by decide, by decide, by decide +kernel⟩
theorem d_M_letter_0 : decode b_M_letter 0 = .ok (.iload_n 0, 1) := by decide +kernel
theorem d_M_letter_1 : decode b_M_letter 1 = .ok (.ifCond .ne 9, 3) := by decide +kernel
theorem d_M_letter_4 : decode b_M_letter 4 = .ok (.ldc2_w 147, 3) := by decide +kernel
theorem d_M_letter_7 : decode b_M_letter 7 = .ok (.goto 28, 3) := by decide +kernel
theorem d_M_letter_10 : decode b_M_letter 10 = .ok (.iload_n 0, 1) := by decide +kernel
theorem d_M_letter_11 : decode b_M_letter 11 = .ok (.iconst 1, 1) := by decide +kernel
theorem d_M_letter_12 : decode b_M_letter 12 = .ok (.if_icmp .ne 9, 3) := by decide +kernel
theorem d_M_letter_15 : decode b_M_letter 15 = .ok (.ldc2_w 149, 3) := by decide +kernel
theorem d_M_letter_18 : decode b_M_letter 18 = .ok (.goto 17, 3) := by decide +kernel
theorem d_M_letter_21 : decode b_M_letter 21 = .ok (.iload_n 0, 1) := by decide +kernel
theorem d_M_letter_22 : decode b_M_letter 22 = .ok (.iconst 2, 1) := by decide +kernel
theorem d_M_letter_23 : decode b_M_letter 23 = .ok (.if_icmp .ne 9, 3) := by decide +kernel
theorem d_M_letter_26 : decode b_M_letter 26 = .ok (.ldc2_w 151, 3) := by decide +kernel
theorem d_M_letter_29 : decode b_M_letter 29 = .ok (.goto 6, 3) := by decide +kernel
theorem d_M_letter_32 : decode b_M_letter 32 = .ok (.ldc2_w 153, 3) := by decide +kernel
theorem d_M_letter_35 : decode b_M_letter 35 = .ok (.lreturn, 1) := by decide +kernel
set_option maxRecDepth 100000 in
set_option maxHeartbeats 4000000 in
theorem c_M_letter (l : Launch) (G : Gt) (u : Int32) : CtL l G y_M_letter b_M_letter 1 (some .long) rm_M_letter E0 [.int u] [] (fun r (_ : Unit) => r = f_M_letter u) (fun _ => []) 0 0 := by
  refine Ct.of (Qp := fun A => va_Ql _ (qB G A _) A) Stb_0 (by decide) (Nat.le_of_ble_eq_true rfl) ?_
  intro p e s m args below meth c A X hE hr hlk hini
  refine pv_eql (ll2 := [(0, .int u)]) rfl ?_
  refine pv_iload_n X 0 d_M_letter_0 rfl ?_
  refine pv_if_ne X 10 d_M_letter_1 rfl (fun h1 => ?_) (fun h1n => ?_)
  · skip
    refine pv_iload_n X 0 d_M_letter_10 rfl ?_
    refine pv_iconst X 1 d_M_letter_11 (by decide) ?_
    refine pv_icmp_ne X 21 d_M_letter_12 rfl (fun h2 => ?_) (fun h2n => ?_)
    · skip
      refine pv_iload_n X 0 d_M_letter_21 rfl ?_
      refine pv_iconst X 2 d_M_letter_22 (by decide) ?_
      refine pv_icmp_ne X 32 d_M_letter_23 rfl (fun h3 => ?_) (fun h3n => ?_)
      · skip
        refine pv_ldc2_w X m_755 d_M_letter_32 ?_
        exact pv_lret X hr hlk () (by show _ = f_M_letter u; unfold f_M_letter; rw [if_neg h1, if_neg h2, if_neg h3]) rfl d_M_letter_35
      · skip
        refine pv_ldc2_w X m_754 d_M_letter_26 ?_
        refine pv_goto X 35 d_M_letter_29 rfl ?_
        exact pv_lret X hr hlk () (by show _ = f_M_letter u; unfold f_M_letter; rw [if_neg h1, if_neg h2, if_pos h3n]) rfl d_M_letter_35
    · skip
      refine pv_ldc2_w X m_753 d_M_letter_15 ?_
      refine pv_goto X 35 d_M_letter_18 rfl ?_
      exact pv_lret X hr hlk () (by show _ = f_M_letter u; unfold f_M_letter; rw [if_neg h1, if_pos h2n]) rfl d_M_letter_35
  · skip
    refine pv_ldc2_w X m_752 d_M_letter_4 ?_
    refine pv_goto X 35 d_M_letter_7 rfl ?_
    exact pv_lret X hr hlk () (by show _ = f_M_letter u; unfold f_M_letter; rw [if_pos h1n]) rfl d_M_letter_35
def f_M_header (u : Int32) : Int64 := (((((5422896901307498496 : Int64) ||| ((f_M_letter u) <<< ((40 : Int32).toInt64 &&& 63))) ||| (360777252864 : Int64)) ||| (1124073472 : Int64)) ||| (3211264 : Int64)) ||| (17664 : Int64)
abbrev rm_M_header : Room := { frames := 1, cells := 0, slots := 0, locals := 20 }
theorem mf_M_header : MF y_M_header b_M_header 1 (some .long) 1 := ⟨m_747, m_6, by decide, by decide, by decide +kernel⟩
theorem d_M_header_0 : decode b_M_header 0 = .ok (.ldc2_w 155, 3) := by decide +kernel
theorem d_M_header_3 : decode b_M_header 3 = .ok (.iload_n 0, 1) := by decide +kernel
theorem d_M_header_4 : decode b_M_header 4 = .ok (.invokestatic 157, 3) := by decide +kernel
theorem d_M_header_7 : decode b_M_header 7 = .ok (.bipush 40, 2) := by decide +kernel
theorem d_M_header_9 : decode b_M_header 9 = .ok (.lshl, 1) := by decide +kernel
theorem d_M_header_10 : decode b_M_header 10 = .ok (.lor, 1) := by decide +kernel
theorem d_M_header_11 : decode b_M_header 11 = .ok (.ldc2_w 161, 3) := by decide +kernel
theorem d_M_header_14 : decode b_M_header 14 = .ok (.lor, 1) := by decide +kernel
theorem d_M_header_15 : decode b_M_header 15 = .ok (.ldc2_w 163, 3) := by decide +kernel
theorem d_M_header_18 : decode b_M_header 18 = .ok (.lor, 1) := by decide +kernel
theorem d_M_header_19 : decode b_M_header 19 = .ok (.ldc2_w 165, 3) := by decide +kernel
theorem d_M_header_22 : decode b_M_header 22 = .ok (.lor, 1) := by decide +kernel
theorem d_M_header_23 : decode b_M_header 23 = .ok (.ldc2_w 167, 3) := by decide +kernel
theorem d_M_header_26 : decode b_M_header 26 = .ok (.lor, 1) := by decide +kernel
theorem d_M_header_27 : decode b_M_header 27 = .ok (.lreturn, 1) := by decide +kernel
set_option maxRecDepth 100000 in
set_option maxHeartbeats 4000000 in
theorem c_M_header (l : Launch) (G : Gt) (u : Int32) : CtL l G y_M_header b_M_header 1 (some .long) rm_M_header E0 [.int u] [] (fun r (_ : Unit) => r = f_M_header u) (fun _ => []) 0 0 := by
  refine Ct.of (Qp := fun A => va_Ql _ (qB G A _) A) Stb_0 (by decide) (Nat.le_of_ble_eq_true rfl) ?_
  intro p e s m args below meth c A X hE hr hlk hini
  refine pv_eql (ll2 := [(0, .int u)]) rfl ?_
  refine pv_ldc2_w X m_748 d_M_header_0 ?_
  refine pv_iload_n X 0 d_M_header_3 rfl ?_
  refine pv_calll0 X (rn_S X (c_M_letter l G u) trivial mf_M_letter m_749 m_750 rfl (by decide) (by decide) rfl (Nat.le_of_ble_eq_true rfl) d_M_header_4) ?_
  refine pv_bipush X 40 d_M_header_7 (by decide) ?_
  refine pv_lshl X d_M_header_9 ?_
  refine pv_lor X d_M_header_10 ?_
  refine pv_ldc2_w X m_756 d_M_header_11 ?_
  refine pv_lor X d_M_header_14 ?_
  refine pv_ldc2_w X m_757 d_M_header_15 ?_
  refine pv_lor X d_M_header_18 ?_
  refine pv_ldc2_w X m_758 d_M_header_19 ?_
  refine pv_lor X d_M_header_22 ?_
  refine pv_ldc2_w X m_759 d_M_header_23 ?_
  refine pv_lor X d_M_header_26 ?_
  exact pv_lret X hr hlk () rfl rfl d_M_header_27
def f_M_isTerminal (k : Int32) : Int32 := f_M_in k.toInt64 (0 : Int64) (7 : Int64)
theorem bo_M_isTerminal (k : Int32) : Bo (f_M_isTerminal k) := by
  unfold f_M_isTerminal
  repeat (first | with_reducible exact bo_0 | with_reducible exact bo_1 | with_reducible exact bo_M_in _ _ _ | split)
abbrev rm_M_isTerminal : Room := { frames := 1, cells := 0, slots := 0, locals := 25 }
theorem mf_M_isTerminal : MF y_M_isTerminal b_M_isTerminal 1 (some .boolean) 1 := ⟨m_782, m_6, by decide, by decide, by decide +kernel⟩
theorem d_M_isTerminal_0 : decode b_M_isTerminal 0 = .ok (.iload_n 0, 1) := by decide +kernel
theorem d_M_isTerminal_1 : decode b_M_isTerminal 1 = .ok (.i2l, 1) := by decide +kernel
theorem d_M_isTerminal_2 : decode b_M_isTerminal 2 = .ok (.lconst 0, 1) := by decide +kernel
theorem d_M_isTerminal_3 : decode b_M_isTerminal 3 = .ok (.ldc2_w 133, 3) := by decide +kernel
theorem d_M_isTerminal_6 : decode b_M_isTerminal 6 = .ok (.invokestatic 104, 3) := by decide +kernel
theorem d_M_isTerminal_9 : decode b_M_isTerminal 9 = .ok (.ireturn, 1) := by decide +kernel
set_option maxRecDepth 100000 in
set_option maxHeartbeats 4000000 in
theorem c_M_isTerminal (l : Launch) (G : Gt) (k : Int32) : CtI l G y_M_isTerminal b_M_isTerminal 1 (some .boolean) rm_M_isTerminal E0 [.int k] [] (fun r (_ : Unit) => r = f_M_isTerminal k) (fun _ => []) 0 0 := by
  refine Ct.of (Qp := fun A => va_Qi _ (qB G A _) A) Stb_0 (by decide) (Nat.le_of_ble_eq_true rfl) ?_
  intro p e s m args below meth c A X hE hr hlk hini
  refine pv_eql (ll2 := [(0, .int k)]) rfl ?_
  refine pv_iload_n X 0 d_M_isTerminal_0 rfl ?_
  refine pv_i2l X d_M_isTerminal_1 ?_
  refine pv_lconst X 0 d_M_isTerminal_2 (by decide) ?_
  refine pv_ldc2_w X m_719 d_M_isTerminal_3 ?_
  refine pv_calli0 X (rn_S X (c_M_in l G k.toInt64 (0 : Int64) (7 : Int64)) trivial mf_M_in m_662 m_663 rfl (by decide) (by decide) rfl (Nat.le_of_ble_eq_true rfl) d_M_isTerminal_6) ?_
  exact pv_zret X hr hlk (bo_M_in _ _ _).nar () rfl rfl d_M_isTerminal_9
def f_M_isFormat (f : Int32) : Int32 := if f = 0 then 1 else (if f = 1 then 1 else (if f = 3 then 1 else 0))
theorem bo_M_isFormat (f : Int32) : Bo (f_M_isFormat f) := by
  unfold f_M_isFormat
  repeat (first | with_reducible exact bo_0 | with_reducible exact bo_1 | split)
abbrev rm_M_isFormat : Room := { frames := 0, cells := 0, slots := 0, locals := 0 }
theorem mf_M_isFormat : MF y_M_isFormat b_M_isFormat 1 (some .boolean) 1 := ⟨m_817, m_6, by decide, by decide, by decide +kernel⟩
theorem d_M_isFormat_0 : decode b_M_isFormat 0 = .ok (.iload_n 0, 1) := by decide +kernel
theorem d_M_isFormat_1 : decode b_M_isFormat 1 = .ok (.ifCond .eq 13, 3) := by decide +kernel
theorem d_M_isFormat_4 : decode b_M_isFormat 4 = .ok (.iload_n 0, 1) := by decide +kernel
theorem d_M_isFormat_5 : decode b_M_isFormat 5 = .ok (.iconst 1, 1) := by decide +kernel
theorem d_M_isFormat_6 : decode b_M_isFormat 6 = .ok (.if_icmp .eq 8, 3) := by decide +kernel
theorem d_M_isFormat_9 : decode b_M_isFormat 9 = .ok (.iload_n 0, 1) := by decide +kernel
theorem d_M_isFormat_10 : decode b_M_isFormat 10 = .ok (.iconst 3, 1) := by decide +kernel
theorem d_M_isFormat_11 : decode b_M_isFormat 11 = .ok (.if_icmp .ne 7, 3) := by decide +kernel
theorem d_M_isFormat_14 : decode b_M_isFormat 14 = .ok (.iconst 1, 1) := by decide +kernel
theorem d_M_isFormat_15 : decode b_M_isFormat 15 = .ok (.goto 4, 3) := by decide +kernel
theorem d_M_isFormat_18 : decode b_M_isFormat 18 = .ok (.iconst 0, 1) := by decide +kernel
theorem d_M_isFormat_19 : decode b_M_isFormat 19 = .ok (.ireturn, 1) := by decide +kernel
set_option maxRecDepth 100000 in
set_option maxHeartbeats 4000000 in
theorem c_M_isFormat (l : Launch) (G : Gt) (f : Int32) : CtI l G y_M_isFormat b_M_isFormat 1 (some .boolean) rm_M_isFormat E0 [.int f] [] (fun r (_ : Unit) => r = f_M_isFormat f) (fun _ => []) 0 0 := by
  refine Ct.of (Qp := fun A => va_Qi _ (qB G A _) A) Stb_0 (by decide) (Nat.le_of_ble_eq_true rfl) ?_
  intro p e s m args below meth c A X hE hr hlk hini
  refine pv_eql (ll2 := [(0, .int f)]) rfl ?_
  refine pv_iload_n X 0 d_M_isFormat_0 rfl ?_
  refine pv_if_eq X 14 d_M_isFormat_1 rfl (fun h1 => ?_) (fun h1n => ?_)
  · skip
    refine pv_iconst X 1 d_M_isFormat_14 (by decide) ?_
    refine pv_goto X 19 d_M_isFormat_15 rfl ?_
    exact pv_zret X hr hlk rfl () (by show _ = f_M_isFormat f; unfold f_M_isFormat; rw [if_pos h1]) rfl d_M_isFormat_19
  · skip
    refine pv_iload_n X 0 d_M_isFormat_4 rfl ?_
    refine pv_iconst X 1 d_M_isFormat_5 (by decide) ?_
    refine pv_icmp_eq X 14 d_M_isFormat_6 rfl (fun h2 => ?_) (fun h2n => ?_)
    · skip
      refine pv_iconst X 1 d_M_isFormat_14 (by decide) ?_
      refine pv_goto X 19 d_M_isFormat_15 rfl ?_
      exact pv_zret X hr hlk rfl () (by show _ = f_M_isFormat f; unfold f_M_isFormat; rw [if_neg h1n, if_pos h2]) rfl d_M_isFormat_19
    · skip
      refine pv_iload_n X 0 d_M_isFormat_9 rfl ?_
      refine pv_iconst X 3 d_M_isFormat_10 (by decide) ?_
      refine pv_icmp_ne X 18 d_M_isFormat_11 rfl (fun h3 => ?_) (fun h3n => ?_)
      · skip
        refine pv_iconst X 0 d_M_isFormat_18 (by decide) ?_
        exact pv_zret X hr hlk rfl () (by show _ = f_M_isFormat f; unfold f_M_isFormat; rw [if_neg h1n, if_neg h2n, if_neg h3]) rfl d_M_isFormat_19
      · skip
        refine pv_iconst X 1 d_M_isFormat_14 (by decide) ?_
        refine pv_goto X 19 d_M_isFormat_15 rfl ?_
        exact pv_zret X hr hlk rfl () (by show _ = f_M_isFormat f; unfold f_M_isFormat; rw [if_neg h1n, if_neg h2n, if_pos h3n]) rfl d_M_isFormat_19
def f_M_accountPart (a : Int64) : Int64 := ((a.toUInt64 >>> ((4 : Int32).toInt64.toUInt64 &&& Int64.toUInt64 63)).toInt64) &&& (281474976710655 : Int64)
abbrev rm_M_accountPart : Room := { frames := 0, cells := 0, slots := 0, locals := 0 }
theorem mf_M_accountPart : MF y_M_accountPart b_M_accountPart 2 (some .long) 1 := ⟨m_842, m_6, by decide, by decide, by decide +kernel⟩
theorem d_M_accountPart_0 : decode b_M_accountPart 0 = .ok (.lload_n 0, 1) := by decide +kernel
theorem d_M_accountPart_1 : decode b_M_accountPart 1 = .ok (.iconst 4, 1) := by decide +kernel
theorem d_M_accountPart_2 : decode b_M_accountPart 2 = .ok (.lushr, 1) := by decide +kernel
theorem d_M_accountPart_3 : decode b_M_accountPart 3 = .ok (.ldc2_w 185, 3) := by decide +kernel
theorem d_M_accountPart_6 : decode b_M_accountPart 6 = .ok (.land, 1) := by decide +kernel
theorem d_M_accountPart_7 : decode b_M_accountPart 7 = .ok (.lreturn, 1) := by decide +kernel
set_option maxRecDepth 100000 in
set_option maxHeartbeats 4000000 in
theorem c_M_accountPart (l : Launch) (G : Gt) (a : Int64) : CtL l G y_M_accountPart b_M_accountPart 2 (some .long) rm_M_accountPart E0 [.long a] [] (fun r (_ : Unit) => r = f_M_accountPart a) (fun _ => []) 0 0 := by
  refine Ct.of (Qp := fun A => va_Ql _ (qB G A _) A) Stb_0 (by decide) (Nat.le_of_ble_eq_true rfl) ?_
  intro p e s m args below meth c A X hE hr hlk hini
  refine pv_eql (ll2 := [(0, .long a)]) rfl ?_
  refine pv_lload_n X 0 d_M_accountPart_0 rfl ?_
  refine pv_iconst X 4 d_M_accountPart_1 (by decide) ?_
  refine pv_lushr X d_M_accountPart_2 ?_
  refine pv_ldc2_w X m_775 d_M_accountPart_3 ?_
  refine pv_land X d_M_accountPart_6 ?_
  exact pv_lret X hr hlk () rfl rfl d_M_accountPart_7
def f_M_form (f : Int32) (n : Int32) (d : Int64) (a : Int64) (z : Int64) : Int64 := if f = 0 then (if f = 1 then ((((f.toInt64 <<< ((60 : Int32).toInt64 &&& 63)) ||| (n.toInt64 <<< ((56 : Int32).toInt64 &&& 63))) ||| (d <<< ((4 * (14 - n)).toInt64 &&& 63))) ||| (((1 : Int64) <<< ((4 * (14 - n)).toInt64 &&& 63)) - (1 : Int64))) else (((((f.toInt64 <<< ((60 : Int32).toInt64 &&& 63)) ||| (n.toInt64 <<< ((56 : Int32).toInt64 &&& 63))) ||| (d <<< ((4 * (14 - n)).toInt64 &&& 63))) ||| (((1 : Int64) <<< ((4 * (14 - n)).toInt64 &&& 63)) - (1 : Int64))) ^^^ (f_M_accountPart a))) else (if f = 1 then ((((f.toInt64 <<< ((60 : Int32).toInt64 &&& 63)) ||| (n.toInt64 <<< ((56 : Int32).toInt64 &&& 63))) ||| (d <<< ((4 * (14 - n)).toInt64 &&& 63))) ||| (z &&& (((1 : Int64) <<< ((4 * (14 - n)).toInt64 &&& 63)) - (1 : Int64)))) else (((((f.toInt64 <<< ((60 : Int32).toInt64 &&& 63)) ||| (n.toInt64 <<< ((56 : Int32).toInt64 &&& 63))) ||| (d <<< ((4 * (14 - n)).toInt64 &&& 63))) ||| (z &&& (((1 : Int64) <<< ((4 * (14 - n)).toInt64 &&& 63)) - (1 : Int64)))) ^^^ (f_M_accountPart a)))
abbrev rm_M_form : Room := { frames := 1, cells := 0, slots := 0, locals := 21 }
theorem mf_M_form : MF y_M_form b_M_form 13 (some .long) 5 := ⟨m_839, m_6, by decide, by decide, by decide +kernel⟩
theorem d_M_form_0 : decode b_M_form 0 = .ok (.bipush 14, 2) := by decide +kernel
theorem d_M_form_2 : decode b_M_form 2 = .ok (.iload_n 1, 1) := by decide +kernel
theorem d_M_form_3 : decode b_M_form 3 = .ok (.isub, 1) := by decide +kernel
theorem d_M_form_4 : decode b_M_form 4 = .ok (.istore 8, 2) := by decide +kernel
theorem d_M_form_6 : decode b_M_form 6 = .ok (.lconst 1, 1) := by decide +kernel
theorem d_M_form_7 : decode b_M_form 7 = .ok (.iconst 4, 1) := by decide +kernel
theorem d_M_form_8 : decode b_M_form 8 = .ok (.iload 8, 2) := by decide +kernel
theorem d_M_form_10 : decode b_M_form 10 = .ok (.imul, 1) := by decide +kernel
theorem d_M_form_11 : decode b_M_form 11 = .ok (.lshl, 1) := by decide +kernel
theorem d_M_form_12 : decode b_M_form 12 = .ok (.lconst 1, 1) := by decide +kernel
theorem d_M_form_13 : decode b_M_form 13 = .ok (.lsub, 1) := by decide +kernel
theorem d_M_form_14 : decode b_M_form 14 = .ok (.lstore 9, 2) := by decide +kernel
theorem d_M_form_16 : decode b_M_form 16 = .ok (.iload_n 0, 1) := by decide +kernel
theorem d_M_form_17 : decode b_M_form 17 = .ok (.i2l, 1) := by decide +kernel
theorem d_M_form_18 : decode b_M_form 18 = .ok (.bipush 60, 2) := by decide +kernel
theorem d_M_form_20 : decode b_M_form 20 = .ok (.lshl, 1) := by decide +kernel
theorem d_M_form_21 : decode b_M_form 21 = .ok (.iload_n 1, 1) := by decide +kernel
theorem d_M_form_22 : decode b_M_form 22 = .ok (.i2l, 1) := by decide +kernel
theorem d_M_form_23 : decode b_M_form 23 = .ok (.bipush 56, 2) := by decide +kernel
theorem d_M_form_25 : decode b_M_form 25 = .ok (.lshl, 1) := by decide +kernel
theorem d_M_form_26 : decode b_M_form 26 = .ok (.lor, 1) := by decide +kernel
theorem d_M_form_27 : decode b_M_form 27 = .ok (.lload_n 2, 1) := by decide +kernel
theorem d_M_form_28 : decode b_M_form 28 = .ok (.iconst 4, 1) := by decide +kernel
theorem d_M_form_29 : decode b_M_form 29 = .ok (.iload 8, 2) := by decide +kernel
theorem d_M_form_31 : decode b_M_form 31 = .ok (.imul, 1) := by decide +kernel
theorem d_M_form_32 : decode b_M_form 32 = .ok (.lshl, 1) := by decide +kernel
theorem d_M_form_33 : decode b_M_form 33 = .ok (.lor, 1) := by decide +kernel
theorem d_M_form_34 : decode b_M_form 34 = .ok (.iload_n 0, 1) := by decide +kernel
theorem d_M_form_35 : decode b_M_form 35 = .ok (.ifCond .ne 8, 3) := by decide +kernel
theorem d_M_form_38 : decode b_M_form 38 = .ok (.lload 9, 2) := by decide +kernel
theorem d_M_form_40 : decode b_M_form 40 = .ok (.goto 8, 3) := by decide +kernel
theorem d_M_form_43 : decode b_M_form 43 = .ok (.lload 6, 2) := by decide +kernel
theorem d_M_form_45 : decode b_M_form 45 = .ok (.lload 9, 2) := by decide +kernel
theorem d_M_form_47 : decode b_M_form 47 = .ok (.land, 1) := by decide +kernel
theorem d_M_form_48 : decode b_M_form 48 = .ok (.lor, 1) := by decide +kernel
theorem d_M_form_49 : decode b_M_form 49 = .ok (.lstore 11, 2) := by decide +kernel
theorem d_M_form_51 : decode b_M_form 51 = .ok (.iload_n 0, 1) := by decide +kernel
theorem d_M_form_52 : decode b_M_form 52 = .ok (.iconst 1, 1) := by decide +kernel
theorem d_M_form_53 : decode b_M_form 53 = .ok (.if_icmp .ne 8, 3) := by decide +kernel
theorem d_M_form_56 : decode b_M_form 56 = .ok (.lload 11, 2) := by decide +kernel
theorem d_M_form_58 : decode b_M_form 58 = .ok (.goto 11, 3) := by decide +kernel
theorem d_M_form_61 : decode b_M_form 61 = .ok (.lload 11, 2) := by decide +kernel
theorem d_M_form_63 : decode b_M_form 63 = .ok (.lload 4, 2) := by decide +kernel
theorem d_M_form_65 : decode b_M_form 65 = .ok (.invokestatic 221, 3) := by decide +kernel
theorem d_M_form_68 : decode b_M_form 68 = .ok (.lxor, 1) := by decide +kernel
theorem d_M_form_69 : decode b_M_form 69 = .ok (.lreturn, 1) := by decide +kernel
set_option maxRecDepth 100000 in
set_option maxHeartbeats 4000000 in
theorem c_M_form (l : Launch) (G : Gt) (f : Int32) (n : Int32) (d : Int64) (a : Int64) (z : Int64) : CtL l G y_M_form b_M_form 13 (some .long) rm_M_form E0 [.int f, .int n, .long d, .long a, .long z] [] (fun r (_ : Unit) => r = f_M_form f n d a z) (fun _ => []) 0 0 := by
  refine Ct.of (Qp := fun A => va_Ql _ (qB G A _) A) Stb_0 (by decide) (Nat.le_of_ble_eq_true rfl) ?_
  intro p e s m args below meth c A X hE hr hlk hini
  refine pv_eql (ll2 := [(0, .int f), (1, .int n), (2, .long d), (4, .long a), (6, .long z)]) rfl ?_
  refine pv_bipush X 14 d_M_form_0 (by decide) ?_
  refine pv_iload_n X 1 d_M_form_2 rfl ?_
  refine pv_isub X d_M_form_3 ?_
  refine pv_istore (ll2 := [(8, .int (14 - n)), (0, .int f), (1, .int n), (2, .long d), (4, .long a), (6, .long z)]) X d_M_form_4 (by decide) rfl ?_
  refine pv_lconst X 1 d_M_form_6 (by decide) ?_
  refine pv_iconst X 4 d_M_form_7 (by decide) ?_
  refine pv_iload X 0 d_M_form_8 rfl ?_
  refine pv_imul X d_M_form_10 ?_
  refine pv_lshl X d_M_form_11 ?_
  refine pv_lconst X 1 d_M_form_12 (by decide) ?_
  refine pv_lsub X d_M_form_13 ?_
  refine pv_lstore (ll2 := [(9, .long (((1 : Int64) <<< ((4 * (14 - n)).toInt64 &&& 63)) - (1 : Int64))), (8, .int (14 - n)), (0, .int f), (1, .int n), (2, .long d), (4, .long a), (6, .long z)]) X d_M_form_14 (by decide) rfl ?_
  refine pv_iload_n X 2 d_M_form_16 rfl ?_
  refine pv_i2l X d_M_form_17 ?_
  refine pv_bipush X 60 d_M_form_18 (by decide) ?_
  refine pv_lshl X d_M_form_20 ?_
  refine pv_iload_n X 3 d_M_form_21 rfl ?_
  refine pv_i2l X d_M_form_22 ?_
  refine pv_bipush X 56 d_M_form_23 (by decide) ?_
  refine pv_lshl X d_M_form_25 ?_
  refine pv_lor X d_M_form_26 ?_
  refine pv_lload_n X 4 d_M_form_27 rfl ?_
  refine pv_iconst X 4 d_M_form_28 (by decide) ?_
  refine pv_iload X 1 d_M_form_29 rfl ?_
  refine pv_imul X d_M_form_31 ?_
  refine pv_lshl X d_M_form_32 ?_
  refine pv_lor X d_M_form_33 ?_
  refine pv_iload_n X 2 d_M_form_34 rfl ?_
  refine pv_if_ne X 43 d_M_form_35 rfl (fun h1 => ?_) (fun h1n => ?_)
  · skip
    refine pv_lload X 6 d_M_form_43 rfl ?_
    refine pv_lload X 0 d_M_form_45 rfl ?_
    refine pv_land X d_M_form_47 ?_
    refine pv_lor X d_M_form_48 ?_
    refine pv_lstore (ll2 := [(11, .long ((((f.toInt64 <<< ((60 : Int32).toInt64 &&& 63)) ||| (n.toInt64 <<< ((56 : Int32).toInt64 &&& 63))) ||| (d <<< ((4 * (14 - n)).toInt64 &&& 63))) ||| (z &&& (((1 : Int64) <<< ((4 * (14 - n)).toInt64 &&& 63)) - (1 : Int64))))), (9, .long (((1 : Int64) <<< ((4 * (14 - n)).toInt64 &&& 63)) - (1 : Int64))), (8, .int (14 - n)), (0, .int f), (1, .int n), (2, .long d), (4, .long a), (6, .long z)]) X d_M_form_49 (by decide) rfl ?_
    refine pv_iload_n X 3 d_M_form_51 rfl ?_
    refine pv_iconst X 1 d_M_form_52 (by decide) ?_
    refine pv_icmp_ne X 61 d_M_form_53 rfl (fun h2 => ?_) (fun h2n => ?_)
    · skip
      refine pv_lload X 0 d_M_form_61 rfl ?_
      refine pv_lload X 6 d_M_form_63 rfl ?_
      refine pv_calll0 X (rn_S X (c_M_accountPart l G a) trivial mf_M_accountPart m_840 m_841 rfl (by decide) (by decide) rfl (Nat.le_of_ble_eq_true rfl) d_M_form_65) ?_
      refine pv_lxor X d_M_form_68 ?_
      exact pv_lret X hr hlk () (by show _ = f_M_form f n d a z; unfold f_M_form; rw [if_neg h1, if_neg h2]) rfl d_M_form_69
    · skip
      refine pv_lload X 0 d_M_form_56 rfl ?_
      refine pv_goto X 69 d_M_form_58 rfl ?_
      exact pv_lret X hr hlk () (by show _ = f_M_form f n d a z; unfold f_M_form; rw [if_neg h1, if_pos h2n]) rfl d_M_form_69
  · skip
    refine pv_lload X 0 d_M_form_38 rfl ?_
    refine pv_goto X 48 d_M_form_40 rfl ?_
    refine pv_lor X d_M_form_48 ?_
    refine pv_lstore (ll2 := [(11, .long ((((f.toInt64 <<< ((60 : Int32).toInt64 &&& 63)) ||| (n.toInt64 <<< ((56 : Int32).toInt64 &&& 63))) ||| (d <<< ((4 * (14 - n)).toInt64 &&& 63))) ||| (((1 : Int64) <<< ((4 * (14 - n)).toInt64 &&& 63)) - (1 : Int64)))), (9, .long (((1 : Int64) <<< ((4 * (14 - n)).toInt64 &&& 63)) - (1 : Int64))), (8, .int (14 - n)), (0, .int f), (1, .int n), (2, .long d), (4, .long a), (6, .long z)]) X d_M_form_49 (by decide) rfl ?_
    refine pv_iload_n X 3 d_M_form_51 rfl ?_
    refine pv_iconst X 1 d_M_form_52 (by decide) ?_
    refine pv_icmp_ne X 61 d_M_form_53 rfl (fun h4 => ?_) (fun h4n => ?_)
    · skip
      refine pv_lload X 0 d_M_form_61 rfl ?_
      refine pv_lload X 6 d_M_form_63 rfl ?_
      refine pv_calll0 X (rn_S X (c_M_accountPart l G a) trivial mf_M_accountPart m_840 m_841 rfl (by decide) (by decide) rfl (Nat.le_of_ble_eq_true rfl) d_M_form_65) ?_
      refine pv_lxor X d_M_form_68 ?_
      exact pv_lret X hr hlk () (by show _ = f_M_form f n d a z; unfold f_M_form; rw [if_pos h1n, if_neg h4]) rfl d_M_form_69
    · skip
      refine pv_lload X 0 d_M_form_56 rfl ?_
      refine pv_goto X 69 d_M_form_58 rfl ?_
      exact pv_lret X hr hlk () (by show _ = f_M_form f n d a z; unfold f_M_form; rw [if_pos h1n, if_pos h4n]) rfl d_M_form_69
