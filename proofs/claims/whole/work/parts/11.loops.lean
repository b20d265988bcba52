def pk (v : Int64) (b : Int32) (f : Nat → Int32) : Nat → Int64
  | 0 => 0
  | i + 1 => (pk v b f i <<< ((1 : Int32).toInt64 &&& 63)) ||| (((v.toUInt64 >>> ((b - f i).toInt64.toUInt64 &&& Int64.toUInt64 63)).toInt64) &&& 1)
abbrev rm_D_picked : Room := { frames := 0, cells := 0, slots := 0, locals := 0 }
theorem mf_D_picked : MF y_D_picked b_D_picked 7 (some .long) 3 := ⟨m_179, m_4, by decide, by decide, by decide +kernel⟩
theorem d_D_picked_0 : decode b_D_picked 0 = .ok (.lconst 0, 1) := by decide +kernel
theorem d_D_picked_1 : decode b_D_picked 1 = .ok (.lstore 4, 2) := by decide +kernel
theorem d_D_picked_3 : decode b_D_picked 3 = .ok (.iconst 0, 1) := by decide +kernel
theorem d_D_picked_4 : decode b_D_picked 4 = .ok (.istore 6, 2) := by decide +kernel
theorem d_D_picked_6 : decode b_D_picked 6 = .ok (.iload 6, 2) := by decide +kernel
theorem d_D_picked_8 : decode b_D_picked 8 = .ok (.aload_n 3, 1) := by decide +kernel
theorem d_D_picked_9 : decode b_D_picked 9 = .ok (.arraylength, 1) := by decide +kernel
theorem d_D_picked_10 : decode b_D_picked 10 = .ok (.if_icmp .ge 26, 3) := by decide +kernel
theorem d_D_picked_13 : decode b_D_picked 13 = .ok (.lload 4, 2) := by decide +kernel
theorem d_D_picked_15 : decode b_D_picked 15 = .ok (.iconst 1, 1) := by decide +kernel
theorem d_D_picked_16 : decode b_D_picked 16 = .ok (.lshl, 1) := by decide +kernel
theorem d_D_picked_17 : decode b_D_picked 17 = .ok (.lload_n 0, 1) := by decide +kernel
theorem d_D_picked_18 : decode b_D_picked 18 = .ok (.iload_n 2, 1) := by decide +kernel
theorem d_D_picked_19 : decode b_D_picked 19 = .ok (.aload_n 3, 1) := by decide +kernel
theorem d_D_picked_20 : decode b_D_picked 20 = .ok (.iload 6, 2) := by decide +kernel
theorem d_D_picked_22 : decode b_D_picked 22 = .ok (.baload, 1) := by decide +kernel
theorem d_D_picked_23 : decode b_D_picked 23 = .ok (.isub, 1) := by decide +kernel
theorem d_D_picked_24 : decode b_D_picked 24 = .ok (.lushr, 1) := by decide +kernel
theorem d_D_picked_25 : decode b_D_picked 25 = .ok (.lconst 1, 1) := by decide +kernel
theorem d_D_picked_26 : decode b_D_picked 26 = .ok (.land, 1) := by decide +kernel
theorem d_D_picked_27 : decode b_D_picked 27 = .ok (.lor, 1) := by decide +kernel
theorem d_D_picked_28 : decode b_D_picked 28 = .ok (.lstore 4, 2) := by decide +kernel
theorem d_D_picked_30 : decode b_D_picked 30 = .ok (.iinc 6 1, 3) := by decide +kernel
theorem d_D_picked_33 : decode b_D_picked 33 = .ok (.goto (-27), 3) := by decide +kernel
theorem d_D_picked_36 : decode b_D_picked 36 = .ok (.lload 4, 2) := by decide +kernel
theorem d_D_picked_38 : decode b_D_picked 38 = .ok (.lreturn, 1) := by decide +kernel
set_option maxRecDepth 100000 in
set_option maxHeartbeats 4000000 in
theorem c_D_picked (l : Launch) (G : Gt) (v : Int64) (b : Int32) (t N : Nat) (f : Nat → Int32) (hN : N < 2 ^ 31) : CtL l G y_D_picked b_D_picked 7 (some .long) rm_D_picked (Tr .byte t N f) [.long v, .int b, .ref t] [] (fun r (_ : Unit) => r = pk v b f N) (fun _ => []) 0 0 := by
  refine Ct.of (Qp := fun A => va_Ql _ (qB G A _) A) Tr_stb (by decide) (Nat.le_of_ble_eq_true rfl) ?_
  intro p e s m args below meth c A X hE hr hlk hini
  refine pv_eql (ll2 := [(0, .long v), (2, .int b), (3, .ref t)]) rfl ?_
  refine pv_lconst X 0 d_D_picked_0 (by decide) ?_
  refine pv_lstore (ll2 := [(4, .long (0 : Int64)), (0, .long v), (2, .int b), (3, .ref t)]) X d_D_picked_1 (by decide) rfl ?_
  refine pv_iconst X 0 d_D_picked_3 (by decide) ?_
  refine pv_istore (ll2 := [(6, .int 0), (4, .long (0 : Int64)), (0, .long v), (2, .int b), (3, .ref t)]) X d_D_picked_4 (by decide) rfl ?_
  refine pv_lpick (ll2 := [(6, .int (nI 0)), (4, .long (pk v b f 0)), (0, .long v), (2, .int b), (3, .ref t)]) [0, 1, 2, 3, 4] rfl ?_
  refine pv_eqw (ws2 := []) rfl ?_
  refine pv_loop N (fun i => True) (fun i => []) (fun i => [(6, .int (nI i)), (4, .long (pk v b f i)), (0, .long v), (2, .int b), (3, .ref t)]) 0 (by omega) trivial (fun hI_i => ?_) (fun i h_i hI_i ih_i => ?_)
  · skip
    refine pv_iload X 0 d_D_picked_6 rfl ?_
    refine pv_aload_n X 4 d_D_picked_8 rfl ?_
    refine pv_tlen X hE (nI N) rfl d_D_picked_9 ?_
    refine pv_icmp_ge X 36 d_D_picked_10 rfl (fun _ => ?_) (fun h => absurd (Int32.le_refl _) h)
    refine pv_lload X 1 d_D_picked_36 rfl ?_
    exact pv_lret X hr hlk () rfl rfl d_D_picked_38
  · skip
    refine pv_iload X 0 d_D_picked_6 rfl ?_
    refine pv_aload_n X 4 d_D_picked_8 rfl ?_
    refine pv_tlen X hE (nI N) rfl d_D_picked_9 ?_
    refine pv_icmp_ge X 36 d_D_picked_10 rfl (fun h => absurd h (nI_ge h_i (by omega))) (fun _ => ?_)
    refine pv_lload X 1 d_D_picked_13 rfl ?_
    refine pv_iconst X 1 d_D_picked_15 (by decide) ?_
    refine pv_lshl X d_D_picked_16 ?_
    refine pv_lload_n X 2 d_D_picked_17 rfl ?_
    refine pv_iload_n X 3 d_D_picked_18 rfl ?_
    refine pv_aload_n X 4 d_D_picked_19 rfl ?_
    refine pv_iload X 0 d_D_picked_20 rfl ?_
    refine pv_tb X hE (vp_in_nI (by omega) (by omega)) d_D_picked_22 ?_
    refine pv_topi (f i) (congrArg f (nI_clamp (by omega))) ?_
    refine pv_isub X d_D_picked_23 ?_
    refine pv_lushr X d_D_picked_24 ?_
    refine pv_lconst X 1 d_D_picked_25 (by decide) ?_
    refine pv_land X d_D_picked_26 ?_
    refine pv_lor X d_D_picked_27 ?_
    refine pv_lstore (ll2 := [(4, .long (((pk v b f i) <<< ((1 : Int32).toInt64 &&& 63)) ||| (((v.toUInt64 >>> ((b - (f i)).toInt64.toUInt64 &&& Int64.toUInt64 63)).toInt64) &&& (1 : Int64)))), (6, .int (nI i)), (0, .long v), (2, .int b), (3, .ref t)]) X d_D_picked_28 (by decide) rfl ?_
    refine pv_iinc (ll2 := [(6, .int (nI (i + 1))), (4, .long (((pk v b f i) <<< ((1 : Int32).toInt64 &&& 63)) ||| (((v.toUInt64 >>> ((b - (f i)).toInt64.toUInt64 &&& Int64.toUInt64 63)).toInt64) &&& (1 : Int64)))), (0, .long v), (2, .int b), (3, .ref t)]) X 1 (nI (i + 1)) d_D_picked_30 rfl (nI_1 _) (by decide) rfl ?_
    refine pv_goto X 6 d_D_picked_33 rfl ?_
    refine pv_lpick (ll2 := [(6, .int (nI (i + 1))), (4, .long (pk v b f (i + 1))), (0, .long v), (2, .int b), (3, .ref t)]) [0, 1, 2, 3, 4] rfl ?_
    refine pv_eqw (ws2 := []) rfl ?_
    exact ih_i trivial
theorem nx_xor (a b : Nat) : nI a ^^^ nI b = nI (a ^^^ b) := by
  apply Int32.toBitVec_inj.mp
  rw [Int32.toBitVec_xor]
  show BitVec.ofNat 32 a ^^^ BitVec.ofNat 32 b = BitVec.ofNat 32 (a ^^^ b)
  apply BitVec.eq_of_getLsbD_eq
  intro i hi
  rw [BitVec.getLsbD_xor, BitVec.getLsbD_ofNat, BitVec.getLsbD_ofNat, BitVec.getLsbD_ofNat, Nat.testBit_xor]
  simp [hi]
theorem cl_le (x : Int32) : x ≤ nI x.toNatClampNeg := by
  have h : x.toNatClampNeg < 2 ^ 31 := by have := x.toInt_lt; show x.toInt.toNat < _; omega
  rw [Int32.le_iff_toInt_le, nI_toInt h]
  show x.toInt ≤ ((x.toInt.toNat : Nat) : Int)
  omega
theorem cl_lt {x : Int32} {i : Nat} (hi : i < x.toNatClampNeg) : ¬ x ≤ nI i := by
  have h : x.toNatClampNeg < 2 ^ 31 := by have := x.toInt_lt; show x.toInt.toNat < _; omega
  rw [Int32.le_iff_toInt_le, nI_toInt (by omega)]
  have : x.toNatClampNeg = x.toInt.toNat := rfl
  omega
theorem nI_p8 (i : Nat) : nI (8 * i) + Int32.ofInt 8 = nI (8 * (i + 1)) := nI_add (8 * i) 8
theorem nI_p4 (i : Nat) : nI (4 * i) + Int32.ofInt 4 = nI (4 * (i + 1)) := nI_add (4 * i) 4
theorem bx_in (x y : Int32) {i : Nat} (hi : i < 8) : vp_in (64 * nI i + ((x &&& 63) ^^^ (y &&& 63))) 512 := by
  obtain ⟨a, ha, ea⟩ := pk_andE x (m := 63) 6 (by decide)
  obtain ⟨b, hb, eb⟩ := pk_andE y (m := 63) 6 (by decide)
  rw [ea, eb, nx_xor]
  have hx : a ^^^ b < 2 ^ 6 := Nat.xor_lt_two_pow ha hb
  have e1 : (64 : Int32) * nI i = nI (64 * i) := pk_mul 64 i
  rw [e1, nI_add]
  exact vp_in_nI (by omega) (by omega)
def allQ (P : Nat → Prop) [DecidablePred P] (n : Nat) : Int32 := if ∀ j, j < n → P j then 1 else 0
theorem allQ_1 {P : Nat → Prop} [DecidablePred P] {n : Nat} (h : ∀ j, j < n → P j) : 1 = allQ P n := (if_pos h).symm
theorem allQ_0 {P : Nat → Prop} [DecidablePred P] {n i : Nat} (hi : i < n) (h : ¬ P i) : 0 = allQ P n := (if_neg (fun hh => h (hh i hi))).symm
theorem bo_allQ (P : Nat → Prop) [DecidablePred P] (n : Nat) : Bo (allQ P n) := by
  unfold allQ
  split
  · exact bo_1
  · exact bo_0
abbrev q_al (least : Int32) (v : Int64) (j : Nat) : Prop := 0 ≤ lg_cmp (((v.toUInt64 >>> ((4 * nI j).toInt64.toUInt64 &&& Int64.toUInt64 63)).toInt64) &&& 15) least.toInt64
def f_B_areAtLeast (least : Int32) (v : Int64) (n : Int32) : Int32 := allQ (q_al least v) n.toNatClampNeg
theorem bo_B_areAtLeast (a : Int32) (b : Int64) (d : Int32) : Bo (f_B_areAtLeast a b d) := bo_allQ _ _
abbrev rm_B_areAtLeast : Room := { frames := 0, cells := 0, slots := 0, locals := 0 }
theorem mf_B_areAtLeast : MF y_B_areAtLeast b_B_areAtLeast 5 (some .boolean) 3 := ⟨m_384, m_15, by decide, by decide, by decide +kernel⟩
theorem d_B_areAtLeast_0 : decode b_B_areAtLeast 0 = .ok (.iconst 0, 1) := by decide +kernel
theorem d_B_areAtLeast_1 : decode b_B_areAtLeast 1 = .ok (.istore 4, 2) := by decide +kernel
theorem d_B_areAtLeast_3 : decode b_B_areAtLeast 3 = .ok (.iload 4, 2) := by decide +kernel
theorem d_B_areAtLeast_5 : decode b_B_areAtLeast 5 = .ok (.iload_n 3, 1) := by decide +kernel
theorem d_B_areAtLeast_6 : decode b_B_areAtLeast 6 = .ok (.if_icmp .ge 27, 3) := by decide +kernel
theorem d_B_areAtLeast_9 : decode b_B_areAtLeast 9 = .ok (.lload_n 1, 1) := by decide +kernel
theorem d_B_areAtLeast_10 : decode b_B_areAtLeast 10 = .ok (.iconst 4, 1) := by decide +kernel
theorem d_B_areAtLeast_11 : decode b_B_areAtLeast 11 = .ok (.iload 4, 2) := by decide +kernel
theorem d_B_areAtLeast_13 : decode b_B_areAtLeast 13 = .ok (.imul, 1) := by decide +kernel
theorem d_B_areAtLeast_14 : decode b_B_areAtLeast 14 = .ok (.lushr, 1) := by decide +kernel
theorem d_B_areAtLeast_15 : decode b_B_areAtLeast 15 = .ok (.ldc2_w 43, 3) := by decide +kernel
theorem d_B_areAtLeast_18 : decode b_B_areAtLeast 18 = .ok (.land, 1) := by decide +kernel
theorem d_B_areAtLeast_19 : decode b_B_areAtLeast 19 = .ok (.iload_n 0, 1) := by decide +kernel
theorem d_B_areAtLeast_20 : decode b_B_areAtLeast 20 = .ok (.i2l, 1) := by decide +kernel
theorem d_B_areAtLeast_21 : decode b_B_areAtLeast 21 = .ok (.lcmp, 1) := by decide +kernel
theorem d_B_areAtLeast_22 : decode b_B_areAtLeast 22 = .ok (.ifCond .ge 5, 3) := by decide +kernel
theorem d_B_areAtLeast_25 : decode b_B_areAtLeast 25 = .ok (.iconst 0, 1) := by decide +kernel
theorem d_B_areAtLeast_26 : decode b_B_areAtLeast 26 = .ok (.ireturn, 1) := by decide +kernel
theorem d_B_areAtLeast_27 : decode b_B_areAtLeast 27 = .ok (.iinc 4 1, 3) := by decide +kernel
theorem d_B_areAtLeast_30 : decode b_B_areAtLeast 30 = .ok (.goto (-27), 3) := by decide +kernel
theorem d_B_areAtLeast_33 : decode b_B_areAtLeast 33 = .ok (.iconst 1, 1) := by decide +kernel
theorem d_B_areAtLeast_34 : decode b_B_areAtLeast 34 = .ok (.ireturn, 1) := by decide +kernel
set_option maxRecDepth 100000 in
set_option maxHeartbeats 4000000 in
theorem c_B_areAtLeast (l : Launch) (G : Gt) (a : Int32) (v : Int64) (n : Int32) : CtI l G y_B_areAtLeast b_B_areAtLeast 5 (some .boolean) rm_B_areAtLeast E0 [.int a, .long v, .int n] [] (fun r (_ : Unit) => r = f_B_areAtLeast a v n) (fun _ => []) 0 0 := by
  refine Ct.of (Qp := fun A => va_Qi _ (qB G A _) A) Stb_0 (by decide) (Nat.le_of_ble_eq_true rfl) ?_
  intro p e s m args below meth c A X hE hr hlk hini
  refine pv_eql (ll2 := [(0, .int a), (1, .long v), (3, .int n)]) rfl ?_
  refine pv_iconst X 0 d_B_areAtLeast_0 (by decide) ?_
  refine pv_istore (ll2 := [(4, .int 0), (0, .int a), (1, .long v), (3, .int n)]) X d_B_areAtLeast_1 (by decide) rfl ?_
  refine pv_lpick (ll2 := [(4, .int (nI 0)), (0, .int a), (1, .long v), (3, .int n)]) [0, 1, 2, 3] rfl ?_
  refine pv_eqw (ws2 := []) rfl ?_
  refine pv_loop n.toNatClampNeg (fun i => ∀ j, j < i → q_al a v j) (fun i => []) (fun i => [(4, .int (nI i)), (0, .int a), (1, .long v), (3, .int n)]) 0 (Nat.zero_le _) (fun _ h => absurd h (Nat.not_lt_zero _)) (fun hI_i => ?_) (fun i h_i hI_i ih_i => ?_)
  · skip
    refine pv_iload X 0 d_B_areAtLeast_3 rfl ?_
    refine pv_iload_n X 3 d_B_areAtLeast_5 rfl ?_
    refine pv_icmp_ge X 33 d_B_areAtLeast_6 rfl (fun _ => ?_) (fun h => absurd (cl_le n) h)
    refine pv_iconst X 1 d_B_areAtLeast_33 (by decide) ?_
    exact pv_zret X hr hlk rfl () (allQ_1 hI_i) rfl d_B_areAtLeast_34
  · skip
    refine pv_iload X 0 d_B_areAtLeast_3 rfl ?_
    refine pv_iload_n X 3 d_B_areAtLeast_5 rfl ?_
    refine pv_icmp_ge X 33 d_B_areAtLeast_6 rfl (fun h => absurd h (cl_lt h_i)) (fun _ => ?_)
    refine pv_lload_n X 2 d_B_areAtLeast_9 rfl ?_
    refine pv_iconst X 4 d_B_areAtLeast_10 (by decide) ?_
    refine pv_iload X 0 d_B_areAtLeast_11 rfl ?_
    refine pv_imul X d_B_areAtLeast_13 ?_
    refine pv_lushr X d_B_areAtLeast_14 ?_
    refine pv_ldc2_w X m_385 d_B_areAtLeast_15 ?_
    refine pv_land X d_B_areAtLeast_18 ?_
    refine pv_iload_n X 1 d_B_areAtLeast_19 rfl ?_
    refine pv_i2l X d_B_areAtLeast_20 ?_
    refine pv_lcmp X d_B_areAtLeast_21 ?_
    refine pv_if_ge X 27 d_B_areAtLeast_22 rfl (fun h1 => ?_) (fun h1n => ?_)
    · skip
      refine pv_iinc (ll2 := [(4, .int (nI (i + 1))), (0, .int a), (1, .long v), (3, .int n)]) X 0 (nI (i + 1)) d_B_areAtLeast_27 rfl (nI_1 _) (by decide) rfl ?_
      refine pv_goto X 3 d_B_areAtLeast_30 rfl ?_
      refine pv_lpick (ll2 := [(4, .int (nI (i + 1))), (0, .int a), (1, .long v), (3, .int n)]) [0, 1, 2, 3] rfl ?_
      refine pv_eqw (ws2 := []) rfl ?_
      exact ih_i (lt_s hI_i h1)
    · skip
      refine pv_iconst X 0 d_B_areAtLeast_25 (by decide) ?_
      exact pv_zret X hr hlk rfl () (allQ_0 h_i h1n) rfl d_B_areAtLeast_26
def f_B_mayFill (f : Int32) (z : Int64) (n : Int32) : Int32 := if f = 3 then (if (f_B_areAtLeast 10 z n) = 0 then 0 else 1) else 1
theorem bo_B_mayFill (f : Int32) (z : Int64) (n : Int32) : Bo (f_B_mayFill f z n) := by
  unfold f_B_mayFill
  repeat (first | with_reducible exact bo_0 | with_reducible exact bo_1 | with_reducible exact bo_B_areAtLeast _ _ _ | split)
abbrev rm_B_mayFill : Room := { frames := 1, cells := 0, slots := 0, locals := 24 }
theorem mf_B_mayFill : MF y_B_mayFill b_B_mayFill 4 (some .boolean) 3 := ⟨m_381, m_15, by decide, by decide, by decide +kernel⟩
theorem d_B_mayFill_0 : decode b_B_mayFill 0 = .ok (.iload_n 0, 1) := by decide +kernel
theorem d_B_mayFill_1 : decode b_B_mayFill 1 = .ok (.iconst 3, 1) := by decide +kernel
theorem d_B_mayFill_2 : decode b_B_mayFill 2 = .ok (.if_icmp .ne 13, 3) := by decide +kernel
theorem d_B_mayFill_5 : decode b_B_mayFill 5 = .ok (.bipush 10, 2) := by decide +kernel
theorem d_B_mayFill_7 : decode b_B_mayFill 7 = .ok (.lload_n 1, 1) := by decide +kernel
theorem d_B_mayFill_8 : decode b_B_mayFill 8 = .ok (.iload_n 3, 1) := by decide +kernel
theorem d_B_mayFill_9 : decode b_B_mayFill 9 = .ok (.invokestatic 9, 3) := by decide +kernel
theorem d_B_mayFill_12 : decode b_B_mayFill 12 = .ok (.ifCond .eq 7, 3) := by decide +kernel
theorem d_B_mayFill_15 : decode b_B_mayFill 15 = .ok (.iconst 1, 1) := by decide +kernel
theorem d_B_mayFill_16 : decode b_B_mayFill 16 = .ok (.goto 4, 3) := by decide +kernel
theorem d_B_mayFill_19 : decode b_B_mayFill 19 = .ok (.iconst 0, 1) := by decide +kernel
theorem d_B_mayFill_20 : decode b_B_mayFill 20 = .ok (.ireturn, 1) := by decide +kernel
set_option maxRecDepth 100000 in
set_option maxHeartbeats 4000000 in
theorem c_B_mayFill (l : Launch) (G : Gt) (f : Int32) (z : Int64) (n : Int32) : CtI l G y_B_mayFill b_B_mayFill 4 (some .boolean) rm_B_mayFill E0 [.int f, .long z, .int n] [] (fun r (_ : Unit) => r = f_B_mayFill f z n) (fun _ => []) 0 0 := by
  refine Ct.of (Qp := fun A => va_Qi _ (qB G A _) A) Stb_0 (by decide) (Nat.le_of_ble_eq_true rfl) ?_
  intro p e s m args below meth c A X hE hr hlk hini
  refine pv_eql (ll2 := [(0, .int f), (1, .long z), (3, .int n)]) rfl ?_
  refine pv_iload_n X 0 d_B_mayFill_0 rfl ?_
  refine pv_iconst X 3 d_B_mayFill_1 (by decide) ?_
  refine pv_icmp_ne X 15 d_B_mayFill_2 rfl (fun h1 => ?_) (fun h1n => ?_)
  · skip
    refine pv_iconst X 1 d_B_mayFill_15 (by decide) ?_
    refine pv_goto X 20 d_B_mayFill_16 rfl ?_
    exact pv_zret X hr hlk rfl () (by show _ = f_B_mayFill f z n; unfold f_B_mayFill; rw [if_neg h1]) rfl d_B_mayFill_20
  · skip
    refine pv_bipush X 10 d_B_mayFill_5 (by decide) ?_
    refine pv_lload_n X 1 d_B_mayFill_7 rfl ?_
    refine pv_iload_n X 2 d_B_mayFill_8 rfl ?_
    refine pv_calli0 X (rn_S X (c_B_areAtLeast l G 10 z n) trivial mf_B_areAtLeast m_382 m_383 rfl (by decide) (by decide) rfl (Nat.le_of_ble_eq_true rfl) d_B_mayFill_9) ?_
    refine pv_if_eq X 19 d_B_mayFill_12 rfl (fun h3 => ?_) (fun h3n => ?_)
    · skip
      refine pv_iconst X 0 d_B_mayFill_19 (by decide) ?_
      exact pv_zret X hr hlk rfl () (by show _ = f_B_mayFill f z n; unfold f_B_mayFill; rw [if_pos h1n, if_pos h3]) rfl d_B_mayFill_20
    · skip
      refine pv_iconst X 1 d_B_mayFill_15 (by decide) ?_
      refine pv_goto X 20 d_B_mayFill_16 rfl ?_
      exact pv_zret X hr hlk rfl () (by show _ = f_B_mayFill f z n; unfold f_B_mayFill; rw [if_pos h1n, if_neg h3n]) rfl d_B_mayFill_20
abbrev q_dg (v : Int64) (n : Int32) (j : Nat) : Prop := lg_cmp (((v.toUInt64 >>> ((4 * nI j).toInt64.toUInt64 &&& Int64.toUInt64 63)).toInt64) &&& 15) (if n ≤ nI j then 0 else 9) ≤ 0
def f_P_areDigits (v : Int64) (n : Int32) : Int32 := allQ (q_dg v n) 16
theorem bo_P_areDigits (b : Int64) (d : Int32) : Bo (f_P_areDigits b d) := bo_allQ _ _
abbrev rm_P_areDigits : Room := { frames := 0, cells := 0, slots := 0, locals := 0 }
theorem mf_P_areDigits : MF y_P_areDigits b_P_areDigits 6 (some .boolean) 2 := ⟨m_373, m_1, by decide, by decide, by decide +kernel⟩
theorem d_P_areDigits_0 : decode b_P_areDigits 0 = .ok (.iconst 0, 1) := by decide +kernel
theorem d_P_areDigits_1 : decode b_P_areDigits 1 = .ok (.istore_n 3, 1) := by decide +kernel
theorem d_P_areDigits_2 : decode b_P_areDigits 2 = .ok (.iload_n 3, 1) := by decide +kernel
theorem d_P_areDigits_3 : decode b_P_areDigits 3 = .ok (.bipush 16, 2) := by decide +kernel
theorem d_P_areDigits_5 : decode b_P_areDigits 5 = .ok (.if_icmp .ge 40, 3) := by decide +kernel
theorem d_P_areDigits_8 : decode b_P_areDigits 8 = .ok (.iload_n 3, 1) := by decide +kernel
theorem d_P_areDigits_9 : decode b_P_areDigits 9 = .ok (.iload_n 2, 1) := by decide +kernel
theorem d_P_areDigits_10 : decode b_P_areDigits 10 = .ok (.if_icmp .ge 9, 3) := by decide +kernel
theorem d_P_areDigits_13 : decode b_P_areDigits 13 = .ok (.ldc2_w 274, 3) := by decide +kernel
theorem d_P_areDigits_16 : decode b_P_areDigits 16 = .ok (.goto 4, 3) := by decide +kernel
theorem d_P_areDigits_19 : decode b_P_areDigits 19 = .ok (.lconst 0, 1) := by decide +kernel
theorem d_P_areDigits_20 : decode b_P_areDigits 20 = .ok (.lstore 4, 2) := by decide +kernel
theorem d_P_areDigits_22 : decode b_P_areDigits 22 = .ok (.lload_n 0, 1) := by decide +kernel
theorem d_P_areDigits_23 : decode b_P_areDigits 23 = .ok (.iconst 4, 1) := by decide +kernel
theorem d_P_areDigits_24 : decode b_P_areDigits 24 = .ok (.iload_n 3, 1) := by decide +kernel
theorem d_P_areDigits_25 : decode b_P_areDigits 25 = .ok (.imul, 1) := by decide +kernel
theorem d_P_areDigits_26 : decode b_P_areDigits 26 = .ok (.lushr, 1) := by decide +kernel
theorem d_P_areDigits_27 : decode b_P_areDigits 27 = .ok (.ldc2_w 276, 3) := by decide +kernel
theorem d_P_areDigits_30 : decode b_P_areDigits 30 = .ok (.land, 1) := by decide +kernel
theorem d_P_areDigits_31 : decode b_P_areDigits 31 = .ok (.lload 4, 2) := by decide +kernel
theorem d_P_areDigits_33 : decode b_P_areDigits 33 = .ok (.lcmp, 1) := by decide +kernel
theorem d_P_areDigits_34 : decode b_P_areDigits 34 = .ok (.ifCond .le 5, 3) := by decide +kernel
theorem d_P_areDigits_37 : decode b_P_areDigits 37 = .ok (.iconst 0, 1) := by decide +kernel
theorem d_P_areDigits_38 : decode b_P_areDigits 38 = .ok (.ireturn, 1) := by decide +kernel
theorem d_P_areDigits_39 : decode b_P_areDigits 39 = .ok (.iinc 3 1, 3) := by decide +kernel
theorem d_P_areDigits_42 : decode b_P_areDigits 42 = .ok (.goto (-40), 3) := by decide +kernel
theorem d_P_areDigits_45 : decode b_P_areDigits 45 = .ok (.iconst 1, 1) := by decide +kernel
theorem d_P_areDigits_46 : decode b_P_areDigits 46 = .ok (.ireturn, 1) := by decide +kernel
set_option maxRecDepth 100000 in
set_option maxHeartbeats 4000000 in
theorem c_P_areDigits (l : Launch) (G : Gt) (v : Int64) (n : Int32) : CtI l G y_P_areDigits b_P_areDigits 6 (some .boolean) rm_P_areDigits E0 [.long v, .int n] [] (fun r (_ : Unit) => r = f_P_areDigits v n) (fun _ => []) 0 0 := by
  refine Ct.of (Qp := fun A => va_Qi _ (qB G A _) A) Stb_0 (by decide) (Nat.le_of_ble_eq_true rfl) ?_
  intro p e s m args below meth c A X hE hr hlk hini
  refine pv_eql (ll2 := [(0, .long v), (2, .int n)]) rfl ?_
  refine pv_iconst X 0 d_P_areDigits_0 (by decide) ?_
  refine pv_istore_n (ll2 := [(3, .int 0), (0, .long v), (2, .int n)]) X d_P_areDigits_1 (by decide) rfl ?_
  refine pv_lpick (ll2 := [(3, .int (nI 0)), (0, .long v), (2, .int n)]) [0, 1, 2] rfl ?_
  refine pv_eqw (ws2 := []) rfl ?_
  refine pv_loop 16 (fun i => ∀ j, j < i → q_dg v n j) (fun i => []) (fun i => [(3, .int (nI i)), (0, .long v), (2, .int n)]) 0 (by omega) (fun _ h => absurd h (Nat.not_lt_zero _)) (fun hI_i => ?_) (fun i h_i hI_i ih_i => ?_)
  · skip
    refine pv_iload_n X 0 d_P_areDigits_2 rfl ?_
    refine pv_bipush X 16 d_P_areDigits_3 (by decide) ?_
    refine pv_icmp_ge X 45 d_P_areDigits_5 rfl (fun _ => ?_) (fun h => absurd (by decide) h)
    refine pv_iconst X 1 d_P_areDigits_45 (by decide) ?_
    exact pv_zret X hr hlk rfl () (allQ_1 hI_i) rfl d_P_areDigits_46
  · skip
    refine pv_iload_n X 0 d_P_areDigits_2 rfl ?_
    refine pv_bipush X 16 d_P_areDigits_3 (by decide) ?_
    refine pv_icmp_ge X 45 d_P_areDigits_5 rfl (fun h => absurd h (nI_ge h_i (by decide))) (fun _ => ?_)
    refine pv_iload_n X 0 d_P_areDigits_8 rfl ?_
    refine pv_iload_n X 2 d_P_areDigits_9 rfl ?_
    refine pv_icmp_ge X 19 d_P_areDigits_10 rfl (fun h1 => ?_) (fun h1n => ?_)
    · skip
      refine pv_lconst X 0 d_P_areDigits_19 (by decide) ?_
      refine pv_topl (if n ≤ nI i then 0 else 9) (by rw [if_pos h1]) ?_
      refine pv_lstore (ll2 := [(4, .long (if n ≤ nI i then 0 else 9)), (3, .int (nI i)), (0, .long v), (2, .int n)]) X d_P_areDigits_20 (by decide) rfl ?_
      refine pv_lload_n X 2 d_P_areDigits_22 rfl ?_
      refine pv_iconst X 4 d_P_areDigits_23 (by decide) ?_
      refine pv_iload_n X 1 d_P_areDigits_24 rfl ?_
      refine pv_imul X d_P_areDigits_25 ?_
      refine pv_lushr X d_P_areDigits_26 ?_
      refine pv_ldc2_w X m_375 d_P_areDigits_27 ?_
      refine pv_land X d_P_areDigits_30 ?_
      refine pv_lload X 0 d_P_areDigits_31 rfl ?_
      refine pv_lcmp X d_P_areDigits_33 ?_
      refine pv_if_le X 39 d_P_areDigits_34 rfl (fun h2 => ?_) (fun h2n => ?_)
      · skip
        refine pv_iinc (ll2 := [(3, .int (nI (i + 1))), (4, .long (if n ≤ nI i then 0 else 9)), (0, .long v), (2, .int n)]) X 1 (nI (i + 1)) d_P_areDigits_39 rfl (nI_1 _) (by decide) rfl ?_
        refine pv_goto X 2 d_P_areDigits_42 rfl ?_
        refine pv_lpick (ll2 := [(3, .int (nI (i + 1))), (0, .long v), (2, .int n)]) [0, 2, 3] rfl ?_
        refine pv_eqw (ws2 := []) rfl ?_
        exact ih_i (lt_s hI_i h2)
      · skip
        refine pv_iconst X 0 d_P_areDigits_37 (by decide) ?_
        exact pv_zret X hr hlk rfl () (allQ_0 h_i h2n) rfl d_P_areDigits_38
    · skip
      refine pv_ldc2_w X m_374 d_P_areDigits_13 ?_
      refine pv_goto X 20 d_P_areDigits_16 rfl ?_
      refine pv_topl (if n ≤ nI i then 0 else 9) (by rw [if_neg h1n]) ?_
      refine pv_lstore (ll2 := [(4, .long (if n ≤ nI i then 0 else 9)), (3, .int (nI i)), (0, .long v), (2, .int n)]) X d_P_areDigits_20 (by decide) rfl ?_
      refine pv_lload_n X 2 d_P_areDigits_22 rfl ?_
      refine pv_iconst X 4 d_P_areDigits_23 (by decide) ?_
      refine pv_iload_n X 1 d_P_areDigits_24 rfl ?_
      refine pv_imul X d_P_areDigits_25 ?_
      refine pv_lushr X d_P_areDigits_26 ?_
      refine pv_ldc2_w X m_375 d_P_areDigits_27 ?_
      refine pv_land X d_P_areDigits_30 ?_
      refine pv_lload X 0 d_P_areDigits_31 rfl ?_
      refine pv_lcmp X d_P_areDigits_33 ?_
      refine pv_if_le X 39 d_P_areDigits_34 rfl (fun h3 => ?_) (fun h3n => ?_)
      · skip
        refine pv_iinc (ll2 := [(3, .int (nI (i + 1))), (4, .long (if n ≤ nI i then 0 else 9)), (0, .long v), (2, .int n)]) X 1 (nI (i + 1)) d_P_areDigits_39 rfl (nI_1 _) (by decide) rfl ?_
        refine pv_goto X 2 d_P_areDigits_42 rfl ?_
        refine pv_lpick (ll2 := [(3, .int (nI (i + 1))), (0, .long v), (2, .int n)]) [0, 2, 3] rfl ?_
        refine pv_eqw (ws2 := []) rfl ?_
        exact ih_i (lt_s hI_i h3)
      · skip
        refine pv_iconst X 0 d_P_areDigits_37 (by decide) ?_
        exact pv_zret X hr hlk rfl () (allQ_0 h_i h3n) rfl d_P_areDigits_38
def f_B_isOf (f : Int32) (v : Int64) : Int32 := if (lg_cmp ((v.toUInt64 >>> ((60 : Int32).toInt64.toUInt64 &&& Int64.toUInt64 63)).toInt64) f.toInt64) = 0 then (if (f_B_isLength (f_B_lengthOf v)) = 0 then 0 else (if (f_P_areDigits (f_B_digitsOf v (f_B_lengthOf v)) (f_B_lengthOf v)) = 0 then 0 else (if f = 1 then 1 else (if f = 0 then (f_B_areAtLeast 15 v (f_B_fillCount (f_B_lengthOf v))) else (f_B_areAtLeast 10 v (f_B_fillCount (f_B_lengthOf v))))))) else 0
theorem bo_B_isOf (f : Int32) (v : Int64) : Bo (f_B_isOf f v) := by
  unfold f_B_isOf
  repeat (first | with_reducible exact bo_0 | with_reducible exact bo_1 | with_reducible exact bo_B_isLength _ | with_reducible exact bo_P_areDigits _ _ | with_reducible exact bo_B_areAtLeast _ _ _ | split)
abbrev rm_B_isOf : Room := { frames := 1, cells := 0, slots := 0, locals := 25 }
theorem mf_B_isOf : MF y_B_isOf b_B_isOf 4 (some .boolean) 2 := ⟨m_410, m_15, by decide, by decide, by decide +kernel⟩
theorem d_B_isOf_0 : decode b_B_isOf 0 = .ok (.lload_n 1, 1) := by decide +kernel
theorem d_B_isOf_1 : decode b_B_isOf 1 = .ok (.invokestatic 25, 3) := by decide +kernel
theorem d_B_isOf_4 : decode b_B_isOf 4 = .ok (.istore_n 3, 1) := by decide +kernel
theorem d_B_isOf_5 : decode b_B_isOf 5 = .ok (.lload_n 1, 1) := by decide +kernel
theorem d_B_isOf_6 : decode b_B_isOf 6 = .ok (.bipush 60, 2) := by decide +kernel
theorem d_B_isOf_8 : decode b_B_isOf 8 = .ok (.lushr, 1) := by decide +kernel
theorem d_B_isOf_9 : decode b_B_isOf 9 = .ok (.iload_n 0, 1) := by decide +kernel
theorem d_B_isOf_10 : decode b_B_isOf 10 = .ok (.i2l, 1) := by decide +kernel
theorem d_B_isOf_11 : decode b_B_isOf 11 = .ok (.lcmp, 1) := by decide +kernel
theorem d_B_isOf_12 : decode b_B_isOf 12 = .ok (.ifCond .ne 22, 3) := by decide +kernel
theorem d_B_isOf_15 : decode b_B_isOf 15 = .ok (.iload_n 3, 1) := by decide +kernel
theorem d_B_isOf_16 : decode b_B_isOf 16 = .ok (.invokestatic 29, 3) := by decide +kernel
theorem d_B_isOf_19 : decode b_B_isOf 19 = .ok (.ifCond .eq 15, 3) := by decide +kernel
theorem d_B_isOf_22 : decode b_B_isOf 22 = .ok (.lload_n 1, 1) := by decide +kernel
theorem d_B_isOf_23 : decode b_B_isOf 23 = .ok (.iload_n 3, 1) := by decide +kernel
theorem d_B_isOf_24 : decode b_B_isOf 24 = .ok (.invokestatic 33, 3) := by decide +kernel
theorem d_B_isOf_27 : decode b_B_isOf 27 = .ok (.iload_n 3, 1) := by decide +kernel
theorem d_B_isOf_28 : decode b_B_isOf 28 = .ok (.invokestatic 37, 3) := by decide +kernel
theorem d_B_isOf_31 : decode b_B_isOf 31 = .ok (.ifCond .ne 5, 3) := by decide +kernel
theorem d_B_isOf_34 : decode b_B_isOf 34 = .ok (.iconst 0, 1) := by decide +kernel
theorem d_B_isOf_35 : decode b_B_isOf 35 = .ok (.ireturn, 1) := by decide +kernel
theorem d_B_isOf_36 : decode b_B_isOf 36 = .ok (.iload_n 0, 1) := by decide +kernel
theorem d_B_isOf_37 : decode b_B_isOf 37 = .ok (.iconst 1, 1) := by decide +kernel
theorem d_B_isOf_38 : decode b_B_isOf 38 = .ok (.if_icmp .ne 5, 3) := by decide +kernel
theorem d_B_isOf_41 : decode b_B_isOf 41 = .ok (.iconst 1, 1) := by decide +kernel
theorem d_B_isOf_42 : decode b_B_isOf 42 = .ok (.ireturn, 1) := by decide +kernel
theorem d_B_isOf_43 : decode b_B_isOf 43 = .ok (.iload_n 0, 1) := by decide +kernel
theorem d_B_isOf_44 : decode b_B_isOf 44 = .ok (.ifCond .ne 8, 3) := by decide +kernel
theorem d_B_isOf_47 : decode b_B_isOf 47 = .ok (.bipush 15, 2) := by decide +kernel
theorem d_B_isOf_49 : decode b_B_isOf 49 = .ok (.goto 5, 3) := by decide +kernel
theorem d_B_isOf_52 : decode b_B_isOf 52 = .ok (.bipush 10, 2) := by decide +kernel
theorem d_B_isOf_54 : decode b_B_isOf 54 = .ok (.lload_n 1, 1) := by decide +kernel
theorem d_B_isOf_55 : decode b_B_isOf 55 = .ok (.iload_n 3, 1) := by decide +kernel
theorem d_B_isOf_56 : decode b_B_isOf 56 = .ok (.invokestatic 13, 3) := by decide +kernel
theorem d_B_isOf_59 : decode b_B_isOf 59 = .ok (.invokestatic 9, 3) := by decide +kernel
theorem d_B_isOf_62 : decode b_B_isOf 62 = .ok (.ireturn, 1) := by decide +kernel
set_option maxRecDepth 100000 in
set_option maxHeartbeats 4000000 in
theorem c_B_isOf (l : Launch) (G : Gt) (f : Int32) (v : Int64) : CtI l G y_B_isOf b_B_isOf 4 (some .boolean) rm_B_isOf Sx [.int f, .long v] [] (fun r (_ : Unit) => r = f_B_isOf f v) (fun _ => []) 0 0 := by
  refine Ct.of (Qp := fun A => va_Qi _ (qB G A _) A) Sx_stb (by decide) (Nat.le_of_ble_eq_true rfl) ?_
  intro p e s m args below meth c A X hE hr hlk hini
  refine pv_eql (ll2 := [(0, .int f), (1, .long v)]) rfl ?_
  have hN_418 := hE.nd
  refine pv_lload_n X 1 d_B_isOf_0 rfl ?_
  refine pv_calli0 X (rn_S X (c_B_lengthOf l G v) trivial mf_B_lengthOf m_411 m_412 rfl (by decide) (by decide) rfl (Nat.le_of_ble_eq_true rfl) d_B_isOf_1) ?_
  refine pv_istore_n (ll2 := [(3, .int (f_B_lengthOf v)), (0, .int f), (1, .long v)]) X d_B_isOf_4 (by decide) rfl ?_
  refine pv_lload_n X 2 d_B_isOf_5 rfl ?_
  refine pv_bipush X 60 d_B_isOf_6 (by decide) ?_
  refine pv_lushr X d_B_isOf_8 ?_
  refine pv_iload_n X 1 d_B_isOf_9 rfl ?_
  refine pv_i2l X d_B_isOf_10 ?_
  refine pv_lcmp X d_B_isOf_11 ?_
  refine pv_if_ne X 34 d_B_isOf_12 rfl (fun h2 => ?_) (fun h2n => ?_)
  · skip
    refine pv_iconst X 0 d_B_isOf_34 (by decide) ?_
    exact pv_zret X hr hlk rfl () (by show _ = f_B_isOf f v; unfold f_B_isOf; rw [if_neg h2]) rfl d_B_isOf_35
  · skip
    refine pv_iload_n X 0 d_B_isOf_15 rfl ?_
    refine pv_calli0 X (rn_S X (c_B_isLength l G (f_B_lengthOf v)) trivial mf_B_isLength m_414 m_369 rfl (by decide) (by decide) rfl (Nat.le_of_ble_eq_true rfl) d_B_isOf_16) ?_
    refine pv_if_eq X 34 d_B_isOf_19 rfl (fun h4 => ?_) (fun h4n => ?_)
    · skip
      refine pv_iconst X 0 d_B_isOf_34 (by decide) ?_
      exact pv_zret X hr hlk rfl () (by show _ = f_B_isOf f v; unfold f_B_isOf; rw [if_pos h2n, if_pos h4]) rfl d_B_isOf_35
    · skip
      refine pv_lload_n X 2 d_B_isOf_22 rfl ?_
      refine pv_iload_n X 0 d_B_isOf_23 rfl ?_
      refine pv_calll0 X (rn_S X (c_B_digitsOf l G v (f_B_lengthOf v)) trivial mf_B_digitsOf m_415 m_416 rfl (by decide) (by decide) rfl (Nat.le_of_ble_eq_true rfl) d_B_isOf_24) ?_
      refine pv_iload_n X 0 d_B_isOf_27 rfl ?_
      refine pv_calli0 X (rn_SN X (c_P_areDigits l G (f_B_digitsOf v (f_B_lengthOf v)) (f_B_lengthOf v)) trivial mf_P_areDigits hN_418 m_372 rfl (by decide) (by decide) rfl (Nat.le_of_ble_eq_true rfl) d_B_isOf_28) ?_
      refine pv_if_ne X 36 d_B_isOf_31 rfl (fun h7 => ?_) (fun h7n => ?_)
      · skip
        refine pv_iload_n X 1 d_B_isOf_36 rfl ?_
        refine pv_iconst X 1 d_B_isOf_37 (by decide) ?_
        refine pv_icmp_ne X 43 d_B_isOf_38 rfl (fun h8 => ?_) (fun h8n => ?_)
        · skip
          refine pv_iload_n X 1 d_B_isOf_43 rfl ?_
          refine pv_if_ne X 52 d_B_isOf_44 rfl (fun h9 => ?_) (fun h9n => ?_)
          · skip
            refine pv_bipush X 10 d_B_isOf_52 (by decide) ?_
            refine pv_lload_n X 2 d_B_isOf_54 rfl ?_
            refine pv_iload_n X 0 d_B_isOf_55 rfl ?_
            refine pv_calli0 X (rn_S X (c_B_fillCount l G (f_B_lengthOf v)) trivial mf_B_fillCount m_393 m_377 rfl (by decide) (by decide) rfl (Nat.le_of_ble_eq_true rfl) d_B_isOf_56) ?_
            refine pv_calli0 X (rn_S X (c_B_areAtLeast l G 10 v (f_B_fillCount (f_B_lengthOf v))) trivial mf_B_areAtLeast m_382 m_383 rfl (by decide) (by decide) rfl (Nat.le_of_ble_eq_true rfl) d_B_isOf_59) ?_
            exact pv_zret X hr hlk (bo_B_areAtLeast _ _ _).nar () (by show _ = f_B_isOf f v; unfold f_B_isOf; rw [if_pos h2n, if_neg h4n, if_neg h7, if_neg h8, if_neg h9]) rfl d_B_isOf_62
          · skip
            refine pv_bipush X 15 d_B_isOf_47 (by decide) ?_
            refine pv_goto X 54 d_B_isOf_49 rfl ?_
            refine pv_lload_n X 2 d_B_isOf_54 rfl ?_
            refine pv_iload_n X 0 d_B_isOf_55 rfl ?_
            refine pv_calli0 X (rn_S X (c_B_fillCount l G (f_B_lengthOf v)) trivial mf_B_fillCount m_393 m_377 rfl (by decide) (by decide) rfl (Nat.le_of_ble_eq_true rfl) d_B_isOf_56) ?_
            refine pv_calli0 X (rn_S X (c_B_areAtLeast l G 15 v (f_B_fillCount (f_B_lengthOf v))) trivial mf_B_areAtLeast m_382 m_383 rfl (by decide) (by decide) rfl (Nat.le_of_ble_eq_true rfl) d_B_isOf_59) ?_
            exact pv_zret X hr hlk (bo_B_areAtLeast _ _ _).nar () (by show _ = f_B_isOf f v; unfold f_B_isOf; rw [if_pos h2n, if_neg h4n, if_neg h7, if_neg h8, if_pos h9n]) rfl d_B_isOf_62
        · skip
          refine pv_iconst X 1 d_B_isOf_41 (by decide) ?_
          exact pv_zret X hr hlk rfl () (by show _ = f_B_isOf f v; unfold f_B_isOf; rw [if_pos h2n, if_neg h4n, if_neg h7, if_pos h8n]) rfl d_B_isOf_42
      · skip
        refine pv_iconst X 0 d_B_isOf_34 (by decide) ?_
        exact pv_zret X hr hlk rfl () (by show _ = f_B_isOf f v; unfold f_B_isOf; rw [if_pos h2n, if_neg h4n, if_pos h7n]) rfl d_B_isOf_35
abbrev nd4 (v : Int64) (j : Nat) : Int64 := ((v.toUInt64 >>> ((nI (4 * j)).toInt64.toUInt64 &&& Int64.toUInt64 63)).toInt64) &&& 15
def ndg (v : Int64) (j : Nat) : Int64 := if lg_cmp (nd4 v j) 10 < 0 then nd4 v j else nd4 v j - 10
abbrev q_rp (d n f : Int64) (j : Nat) : Prop := lg_cmp ((ndg n j + nd4 f j) - (ndg n j + nd4 f j) / 10 * 10) (nd4 d j) = 0
def f_P_isRightPin (d n f : Int64) : Int32 := allQ (q_rp d n f) 4
theorem bo_P_isRightPin (d n f : Int64) : Bo (f_P_isRightPin d n f) := bo_allQ _ _
abbrev rm_P_isRightPin : Room := { frames := 0, cells := 0, slots := 0, locals := 0 }
theorem mf_P_isRightPin : MF y_P_isRightPin b_P_isRightPin 11 (some .boolean) 3 := ⟨m_427, m_1, by decide, by decide, by decide +kernel⟩
theorem d_P_isRightPin_0 : decode b_P_isRightPin 0 = .ok (.iconst 0, 1) := by decide +kernel
theorem d_P_isRightPin_1 : decode b_P_isRightPin 1 = .ok (.istore 6, 2) := by decide +kernel
theorem d_P_isRightPin_3 : decode b_P_isRightPin 3 = .ok (.iload 6, 2) := by decide +kernel
theorem d_P_isRightPin_5 : decode b_P_isRightPin 5 = .ok (.bipush 16, 2) := by decide +kernel
theorem d_P_isRightPin_7 : decode b_P_isRightPin 7 = .ok (.if_icmp .ge 71, 3) := by decide +kernel
theorem d_P_isRightPin_10 : decode b_P_isRightPin 10 = .ok (.lload_n 2, 1) := by decide +kernel
theorem d_P_isRightPin_11 : decode b_P_isRightPin 11 = .ok (.iload 6, 2) := by decide +kernel
theorem d_P_isRightPin_13 : decode b_P_isRightPin 13 = .ok (.lushr, 1) := by decide +kernel
theorem d_P_isRightPin_14 : decode b_P_isRightPin 14 = .ok (.ldc2_w 276, 3) := by decide +kernel
theorem d_P_isRightPin_17 : decode b_P_isRightPin 17 = .ok (.land, 1) := by decide +kernel
theorem d_P_isRightPin_18 : decode b_P_isRightPin 18 = .ok (.lstore 7, 2) := by decide +kernel
theorem d_P_isRightPin_20 : decode b_P_isRightPin 20 = .ok (.lload 7, 2) := by decide +kernel
theorem d_P_isRightPin_22 : decode b_P_isRightPin 22 = .ok (.ldc2_w 278, 3) := by decide +kernel
theorem d_P_isRightPin_25 : decode b_P_isRightPin 25 = .ok (.lcmp, 1) := by decide +kernel
theorem d_P_isRightPin_26 : decode b_P_isRightPin 26 = .ok (.ifCond .lt 12, 3) := by decide +kernel
theorem d_P_isRightPin_29 : decode b_P_isRightPin 29 = .ok (.lload 7, 2) := by decide +kernel
theorem d_P_isRightPin_31 : decode b_P_isRightPin 31 = .ok (.ldc2_w 278, 3) := by decide +kernel
theorem d_P_isRightPin_34 : decode b_P_isRightPin 34 = .ok (.lsub, 1) := by decide +kernel
theorem d_P_isRightPin_35 : decode b_P_isRightPin 35 = .ok (.goto 5, 3) := by decide +kernel
theorem d_P_isRightPin_38 : decode b_P_isRightPin 38 = .ok (.lload 7, 2) := by decide +kernel
theorem d_P_isRightPin_40 : decode b_P_isRightPin 40 = .ok (.lstore 9, 2) := by decide +kernel
theorem d_P_isRightPin_42 : decode b_P_isRightPin 42 = .ok (.lload 9, 2) := by decide +kernel
theorem d_P_isRightPin_44 : decode b_P_isRightPin 44 = .ok (.lload 4, 2) := by decide +kernel
theorem d_P_isRightPin_46 : decode b_P_isRightPin 46 = .ok (.iload 6, 2) := by decide +kernel
theorem d_P_isRightPin_48 : decode b_P_isRightPin 48 = .ok (.lushr, 1) := by decide +kernel
theorem d_P_isRightPin_49 : decode b_P_isRightPin 49 = .ok (.ldc2_w 276, 3) := by decide +kernel
theorem d_P_isRightPin_52 : decode b_P_isRightPin 52 = .ok (.land, 1) := by decide +kernel
theorem d_P_isRightPin_53 : decode b_P_isRightPin 53 = .ok (.ladd, 1) := by decide +kernel
theorem d_P_isRightPin_54 : decode b_P_isRightPin 54 = .ok (.ldc2_w 278, 3) := by decide +kernel
theorem d_P_isRightPin_57 : decode b_P_isRightPin 57 = .ok (.lrem, 1) := by decide +kernel
theorem d_P_isRightPin_58 : decode b_P_isRightPin 58 = .ok (.lload_n 0, 1) := by decide +kernel
theorem d_P_isRightPin_59 : decode b_P_isRightPin 59 = .ok (.iload 6, 2) := by decide +kernel
theorem d_P_isRightPin_61 : decode b_P_isRightPin 61 = .ok (.lushr, 1) := by decide +kernel
theorem d_P_isRightPin_62 : decode b_P_isRightPin 62 = .ok (.ldc2_w 276, 3) := by decide +kernel
theorem d_P_isRightPin_65 : decode b_P_isRightPin 65 = .ok (.land, 1) := by decide +kernel
theorem d_P_isRightPin_66 : decode b_P_isRightPin 66 = .ok (.lcmp, 1) := by decide +kernel
theorem d_P_isRightPin_67 : decode b_P_isRightPin 67 = .ok (.ifCond .eq 5, 3) := by decide +kernel
theorem d_P_isRightPin_70 : decode b_P_isRightPin 70 = .ok (.iconst 0, 1) := by decide +kernel
theorem d_P_isRightPin_71 : decode b_P_isRightPin 71 = .ok (.ireturn, 1) := by decide +kernel
theorem d_P_isRightPin_72 : decode b_P_isRightPin 72 = .ok (.iinc 6 4, 3) := by decide +kernel
theorem d_P_isRightPin_75 : decode b_P_isRightPin 75 = .ok (.goto (-72), 3) := by decide +kernel
theorem d_P_isRightPin_78 : decode b_P_isRightPin 78 = .ok (.iconst 1, 1) := by decide +kernel
theorem d_P_isRightPin_79 : decode b_P_isRightPin 79 = .ok (.ireturn, 1) := by decide +kernel
set_option maxRecDepth 100000 in
set_option maxHeartbeats 4000000 in
theorem c_P_isRightPin (l : Launch) (G : Gt) (d n f : Int64) : CtI l G y_P_isRightPin b_P_isRightPin 11 (some .boolean) rm_P_isRightPin E0 [.long d, .long n, .long f] [] (fun r (_ : Unit) => r = f_P_isRightPin d n f) (fun _ => []) 0 0 := by
  refine Ct.of (Qp := fun A => va_Qi _ (qB G A _) A) Stb_0 (by decide) (Nat.le_of_ble_eq_true rfl) ?_
  intro p e s m args below meth c A X hE hr hlk hini
  refine pv_eql (ll2 := [(0, .long d), (2, .long n), (4, .long f)]) rfl ?_
  refine pv_iconst X 0 d_P_isRightPin_0 (by decide) ?_
  refine pv_istore (ll2 := [(6, .int 0), (0, .long d), (2, .long n), (4, .long f)]) X d_P_isRightPin_1 (by decide) rfl ?_
  refine pv_lpick (ll2 := [(6, .int (nI (4 * 0))), (0, .long d), (2, .long n), (4, .long f)]) [0, 1, 2, 3] rfl ?_
  refine pv_eqw (ws2 := []) rfl ?_
  refine pv_loop 4 (fun i => ∀ j, j < i → q_rp d n f j) (fun i => []) (fun i => [(6, .int (nI (4 * i))), (0, .long d), (2, .long n), (4, .long f)]) 0 (by omega) (fun _ h => absurd h (Nat.not_lt_zero _)) (fun hI_i => ?_) (fun i h_i hI_i ih_i => ?_)
  · skip
    refine pv_iload X 0 d_P_isRightPin_3 rfl ?_
    refine pv_bipush X 16 d_P_isRightPin_5 (by decide) ?_
    refine pv_icmp_ge X 78 d_P_isRightPin_7 rfl (fun _ => ?_) (fun h => absurd (by decide) h)
    refine pv_iconst X 1 d_P_isRightPin_78 (by decide) ?_
    exact pv_zret X hr hlk rfl () (allQ_1 hI_i) rfl d_P_isRightPin_79
  · skip
    refine pv_iload X 0 d_P_isRightPin_3 rfl ?_
    refine pv_bipush X 16 d_P_isRightPin_5 (by decide) ?_
    refine pv_icmp_ge X 78 d_P_isRightPin_7 rfl (fun h => absurd h (nI_ge (b := 16) (by omega) (by decide))) (fun _ => ?_)
    refine pv_lload_n X 2 d_P_isRightPin_10 rfl ?_
    refine pv_iload X 0 d_P_isRightPin_11 rfl ?_
    refine pv_lushr X d_P_isRightPin_13 ?_
    refine pv_ldc2_w X m_375 d_P_isRightPin_14 ?_
    refine pv_land X d_P_isRightPin_17 ?_
    refine pv_lstore (ll2 := [(7, .long (((n.toUInt64 >>> ((nI (4 * i)).toInt64.toUInt64 &&& Int64.toUInt64 63)).toInt64) &&& (15 : Int64))), (6, .int (nI (4 * i))), (0, .long d), (2, .long n), (4, .long f)]) X d_P_isRightPin_18 (by decide) rfl ?_
    refine pv_lload X 0 d_P_isRightPin_20 rfl ?_
    refine pv_ldc2_w X m_428 d_P_isRightPin_22 ?_
    refine pv_lcmp X d_P_isRightPin_25 ?_
    refine pv_if_lt X 38 d_P_isRightPin_26 rfl (fun h1 => ?_) (fun h1n => ?_)
    · skip
      refine pv_lload X 0 d_P_isRightPin_38 rfl ?_
      refine pv_topl (ndg n i) (by unfold ndg; rw [if_pos h1]) ?_
      refine pv_lstore (ll2 := [(9, .long (ndg n i)), (7, .long (((n.toUInt64 >>> ((nI (4 * i)).toInt64.toUInt64 &&& Int64.toUInt64 63)).toInt64) &&& (15 : Int64))), (6, .int (nI (4 * i))), (0, .long d), (2, .long n), (4, .long f)]) X d_P_isRightPin_40 (by decide) rfl ?_
      refine pv_lload X 0 d_P_isRightPin_42 rfl ?_
      refine pv_lload X 5 d_P_isRightPin_44 rfl ?_
      refine pv_iload X 2 d_P_isRightPin_46 rfl ?_
      refine pv_lushr X d_P_isRightPin_48 ?_
      refine pv_ldc2_w X m_375 d_P_isRightPin_49 ?_
      refine pv_land X d_P_isRightPin_52 ?_
      refine pv_ladd X d_P_isRightPin_53 ?_
      refine pv_ldc2_w X m_428 d_P_isRightPin_54 ?_
      refine pv_lrem X d_P_isRightPin_57 (by decide) ?_
      refine pv_lload_n X 3 d_P_isRightPin_58 rfl ?_
      refine pv_iload X 2 d_P_isRightPin_59 rfl ?_
      refine pv_lushr X d_P_isRightPin_61 ?_
      refine pv_ldc2_w X m_375 d_P_isRightPin_62 ?_
      refine pv_land X d_P_isRightPin_65 ?_
      refine pv_lcmp X d_P_isRightPin_66 ?_
      refine pv_if_eq X 72 d_P_isRightPin_67 rfl (fun h2 => ?_) (fun h2n => ?_)
      · skip
        refine pv_iinc (ll2 := [(6, .int (nI (4 * (i + 1)))), (9, .long (ndg n i)), (7, .long (((n.toUInt64 >>> ((nI (4 * i)).toInt64.toUInt64 &&& Int64.toUInt64 63)).toInt64) &&& (15 : Int64))), (0, .long d), (2, .long n), (4, .long f)]) X 2 (nI (4 * (i + 1))) d_P_isRightPin_72 rfl (nI_p4 i) (by decide) rfl ?_
        refine pv_goto X 3 d_P_isRightPin_75 rfl ?_
        refine pv_lpick (ll2 := [(6, .int (nI (4 * (i + 1)))), (0, .long d), (2, .long n), (4, .long f)]) [0, 3, 4, 5] rfl ?_
        refine pv_eqw (ws2 := []) rfl ?_
        exact ih_i (lt_s hI_i h2)
      · skip
        refine pv_iconst X 0 d_P_isRightPin_70 (by decide) ?_
        exact pv_zret X hr hlk rfl () (allQ_0 h_i h2n) rfl d_P_isRightPin_71
    · skip
      refine pv_lload X 0 d_P_isRightPin_29 rfl ?_
      refine pv_ldc2_w X m_428 d_P_isRightPin_31 ?_
      refine pv_lsub X d_P_isRightPin_34 ?_
      refine pv_goto X 40 d_P_isRightPin_35 rfl ?_
      refine pv_topl (ndg n i) (by unfold ndg; rw [if_neg h1n]) ?_
      refine pv_lstore (ll2 := [(9, .long (ndg n i)), (7, .long (((n.toUInt64 >>> ((nI (4 * i)).toInt64.toUInt64 &&& Int64.toUInt64 63)).toInt64) &&& (15 : Int64))), (6, .int (nI (4 * i))), (0, .long d), (2, .long n), (4, .long f)]) X d_P_isRightPin_40 (by decide) rfl ?_
      refine pv_lload X 0 d_P_isRightPin_42 rfl ?_
      refine pv_lload X 5 d_P_isRightPin_44 rfl ?_
      refine pv_iload X 2 d_P_isRightPin_46 rfl ?_
      refine pv_lushr X d_P_isRightPin_48 ?_
      refine pv_ldc2_w X m_375 d_P_isRightPin_49 ?_
      refine pv_land X d_P_isRightPin_52 ?_
      refine pv_ladd X d_P_isRightPin_53 ?_
      refine pv_ldc2_w X m_428 d_P_isRightPin_54 ?_
      refine pv_lrem X d_P_isRightPin_57 (by decide) ?_
      refine pv_lload_n X 3 d_P_isRightPin_58 rfl ?_
      refine pv_iload X 2 d_P_isRightPin_59 rfl ?_
      refine pv_lushr X d_P_isRightPin_61 ?_
      refine pv_ldc2_w X m_375 d_P_isRightPin_62 ?_
      refine pv_land X d_P_isRightPin_65 ?_
      refine pv_lcmp X d_P_isRightPin_66 ?_
      refine pv_if_eq X 72 d_P_isRightPin_67 rfl (fun h3 => ?_) (fun h3n => ?_)
      · skip
        refine pv_iinc (ll2 := [(6, .int (nI (4 * (i + 1)))), (9, .long (ndg n i)), (7, .long (((n.toUInt64 >>> ((nI (4 * i)).toInt64.toUInt64 &&& Int64.toUInt64 63)).toInt64) &&& (15 : Int64))), (0, .long d), (2, .long n), (4, .long f)]) X 2 (nI (4 * (i + 1))) d_P_isRightPin_72 rfl (nI_p4 i) (by decide) rfl ?_
        refine pv_goto X 3 d_P_isRightPin_75 rfl ?_
        refine pv_lpick (ll2 := [(6, .int (nI (4 * (i + 1)))), (0, .long d), (2, .long n), (4, .long f)]) [0, 3, 4, 5] rfl ?_
        refine pv_eqw (ws2 := []) rfl ?_
        exact ih_i (lt_s hI_i h3)
      · skip
        refine pv_iconst X 0 d_P_isRightPin_70 (by decide) ?_
        exact pv_zret X hr hlk rfl () (allQ_0 h_i h3n) rfl d_P_isRightPin_71
abbrev by8 (h : Int64) (i : Nat) : Int64 := ((h.toUInt64 >>> ((nI (8 * i)).toInt64.toUInt64 &&& Int64.toUInt64 63)).toInt64) &&& 255
def wop (h : Int64) : Nat → Int64
  | 0 => h
  | i + 1 => if f_JL_bitCount (by8 h i) - f_JL_bitCount (by8 h i) / 2 * 2 = 0 then wop h i ^^^ ((1 : Int64) <<< ((nI (8 * i)).toInt64 &&& 63)) else wop h i
abbrev f_P_withOddParity (h : Int64) : Int64 := wop h 8
abbrev rm_P_withOddParity : Room := { frames := 1, cells := 0, slots := 0, locals := 21 }
theorem mf_P_withOddParity : MF y_P_withOddParity b_P_withOddParity 5 (some .long) 1 := ⟨m_155, m_1, by decide, by decide, by decide +kernel⟩
theorem d_P_withOddParity_0 : decode b_P_withOddParity 0 = .ok (.lload_n 0, 1) := by decide +kernel
theorem d_P_withOddParity_1 : decode b_P_withOddParity 1 = .ok (.lstore_n 2, 1) := by decide +kernel
theorem d_P_withOddParity_2 : decode b_P_withOddParity 2 = .ok (.iconst 0, 1) := by decide +kernel
theorem d_P_withOddParity_3 : decode b_P_withOddParity 3 = .ok (.istore 4, 2) := by decide +kernel
theorem d_P_withOddParity_5 : decode b_P_withOddParity 5 = .ok (.iload 4, 2) := by decide +kernel
theorem d_P_withOddParity_7 : decode b_P_withOddParity 7 = .ok (.bipush 64, 2) := by decide +kernel
theorem d_P_withOddParity_9 : decode b_P_withOddParity 9 = .ok (.if_icmp .ge 32, 3) := by decide +kernel
theorem d_P_withOddParity_12 : decode b_P_withOddParity 12 = .ok (.lload_n 0, 1) := by decide +kernel
theorem d_P_withOddParity_13 : decode b_P_withOddParity 13 = .ok (.iload 4, 2) := by decide +kernel
theorem d_P_withOddParity_15 : decode b_P_withOddParity 15 = .ok (.lushr, 1) := by decide +kernel
theorem d_P_withOddParity_16 : decode b_P_withOddParity 16 = .ok (.ldc2_w 213, 3) := by decide +kernel
theorem d_P_withOddParity_19 : decode b_P_withOddParity 19 = .ok (.land, 1) := by decide +kernel
theorem d_P_withOddParity_20 : decode b_P_withOddParity 20 = .ok (.invokestatic 280, 3) := by decide +kernel
theorem d_P_withOddParity_23 : decode b_P_withOddParity 23 = .ok (.iconst 2, 1) := by decide +kernel
theorem d_P_withOddParity_24 : decode b_P_withOddParity 24 = .ok (.irem, 1) := by decide +kernel
theorem d_P_withOddParity_25 : decode b_P_withOddParity 25 = .ok (.ifCond .ne 10, 3) := by decide +kernel
theorem d_P_withOddParity_28 : decode b_P_withOddParity 28 = .ok (.lload_n 2, 1) := by decide +kernel
theorem d_P_withOddParity_29 : decode b_P_withOddParity 29 = .ok (.lconst 1, 1) := by decide +kernel
theorem d_P_withOddParity_30 : decode b_P_withOddParity 30 = .ok (.iload 4, 2) := by decide +kernel
theorem d_P_withOddParity_32 : decode b_P_withOddParity 32 = .ok (.lshl, 1) := by decide +kernel
theorem d_P_withOddParity_33 : decode b_P_withOddParity 33 = .ok (.lxor, 1) := by decide +kernel
theorem d_P_withOddParity_34 : decode b_P_withOddParity 34 = .ok (.lstore_n 2, 1) := by decide +kernel
theorem d_P_withOddParity_35 : decode b_P_withOddParity 35 = .ok (.iinc 4 8, 3) := by decide +kernel
theorem d_P_withOddParity_38 : decode b_P_withOddParity 38 = .ok (.goto (-33), 3) := by decide +kernel
theorem d_P_withOddParity_41 : decode b_P_withOddParity 41 = .ok (.lload_n 2, 1) := by decide +kernel
theorem d_P_withOddParity_42 : decode b_P_withOddParity 42 = .ok (.lreturn, 1) := by decide +kernel
set_option maxRecDepth 100000 in
set_option maxHeartbeats 4000000 in
theorem c_P_withOddParity (l : Launch) (G : Gt) (h : Int64) : CtL l G y_P_withOddParity b_P_withOddParity 5 (some .long) rm_P_withOddParity E0 [.long h] [] (fun r (_ : Unit) => r = f_P_withOddParity h) (fun _ => []) 0 0 := by
  refine Ct.of (Qp := fun A => va_Ql _ (qB G A _) A) Stb_0 (by decide) (Nat.le_of_ble_eq_true rfl) ?_
  intro p e s m args below meth c A X hE hr hlk hini
  refine pv_eql (ll2 := [(0, .long h)]) rfl ?_
  refine pv_lload_n X 0 d_P_withOddParity_0 rfl ?_
  refine pv_lstore_n (ll2 := [(2, .long h), (0, .long h)]) X d_P_withOddParity_1 (by decide) rfl ?_
  refine pv_iconst X 0 d_P_withOddParity_2 (by decide) ?_
  refine pv_istore (ll2 := [(4, .int 0), (2, .long h), (0, .long h)]) X d_P_withOddParity_3 (by decide) rfl ?_
  refine pv_lpick (ll2 := [(4, .int (nI (8 * 0))), (2, .long (wop h 0)), (0, .long h)]) [0, 1, 2] rfl ?_
  refine pv_eqw (ws2 := []) rfl ?_
  refine pv_loop 8 (fun i => True) (fun i => []) (fun i => [(4, .int (nI (8 * i))), (2, .long (wop h i)), (0, .long h)]) 0 (by omega) trivial (fun hI_i => ?_) (fun i h_i hI_i ih_i => ?_)
  · skip
    refine pv_iload X 0 d_P_withOddParity_5 rfl ?_
    refine pv_bipush X 64 d_P_withOddParity_7 (by decide) ?_
    refine pv_icmp_ge X 41 d_P_withOddParity_9 rfl (fun _ => ?_) (fun h => absurd (by decide) h)
    refine pv_lload_n X 1 d_P_withOddParity_41 rfl ?_
    exact pv_lret X hr hlk () rfl rfl d_P_withOddParity_42
  · skip
    refine pv_iload X 0 d_P_withOddParity_5 rfl ?_
    refine pv_bipush X 64 d_P_withOddParity_7 (by decide) ?_
    refine pv_icmp_ge X 41 d_P_withOddParity_9 rfl (fun h => absurd h (nI_ge (b := 64) (by omega) (by decide))) (fun _ => ?_)
    refine pv_lload_n X 2 d_P_withOddParity_12 rfl ?_
    refine pv_iload X 0 d_P_withOddParity_13 rfl ?_
    refine pv_lushr X d_P_withOddParity_15 ?_
    refine pv_ldc2_w X m_156 d_P_withOddParity_16 ?_
    refine pv_land X d_P_withOddParity_19 ?_
    refine pv_calli0 X (rn_S X (c_JL_bitCount l G (((h.toUInt64 >>> ((nI (8 * i)).toInt64.toUInt64 &&& Int64.toUInt64 63)).toInt64) &&& (255 : Int64))) trivial mf_JL_bitCount m_157 m_158 rfl (by decide) (by decide) rfl (Nat.le_of_ble_eq_true rfl) d_P_withOddParity_20) ?_
    refine pv_iconst X 2 d_P_withOddParity_23 (by decide) ?_
    refine pv_irem X d_P_withOddParity_24 (by decide) ?_
    refine pv_if_ne X 35 d_P_withOddParity_25 rfl (fun h2 => ?_) (fun h2n => ?_)
    · skip
      refine pv_eql (ll2 := [(4, .int (nI (8 * i))), (2, .long (wop h (i + 1))), (0, .long h)]) (by simp only [wop, if_neg h2]) ?_
      refine pv_iinc (ll2 := [(4, .int (nI (8 * (i + 1)))), (2, .long (wop h (i + 1))), (0, .long h)]) X 0 (nI (8 * (i + 1))) d_P_withOddParity_35 rfl (nI_p8 i) (by decide) rfl ?_
      refine pv_goto X 5 d_P_withOddParity_38 rfl ?_
      refine pv_lpick (ll2 := [(4, .int (nI (8 * (i + 1)))), (2, .long (wop h (i + 1))), (0, .long h)]) [0, 1, 2] rfl ?_
      refine pv_eqw (ws2 := []) rfl ?_
      exact ih_i trivial
    · skip
      refine pv_lload_n X 1 d_P_withOddParity_28 rfl ?_
      refine pv_lconst X 1 d_P_withOddParity_29 (by decide) ?_
      refine pv_iload X 0 d_P_withOddParity_30 rfl ?_
      refine pv_lshl X d_P_withOddParity_32 ?_
      refine pv_lxor X d_P_withOddParity_33 ?_
      refine pv_lstore_n (ll2 := [(2, .long ((wop h i) ^^^ ((1 : Int64) <<< ((nI (8 * i)).toInt64 &&& 63)))), (4, .int (nI (8 * i))), (0, .long h)]) X d_P_withOddParity_34 (by decide) rfl ?_
      refine pv_eql (ll2 := [(2, .long (wop h (i + 1))), (4, .int (nI (8 * i))), (0, .long h)]) (by simp only [wop, if_pos h2n]) ?_
      refine pv_iinc (ll2 := [(4, .int (nI (8 * (i + 1)))), (2, .long (wop h (i + 1))), (0, .long h)]) X 1 (nI (8 * (i + 1))) d_P_withOddParity_35 rfl (nI_p8 i) (by decide) rfl ?_
      refine pv_goto X 5 d_P_withOddParity_38 rfl ?_
      refine pv_lpick (ll2 := [(4, .int (nI (8 * (i + 1)))), (2, .long (wop h (i + 1))), (0, .long h)]) [0, 1, 2] rfl ?_
      refine pv_eqw (ws2 := []) rfl ?_
      exact ih_i trivial
def la : Nat → Int32 → Int32
  | 0, a => a
  | k + 1, a => if f_JI_bitCount a ≤ 10 then a else la k (a + (a &&& -a))
abbrev f_T_leastAllowed (n : Int32) : Int32 := la 22 n
abbrev rm_T_leastAllowed : Room := { frames := 1, cells := 0, slots := 0, locals := 20 }
theorem mf_T_leastAllowed : MF y_T_leastAllowed b_T_leastAllowed 3 (some .int) 1 := ⟨m_317, m_3, by decide, by decide, by decide +kernel⟩
theorem d_T_leastAllowed_0 : decode b_T_leastAllowed 0 = .ok (.iload_n 0, 1) := by decide +kernel
theorem d_T_leastAllowed_1 : decode b_T_leastAllowed 1 = .ok (.istore_n 1, 1) := by decide +kernel
theorem d_T_leastAllowed_2 : decode b_T_leastAllowed 2 = .ok (.iconst 0, 1) := by decide +kernel
theorem d_T_leastAllowed_3 : decode b_T_leastAllowed 3 = .ok (.istore_n 2, 1) := by decide +kernel
theorem d_T_leastAllowed_4 : decode b_T_leastAllowed 4 = .ok (.iload_n 2, 1) := by decide +kernel
theorem d_T_leastAllowed_5 : decode b_T_leastAllowed 5 = .ok (.bipush 21, 2) := by decide +kernel
theorem d_T_leastAllowed_7 : decode b_T_leastAllowed 7 = .ok (.if_icmp .gt 25, 3) := by decide +kernel
theorem d_T_leastAllowed_10 : decode b_T_leastAllowed 10 = .ok (.iload_n 1, 1) := by decide +kernel
theorem d_T_leastAllowed_11 : decode b_T_leastAllowed 11 = .ok (.invokestatic 64, 3) := by decide +kernel
theorem d_T_leastAllowed_14 : decode b_T_leastAllowed 14 = .ok (.bipush 10, 2) := by decide +kernel
theorem d_T_leastAllowed_16 : decode b_T_leastAllowed 16 = .ok (.if_icmp .le 16, 3) := by decide +kernel
theorem d_T_leastAllowed_19 : decode b_T_leastAllowed 19 = .ok (.iload_n 1, 1) := by decide +kernel
theorem d_T_leastAllowed_20 : decode b_T_leastAllowed 20 = .ok (.iload_n 1, 1) := by decide +kernel
theorem d_T_leastAllowed_21 : decode b_T_leastAllowed 21 = .ok (.iload_n 1, 1) := by decide +kernel
theorem d_T_leastAllowed_22 : decode b_T_leastAllowed 22 = .ok (.ineg, 1) := by decide +kernel
theorem d_T_leastAllowed_23 : decode b_T_leastAllowed 23 = .ok (.iand, 1) := by decide +kernel
theorem d_T_leastAllowed_24 : decode b_T_leastAllowed 24 = .ok (.iadd, 1) := by decide +kernel
theorem d_T_leastAllowed_25 : decode b_T_leastAllowed 25 = .ok (.istore_n 1, 1) := by decide +kernel
theorem d_T_leastAllowed_26 : decode b_T_leastAllowed 26 = .ok (.iinc 2 1, 3) := by decide +kernel
theorem d_T_leastAllowed_29 : decode b_T_leastAllowed 29 = .ok (.goto (-25), 3) := by decide +kernel
theorem d_T_leastAllowed_32 : decode b_T_leastAllowed 32 = .ok (.iload_n 1, 1) := by decide +kernel
theorem d_T_leastAllowed_33 : decode b_T_leastAllowed 33 = .ok (.ireturn, 1) := by decide +kernel
set_option maxRecDepth 100000 in
set_option maxHeartbeats 4000000 in
theorem c_T_leastAllowed (l : Launch) (G : Gt) (n : Int32) : CtI l G y_T_leastAllowed b_T_leastAllowed 3 (some .int) rm_T_leastAllowed E0 [.int n] [] (fun r (_ : Unit) => r = f_T_leastAllowed n) (fun _ => []) 0 0 := by
  refine Ct.of (Qp := fun A => va_Qi _ (qB G A _) A) Stb_0 (by decide) (Nat.le_of_ble_eq_true rfl) ?_
  intro p e s m args below meth c A X hE hr hlk hini
  refine pv_eql (ll2 := [(0, .int n)]) rfl ?_
  refine pv_iload_n X 0 d_T_leastAllowed_0 rfl ?_
  refine pv_istore_n (ll2 := [(1, .int n), (0, .int n)]) X d_T_leastAllowed_1 (by decide) rfl ?_
  refine pv_iconst X 0 d_T_leastAllowed_2 (by decide) ?_
  refine pv_istore_n (ll2 := [(2, .int 0), (1, .int n), (0, .int n)]) X d_T_leastAllowed_3 (by decide) rfl ?_
  refine pv_lpick (ll2 := [(2, .int (nI 0)), (1, .int n), (0, .int n)]) [0, 1, 2] rfl ?_
  refine pv_eqw (ws2 := []) rfl ?_
  refine pv_loopM (S := Nat × Int32) (fun a => 22 - a.1) (fun a => a.1 ≤ 22 ∧ la (22 - a.1) a.2 = la 22 n) (fun a => []) (fun a => [(2, .int (nI a.1)), (1, .int a.2), (0, .int n)]) (0, n) (⟨Nat.zero_le _, rfl⟩) (fun a hI ih => ?_)
  obtain ⟨i, a⟩ := a
  obtain ⟨hi, hla⟩ := hI
  dsimp only at hi hla ⊢
  by_cases h22 : i = 22
  · subst h22
    refine pv_iload_n X 0 d_T_leastAllowed_4 rfl ?_
    refine pv_bipush X 21 d_T_leastAllowed_5 (by decide) ?_
    refine pv_icmp_gt X 32 d_T_leastAllowed_7 rfl (fun _ => ?_) (fun h => absurd (by decide) h)
    refine pv_iload_n X 1 d_T_leastAllowed_32 rfl ?_
    exact pv_iret X hr hlk () hla rfl d_T_leastAllowed_33
  · have h21 : ¬ (21 : Int32) < nI i := nI_nlt (b := i) (a := 21) (by omega) (by decide)
    obtain ⟨k, hk⟩ : ∃ k, 22 - i = k + 1 := ⟨21 - i, by omega⟩
    rw [hk] at hla
    refine pv_iload_n X 0 d_T_leastAllowed_4 rfl ?_
    refine pv_bipush X 21 d_T_leastAllowed_5 (by decide) ?_
    refine pv_icmp_gt X 32 d_T_leastAllowed_7 rfl (fun h => absurd h h21) (fun _ => ?_)
    refine pv_iload_n X 1 d_T_leastAllowed_10 rfl ?_
    refine pv_calli0 X (rn_S X (c_JI_bitCount l G a) trivial mf_JI_bitCount m_318 m_319 rfl (by decide) (by decide) rfl (Nat.le_of_ble_eq_true rfl) d_T_leastAllowed_11) ?_
    refine pv_bipush X 10 d_T_leastAllowed_14 (by decide) ?_
    refine pv_icmp_le X 32 d_T_leastAllowed_16 rfl (fun h2 => ?_) (fun h2n => ?_)
    · skip
      refine pv_iload_n X 1 d_T_leastAllowed_32 rfl ?_
      exact pv_iret X hr hlk () (by show a = la 22 n; rw [← hla]; show _ = la (k + 1) a; rw [la, if_pos h2]) rfl d_T_leastAllowed_33
    · skip
      refine pv_iload_n X 1 d_T_leastAllowed_19 rfl ?_
      refine pv_iload_n X 1 d_T_leastAllowed_20 rfl ?_
      refine pv_iload_n X 1 d_T_leastAllowed_21 rfl ?_
      refine pv_ineg X d_T_leastAllowed_22 ?_
      refine pv_iand X d_T_leastAllowed_23 ?_
      refine pv_iadd X d_T_leastAllowed_24 ?_
      refine pv_istore_n (ll2 := [(1, .int (a + (a &&& (-a)))), (2, .int (nI i)), (0, .int n)]) X d_T_leastAllowed_25 (by decide) rfl ?_
      refine pv_iinc (ll2 := [(2, .int (nI (i + 1))), (1, .int (a + (a &&& (-a)))), (0, .int n)]) X 1 (nI (i + 1)) d_T_leastAllowed_26 rfl (nI_1 _) (by decide) rfl ?_
      refine pv_goto X 4 d_T_leastAllowed_29 rfl ?_
      refine pv_lpick (ll2 := [(2, .int (nI (i + 1))), (1, .int (a + (a &&& (-a)))), (0, .int n)]) [0, 1, 2] rfl ?_
      exact ih (i + 1, a + (a &&& (-a))) ⟨by dsimp only; omega, by dsimp only; rw [show 22 - (i + 1) = k by omega]; rw [← hla]; show _ = la (k + 1) a; rw [la, if_neg h2n]⟩ (by dsimp only; omega)
def K_hd (u : Nat) : Int64 := (5422897263212053760 : Int64) ||| ((tb_LETTERS u).toInt64 <<< ((40 : Int32).toInt64 &&& 63))
abbrev rm_K_header : Room := { frames := 0, cells := 0, slots := 0, locals := 0 }
theorem mf_K_header : MF y_K_header b_K_header 1 (some .long) 1 := ⟨m_241, m_13, by decide, by decide, by decide +kernel⟩
theorem d_K_header_0 : decode b_K_header 0 = .ok (.ldc2_w 9, 3) := by decide +kernel
theorem d_K_header_3 : decode b_K_header 3 = .ok (.getstatic 11, 3) := by decide +kernel
theorem d_K_header_6 : decode b_K_header 6 = .ok (.iload_n 0, 1) := by decide +kernel
theorem d_K_header_7 : decode b_K_header 7 = .ok (.caload, 1) := by decide +kernel
theorem d_K_header_8 : decode b_K_header 8 = .ok (.i2l, 1) := by decide +kernel
theorem d_K_header_9 : decode b_K_header 9 = .ok (.bipush 40, 2) := by decide +kernel
theorem d_K_header_11 : decode b_K_header 11 = .ok (.lshl, 1) := by decide +kernel
theorem d_K_header_12 : decode b_K_header 12 = .ok (.lor, 1) := by decide +kernel
theorem d_K_header_13 : decode b_K_header 13 = .ok (.lreturn, 1) := by decide +kernel
set_option maxRecDepth 100000 in
set_option maxHeartbeats 4000000 in
theorem c_K_header (l : Launch) (G : Gt) (u : Nat) (hu : u < 4) : CtL l G y_K_header b_K_header 1 (some .long) rm_K_header Sx [.int (nI u)] [] (fun r (_ : Unit) => r = K_hd u) (fun _ => []) 0 0 := by
  refine Ct.of (Qp := fun A => va_Ql _ (qB G A _) A) Sx_stb (by decide) (Nat.le_of_ble_eq_true rfl) ?_
  intro p e s m args below meth c A X hE hr hlk hini
  refine pv_eql (ll2 := [(0, .int (nI u))]) rfl ?_
  obtain ⟨tL, hZ, hT⟩ := hE.LETTERS
  refine pv_ldc2_w X m_242 d_K_header_0 ?_
  refine pv_gets X hZ m_243 d_K_header_3 ?_
  refine pv_iload_n X 0 d_K_header_6 rfl ?_
  refine pv_tc X hT (vp_in_nI (by omega) (by omega)) d_K_header_7 ?_
  refine pv_topi (tb_LETTERS u) (congrArg tb_LETTERS (nI_clamp (by omega))) ?_
  refine pv_i2l X d_K_header_8 ?_
  refine pv_bipush X 40 d_K_header_9 (by decide) ?_
  refine pv_lshl X d_K_header_11 ?_
  refine pv_lor X d_K_header_12 ?_
  exact pv_lret X hr hlk () rfl rfl d_K_header_13
def f_K_usageOfHeader (h : Int64) : Int32 := if lg_cmp h (K_hd 0) = 0 then 0 else if lg_cmp h (K_hd 1) = 0 then 1 else if lg_cmp h (K_hd 2) = 0 then 2 else if lg_cmp h (K_hd 3) = 0 then 3 else -1
theorem uh_at {h : Int64} {i : Nat} (hi : i < 4) (hn : ∀ j, j < i → ¬ lg_cmp h (K_hd j) = 0) (he : lg_cmp h (K_hd i) = 0) : nI i = f_K_usageOfHeader h := by
  unfold f_K_usageOfHeader
  rcases (show i = 0 ∨ i = 1 ∨ i = 2 ∨ i = 3 by omega) with rfl | rfl | rfl | rfl
  · rw [if_pos he]; rfl
  · rw [if_neg (hn 0 (by omega)), if_pos he]; rfl
  · rw [if_neg (hn 0 (by omega)), if_neg (hn 1 (by omega)), if_pos he]; rfl
  · rw [if_neg (hn 0 (by omega)), if_neg (hn 1 (by omega)), if_neg (hn 2 (by omega)), if_pos he]; rfl
abbrev rm_K_usageOfHeader : Room := { frames := 1, cells := 0, slots := 0, locals := 20 }
theorem mf_K_usageOfHeader : MF y_K_usageOfHeader b_K_usageOfHeader 3 (some .int) 1 := ⟨m_267, m_13, by decide, by decide, by decide +kernel⟩
theorem d_K_usageOfHeader_0 : decode b_K_usageOfHeader 0 = .ok (.iconst 0, 1) := by decide +kernel
theorem d_K_usageOfHeader_1 : decode b_K_usageOfHeader 1 = .ok (.istore_n 2, 1) := by decide +kernel
theorem d_K_usageOfHeader_2 : decode b_K_usageOfHeader 2 = .ok (.iload_n 2, 1) := by decide +kernel
theorem d_K_usageOfHeader_3 : decode b_K_usageOfHeader 3 = .ok (.getstatic 11, 3) := by decide +kernel
theorem d_K_usageOfHeader_6 : decode b_K_usageOfHeader 6 = .ok (.arraylength, 1) := by decide +kernel
theorem d_K_usageOfHeader_7 : decode b_K_usageOfHeader 7 = .ok (.if_icmp .ge 20, 3) := by decide +kernel
theorem d_K_usageOfHeader_10 : decode b_K_usageOfHeader 10 = .ok (.lload_n 0, 1) := by decide +kernel
theorem d_K_usageOfHeader_11 : decode b_K_usageOfHeader 11 = .ok (.iload_n 2, 1) := by decide +kernel
theorem d_K_usageOfHeader_12 : decode b_K_usageOfHeader 12 = .ok (.invokestatic 15, 3) := by decide +kernel
theorem d_K_usageOfHeader_15 : decode b_K_usageOfHeader 15 = .ok (.lcmp, 1) := by decide +kernel
theorem d_K_usageOfHeader_16 : decode b_K_usageOfHeader 16 = .ok (.ifCond .ne 5, 3) := by decide +kernel
theorem d_K_usageOfHeader_19 : decode b_K_usageOfHeader 19 = .ok (.iload_n 2, 1) := by decide +kernel
theorem d_K_usageOfHeader_20 : decode b_K_usageOfHeader 20 = .ok (.ireturn, 1) := by decide +kernel
theorem d_K_usageOfHeader_21 : decode b_K_usageOfHeader 21 = .ok (.iinc 2 1, 3) := by decide +kernel
theorem d_K_usageOfHeader_24 : decode b_K_usageOfHeader 24 = .ok (.goto (-22), 3) := by decide +kernel
theorem d_K_usageOfHeader_27 : decode b_K_usageOfHeader 27 = .ok (.iconst (-1), 1) := by decide +kernel
theorem d_K_usageOfHeader_28 : decode b_K_usageOfHeader 28 = .ok (.ireturn, 1) := by decide +kernel
set_option maxRecDepth 100000 in
set_option maxHeartbeats 4000000 in
theorem c_K_usageOfHeader (l : Launch) (G : Gt) (h : Int64) : CtI l G y_K_usageOfHeader b_K_usageOfHeader 3 (some .int) rm_K_usageOfHeader Sx [.long h] [] (fun r (_ : Unit) => r = f_K_usageOfHeader h) (fun _ => []) 0 0 := by
  refine Ct.of (Qp := fun A => va_Qi _ (qB G A _) A) Sx_stb (by decide) (Nat.le_of_ble_eq_true rfl) ?_
  intro p e s m args below meth c A X hE hr hlk hini
  refine pv_eql (ll2 := [(0, .long h)]) rfl ?_
  obtain ⟨tL, hZ, hT⟩ := hE.LETTERS
  refine pv_iconst X 0 d_K_usageOfHeader_0 (by decide) ?_
  refine pv_istore_n (ll2 := [(2, .int 0), (0, .long h)]) X d_K_usageOfHeader_1 (by decide) rfl ?_
  refine pv_lpick (ll2 := [(2, .int (nI 0)), (0, .long h)]) [0, 1] rfl ?_
  refine pv_eqw (ws2 := []) rfl ?_
  refine pv_loop 4 (fun i => ∀ j, j < i → ¬ lg_cmp h (K_hd j) = 0) (fun i => []) (fun i => [(2, .int (nI i)), (0, .long h)]) 0 (by omega) (fun _ h => absurd h (Nat.not_lt_zero _)) (fun hI_i => ?_) (fun i h_i hI_i ih_i => ?_)
  · skip
    refine pv_iload_n X 0 d_K_usageOfHeader_2 rfl ?_
    refine pv_gets X hZ m_243 d_K_usageOfHeader_3 ?_
    refine pv_tlen X hT 4 rfl d_K_usageOfHeader_6 ?_
    refine pv_icmp_ge X 27 d_K_usageOfHeader_7 rfl (fun _ => ?_) (fun h => absurd (by decide) h)
    refine pv_iconst X (-1) d_K_usageOfHeader_27 (by decide) ?_
    exact pv_iret X hr hlk () (by show _ = f_K_usageOfHeader h; unfold f_K_usageOfHeader; rw [if_neg (hI_i 0 (by omega)), if_neg (hI_i 1 (by omega)), if_neg (hI_i 2 (by omega)), if_neg (hI_i 3 (by omega))]) rfl d_K_usageOfHeader_28
  · skip
    refine pv_iload_n X 0 d_K_usageOfHeader_2 rfl ?_
    refine pv_gets X hZ m_243 d_K_usageOfHeader_3 ?_
    refine pv_tlen X hT 4 rfl d_K_usageOfHeader_6 ?_
    refine pv_icmp_ge X 27 d_K_usageOfHeader_7 rfl (fun h => absurd h (nI_ge h_i (by decide))) (fun _ => ?_)
    refine pv_lload_n X 1 d_K_usageOfHeader_10 rfl ?_
    refine pv_iload_n X 0 d_K_usageOfHeader_11 rfl ?_
    refine pv_calll0 X (rn_S X (c_K_header l G i (by omega)) hE mf_K_header m_268 m_240 rfl (by decide) (by decide) rfl (Nat.le_of_ble_eq_true rfl) d_K_usageOfHeader_12) ?_
    refine pv_lcmp X d_K_usageOfHeader_15 ?_
    refine pv_if_ne X 21 d_K_usageOfHeader_16 rfl (fun h2 => ?_) (fun h2n => ?_)
    · skip
      refine pv_iinc (ll2 := [(2, .int (nI (i + 1))), (0, .long h)]) X 0 (nI (i + 1)) d_K_usageOfHeader_21 rfl (nI_1 _) (by decide) rfl ?_
      refine pv_goto X 2 d_K_usageOfHeader_24 rfl ?_
      refine pv_lpick (ll2 := [(2, .int (nI (i + 1))), (0, .long h)]) [0, 1] rfl ?_
      refine pv_eqw (ws2 := []) rfl ?_
      exact ih_i (lt_s hI_i h2)
    · skip
      refine pv_iload_n X 0 d_K_usageOfHeader_19 rfl ?_
      exact pv_iret X hr hlk () (uh_at h_i hI_i h2n) rfl d_K_usageOfHeader_20
abbrev bxi (h : Int32) (k : Int64) (i : Nat) : Int32 := 64 * nI i + (((h <<< ((4 * nI i + 5) &&& 31)) ||| (h.toUInt32 >>> ((32 - (4 * nI i + 5)).toUInt32 &&& Int32.toUInt32 31)).toInt32) &&& 63 ^^^ (((k.toUInt64 >>> ((42 - 6 * nI i).toInt64.toUInt64 &&& Int64.toUInt64 63)).toInt64.toInt32) &&& 63))
def bxd (h : Int32) (k : Int64) : Nat → Int32
  | 0 => 0
  | i + 1 => bxd h k i ||| tb_BOXES (bxi h k i).toNatClampNeg
abbrev f_D_boxed (h : Int32) (k : Int64) : Int32 := bxd h k 8
abbrev rm_D_boxed : Room := { frames := 0, cells := 0, slots := 0, locals := 0 }
theorem mf_D_boxed : MF y_D_boxed b_D_boxed 8 (some .int) 2 := ⟨m_208, m_4, by decide, by decide, by decide +kernel⟩
theorem d_D_boxed_0 : decode b_D_boxed 0 = .ok (.iconst 0, 1) := by decide +kernel
theorem d_D_boxed_1 : decode b_D_boxed 1 = .ok (.istore_n 3, 1) := by decide +kernel
theorem d_D_boxed_2 : decode b_D_boxed 2 = .ok (.iconst 0, 1) := by decide +kernel
theorem d_D_boxed_3 : decode b_D_boxed 3 = .ok (.istore 4, 2) := by decide +kernel
theorem d_D_boxed_5 : decode b_D_boxed 5 = .ok (.iload 4, 2) := by decide +kernel
theorem d_D_boxed_7 : decode b_D_boxed 7 = .ok (.bipush 8, 2) := by decide +kernel
theorem d_D_boxed_9 : decode b_D_boxed 9 = .ok (.if_icmp .ge 68, 3) := by decide +kernel
theorem d_D_boxed_12 : decode b_D_boxed 12 = .ok (.iconst 4, 1) := by decide +kernel
theorem d_D_boxed_13 : decode b_D_boxed 13 = .ok (.iload 4, 2) := by decide +kernel
theorem d_D_boxed_15 : decode b_D_boxed 15 = .ok (.imul, 1) := by decide +kernel
theorem d_D_boxed_16 : decode b_D_boxed 16 = .ok (.iconst 5, 1) := by decide +kernel
theorem d_D_boxed_17 : decode b_D_boxed 17 = .ok (.iadd, 1) := by decide +kernel
theorem d_D_boxed_18 : decode b_D_boxed 18 = .ok (.istore 5, 2) := by decide +kernel
theorem d_D_boxed_20 : decode b_D_boxed 20 = .ok (.iload_n 0, 1) := by decide +kernel
theorem d_D_boxed_21 : decode b_D_boxed 21 = .ok (.iload 5, 2) := by decide +kernel
theorem d_D_boxed_23 : decode b_D_boxed 23 = .ok (.ishl, 1) := by decide +kernel
theorem d_D_boxed_24 : decode b_D_boxed 24 = .ok (.iload_n 0, 1) := by decide +kernel
theorem d_D_boxed_25 : decode b_D_boxed 25 = .ok (.bipush 32, 2) := by decide +kernel
theorem d_D_boxed_27 : decode b_D_boxed 27 = .ok (.iload 5, 2) := by decide +kernel
theorem d_D_boxed_29 : decode b_D_boxed 29 = .ok (.isub, 1) := by decide +kernel
theorem d_D_boxed_30 : decode b_D_boxed 30 = .ok (.iushr, 1) := by decide +kernel
theorem d_D_boxed_31 : decode b_D_boxed 31 = .ok (.ior, 1) := by decide +kernel
theorem d_D_boxed_32 : decode b_D_boxed 32 = .ok (.bipush 63, 2) := by decide +kernel
theorem d_D_boxed_34 : decode b_D_boxed 34 = .ok (.iand, 1) := by decide +kernel
theorem d_D_boxed_35 : decode b_D_boxed 35 = .ok (.istore 6, 2) := by decide +kernel
theorem d_D_boxed_37 : decode b_D_boxed 37 = .ok (.lload_n 1, 1) := by decide +kernel
theorem d_D_boxed_38 : decode b_D_boxed 38 = .ok (.bipush 42, 2) := by decide +kernel
theorem d_D_boxed_40 : decode b_D_boxed 40 = .ok (.bipush 6, 2) := by decide +kernel
theorem d_D_boxed_42 : decode b_D_boxed 42 = .ok (.iload 4, 2) := by decide +kernel
theorem d_D_boxed_44 : decode b_D_boxed 44 = .ok (.imul, 1) := by decide +kernel
theorem d_D_boxed_45 : decode b_D_boxed 45 = .ok (.isub, 1) := by decide +kernel
theorem d_D_boxed_46 : decode b_D_boxed 46 = .ok (.lushr, 1) := by decide +kernel
theorem d_D_boxed_47 : decode b_D_boxed 47 = .ok (.l2i, 1) := by decide +kernel
theorem d_D_boxed_48 : decode b_D_boxed 48 = .ok (.bipush 63, 2) := by decide +kernel
theorem d_D_boxed_50 : decode b_D_boxed 50 = .ok (.iand, 1) := by decide +kernel
theorem d_D_boxed_51 : decode b_D_boxed 51 = .ok (.istore 7, 2) := by decide +kernel
theorem d_D_boxed_53 : decode b_D_boxed 53 = .ok (.iload_n 3, 1) := by decide +kernel
theorem d_D_boxed_54 : decode b_D_boxed 54 = .ok (.getstatic 53, 3) := by decide +kernel
theorem d_D_boxed_57 : decode b_D_boxed 57 = .ok (.bipush 64, 2) := by decide +kernel
theorem d_D_boxed_59 : decode b_D_boxed 59 = .ok (.iload 4, 2) := by decide +kernel
theorem d_D_boxed_61 : decode b_D_boxed 61 = .ok (.imul, 1) := by decide +kernel
theorem d_D_boxed_62 : decode b_D_boxed 62 = .ok (.iload 6, 2) := by decide +kernel
theorem d_D_boxed_64 : decode b_D_boxed 64 = .ok (.iload 7, 2) := by decide +kernel
theorem d_D_boxed_66 : decode b_D_boxed 66 = .ok (.ixor, 1) := by decide +kernel
theorem d_D_boxed_67 : decode b_D_boxed 67 = .ok (.iadd, 1) := by decide +kernel
theorem d_D_boxed_68 : decode b_D_boxed 68 = .ok (.iaload, 1) := by decide +kernel
theorem d_D_boxed_69 : decode b_D_boxed 69 = .ok (.ior, 1) := by decide +kernel
theorem d_D_boxed_70 : decode b_D_boxed 70 = .ok (.istore_n 3, 1) := by decide +kernel
theorem d_D_boxed_71 : decode b_D_boxed 71 = .ok (.iinc 4 1, 3) := by decide +kernel
theorem d_D_boxed_74 : decode b_D_boxed 74 = .ok (.goto (-69), 3) := by decide +kernel
theorem d_D_boxed_77 : decode b_D_boxed 77 = .ok (.iload_n 3, 1) := by decide +kernel
theorem d_D_boxed_78 : decode b_D_boxed 78 = .ok (.ireturn, 1) := by decide +kernel
set_option maxRecDepth 100000 in
set_option maxHeartbeats 4000000 in
theorem c_D_boxed (l : Launch) (G : Gt) (h : Int32) (k : Int64) : CtI l G y_D_boxed b_D_boxed 8 (some .int) rm_D_boxed Sx [.int h, .long k] [] (fun r (_ : Unit) => r = f_D_boxed h k) (fun _ => []) 0 0 := by
  refine Ct.of (Qp := fun A => va_Qi _ (qB G A _) A) Sx_stb (by decide) (Nat.le_of_ble_eq_true rfl) ?_
  intro p e s m args below meth c A X hE hr hlk hini
  refine pv_eql (ll2 := [(0, .int h), (1, .long k)]) rfl ?_
  obtain ⟨tX, hZ, hT⟩ := hE.BOXES
  refine pv_iconst X 0 d_D_boxed_0 (by decide) ?_
  refine pv_istore_n (ll2 := [(3, .int 0), (0, .int h), (1, .long k)]) X d_D_boxed_1 (by decide) rfl ?_
  refine pv_iconst X 0 d_D_boxed_2 (by decide) ?_
  refine pv_istore (ll2 := [(4, .int 0), (3, .int 0), (0, .int h), (1, .long k)]) X d_D_boxed_3 (by decide) rfl ?_
  refine pv_lpick (ll2 := [(4, .int (nI 0)), (3, .int (bxd h k 0)), (0, .int h), (1, .long k)]) [0, 1, 2, 3] rfl ?_
  refine pv_eqw (ws2 := []) rfl ?_
  refine pv_loop 8 (fun i => True) (fun i => []) (fun i => [(4, .int (nI i)), (3, .int (bxd h k i)), (0, .int h), (1, .long k)]) 0 (by omega) trivial (fun hI_i => ?_) (fun i h_i hI_i ih_i => ?_)
  · skip
    refine pv_iload X 0 d_D_boxed_5 rfl ?_
    refine pv_bipush X 8 d_D_boxed_7 (by decide) ?_
    refine pv_icmp_ge X 77 d_D_boxed_9 rfl (fun _ => ?_) (fun h => absurd (by decide) h)
    refine pv_iload_n X 1 d_D_boxed_77 rfl ?_
    exact pv_iret X hr hlk () rfl rfl d_D_boxed_78
  · skip
    refine pv_iload X 0 d_D_boxed_5 rfl ?_
    refine pv_bipush X 8 d_D_boxed_7 (by decide) ?_
    refine pv_icmp_ge X 77 d_D_boxed_9 rfl (fun h => absurd h (nI_ge h_i (by decide))) (fun _ => ?_)
    refine pv_iconst X 4 d_D_boxed_12 (by decide) ?_
    refine pv_iload X 0 d_D_boxed_13 rfl ?_
    refine pv_imul X d_D_boxed_15 ?_
    refine pv_iconst X 5 d_D_boxed_16 (by decide) ?_
    refine pv_iadd X d_D_boxed_17 ?_
    refine pv_istore (ll2 := [(5, .int ((4 * (nI i)) + 5)), (4, .int (nI i)), (3, .int (bxd h k i)), (0, .int h), (1, .long k)]) X d_D_boxed_18 (by decide) rfl ?_
    refine pv_iload_n X 3 d_D_boxed_20 rfl ?_
    refine pv_iload X 0 d_D_boxed_21 rfl ?_
    refine pv_ishl X d_D_boxed_23 ?_
    refine pv_iload_n X 3 d_D_boxed_24 rfl ?_
    refine pv_bipush X 32 d_D_boxed_25 (by decide) ?_
    refine pv_iload X 0 d_D_boxed_27 rfl ?_
    refine pv_isub X d_D_boxed_29 ?_
    refine pv_iushr X d_D_boxed_30 ?_
    refine pv_ior X d_D_boxed_31 ?_
    refine pv_bipush X 63 d_D_boxed_32 (by decide) ?_
    refine pv_iand X d_D_boxed_34 ?_
    refine pv_istore (ll2 := [(6, .int (((h <<< (((4 * (nI i)) + 5) &&& 31)) ||| ((h.toUInt32 >>> ((32 - ((4 * (nI i)) + 5)).toUInt32 &&& Int32.toUInt32 31)).toInt32)) &&& 63)), (5, .int ((4 * (nI i)) + 5)), (4, .int (nI i)), (3, .int (bxd h k i)), (0, .int h), (1, .long k)]) X d_D_boxed_35 (by decide) rfl ?_
    refine pv_lload_n X 5 d_D_boxed_37 rfl ?_
    refine pv_bipush X 42 d_D_boxed_38 (by decide) ?_
    refine pv_bipush X 6 d_D_boxed_40 (by decide) ?_
    refine pv_iload X 2 d_D_boxed_42 rfl ?_
    refine pv_imul X d_D_boxed_44 ?_
    refine pv_isub X d_D_boxed_45 ?_
    refine pv_lushr X d_D_boxed_46 ?_
    refine pv_l2i X d_D_boxed_47 ?_
    refine pv_bipush X 63 d_D_boxed_48 (by decide) ?_
    refine pv_iand X d_D_boxed_50 ?_
    refine pv_istore (ll2 := [(7, .int ((((k.toUInt64 >>> ((42 - (6 * (nI i))).toInt64.toUInt64 &&& Int64.toUInt64 63)).toInt64).toInt32) &&& 63)), (6, .int (((h <<< (((4 * (nI i)) + 5) &&& 31)) ||| ((h.toUInt32 >>> ((32 - ((4 * (nI i)) + 5)).toUInt32 &&& Int32.toUInt32 31)).toInt32)) &&& 63)), (5, .int ((4 * (nI i)) + 5)), (4, .int (nI i)), (3, .int (bxd h k i)), (0, .int h), (1, .long k)]) X d_D_boxed_51 (by decide) rfl ?_
    refine pv_iload_n X 4 d_D_boxed_53 rfl ?_
    refine pv_gets X hZ m_209 d_D_boxed_54 ?_
    refine pv_bipush X 64 d_D_boxed_57 (by decide) ?_
    refine pv_iload X 3 d_D_boxed_59 rfl ?_
    refine pv_imul X d_D_boxed_61 ?_
    refine pv_iload X 1 d_D_boxed_62 rfl ?_
    refine pv_iload X 0 d_D_boxed_64 rfl ?_
    refine pv_ixor X d_D_boxed_66 ?_
    refine pv_iadd X d_D_boxed_67 ?_
    refine pv_ti X hT (bx_in _ _ h_i) d_D_boxed_68 ?_
    refine pv_ior X d_D_boxed_69 ?_
    refine pv_istore_n (ll2 := [(3, .int ((bxd h k i) ||| (tb_BOXES ((64 * (nI i)) + ((((h <<< (((4 * (nI i)) + 5) &&& 31)) ||| ((h.toUInt32 >>> ((32 - ((4 * (nI i)) + 5)).toUInt32 &&& Int32.toUInt32 31)).toInt32)) &&& 63) ^^^ ((((k.toUInt64 >>> ((42 - (6 * (nI i))).toInt64.toUInt64 &&& Int64.toUInt64 63)).toInt64).toInt32) &&& 63))).toNatClampNeg))), (7, .int ((((k.toUInt64 >>> ((42 - (6 * (nI i))).toInt64.toUInt64 &&& Int64.toUInt64 63)).toInt64).toInt32) &&& 63)), (6, .int (((h <<< (((4 * (nI i)) + 5) &&& 31)) ||| ((h.toUInt32 >>> ((32 - ((4 * (nI i)) + 5)).toUInt32 &&& Int32.toUInt32 31)).toInt32)) &&& 63)), (5, .int ((4 * (nI i)) + 5)), (4, .int (nI i)), (0, .int h), (1, .long k)]) X d_D_boxed_70 (by decide) rfl ?_
    refine pv_iinc (ll2 := [(4, .int (nI (i + 1))), (3, .int ((bxd h k i) ||| (tb_BOXES ((64 * (nI i)) + ((((h <<< (((4 * (nI i)) + 5) &&& 31)) ||| ((h.toUInt32 >>> ((32 - ((4 * (nI i)) + 5)).toUInt32 &&& Int32.toUInt32 31)).toInt32)) &&& 63) ^^^ ((((k.toUInt64 >>> ((42 - (6 * (nI i))).toInt64.toUInt64 &&& Int64.toUInt64 63)).toInt64).toInt32) &&& 63))).toNatClampNeg))), (7, .int ((((k.toUInt64 >>> ((42 - (6 * (nI i))).toInt64.toUInt64 &&& Int64.toUInt64 63)).toInt64).toInt32) &&& 63)), (6, .int (((h <<< (((4 * (nI i)) + 5) &&& 31)) ||| ((h.toUInt32 >>> ((32 - ((4 * (nI i)) + 5)).toUInt32 &&& Int32.toUInt32 31)).toInt32)) &&& 63)), (5, .int ((4 * (nI i)) + 5)), (0, .int h), (1, .long k)]) X 4 (nI (i + 1)) d_D_boxed_71 rfl (nI_1 _) (by decide) rfl ?_
    refine pv_goto X 5 d_D_boxed_74 rfl ?_
    refine pv_lpick (ll2 := [(4, .int (nI (i + 1))), (3, .int (bxd h k (i + 1))), (0, .int h), (1, .long k)]) [0, 1, 5, 6] rfl ?_
    refine pv_eqw (ws2 := []) rfl ?_
    exact ih_i trivial
abbrev q_ar (v : Int64) (lo hi : Int32) (j : Nat) : Prop := ¬ f_M_in (((v.toUInt64 >>> ((4 * nI j).toInt64.toUInt64 &&& Int64.toUInt64 63)).toInt64) &&& 15) lo.toInt64 hi.toInt64 = 0
def mad (v : Int64) (lo hi : Int32) : Nat → Int32
  | 0 => 1
  | i + 1 => if mad v lo hi i = 0 then 0 else if f_M_in (((v.toUInt64 >>> ((4 * nI i).toInt64.toUInt64 &&& Int64.toUInt64 63)).toInt64) &&& 15) lo.toInt64 hi.toInt64 = 0 then 0 else 1
theorem bo_mad (v : Int64) (lo hi : Int32) : ∀ n, Bo (mad v lo hi n)
  | 0 => bo_1
  | n + 1 => by
    unfold mad
    split
    · exact bo_0
    · split
      · exact bo_0
      · exact bo_1
def f_M_areDigits (v : Int64) (z n lo hi : Int32) : Int32 := mad v lo hi n.toNatClampNeg
theorem bo_M_areDigits (v : Int64) (z n lo hi : Int32) : Bo (f_M_areDigits v z n lo hi) := bo_mad _ _ _ _
abbrev rm_M_areDigits : Room := { frames := 1, cells := 0, slots := 0, locals := 25 }
theorem mf_M_areDigits : MF y_M_areDigits b_M_areDigits 8 (some .boolean) 5 := ⟨m_824, m_6, by decide, by decide, by decide +kernel⟩
theorem d_M_areDigits_0 : decode b_M_areDigits 0 = .ok (.iconst 1, 1) := by decide +kernel
theorem d_M_areDigits_1 : decode b_M_areDigits 1 = .ok (.istore 6, 2) := by decide +kernel
theorem d_M_areDigits_3 : decode b_M_areDigits 3 = .ok (.iload_n 2, 1) := by decide +kernel
theorem d_M_areDigits_4 : decode b_M_areDigits 4 = .ok (.istore 7, 2) := by decide +kernel
theorem d_M_areDigits_6 : decode b_M_areDigits 6 = .ok (.iload 7, 2) := by decide +kernel
theorem d_M_areDigits_8 : decode b_M_areDigits 8 = .ok (.iload_n 3, 1) := by decide +kernel
theorem d_M_areDigits_9 : decode b_M_areDigits 9 = .ok (.if_icmp .ge 43, 3) := by decide +kernel
theorem d_M_areDigits_12 : decode b_M_areDigits 12 = .ok (.iload 6, 2) := by decide +kernel
theorem d_M_areDigits_14 : decode b_M_areDigits 14 = .ok (.ifCond .eq 29, 3) := by decide +kernel
theorem d_M_areDigits_17 : decode b_M_areDigits 17 = .ok (.lload_n 0, 1) := by decide +kernel
theorem d_M_areDigits_18 : decode b_M_areDigits 18 = .ok (.iconst 4, 1) := by decide +kernel
theorem d_M_areDigits_19 : decode b_M_areDigits 19 = .ok (.iload 7, 2) := by decide +kernel
theorem d_M_areDigits_21 : decode b_M_areDigits 21 = .ok (.imul, 1) := by decide +kernel
theorem d_M_areDigits_22 : decode b_M_areDigits 22 = .ok (.lushr, 1) := by decide +kernel
theorem d_M_areDigits_23 : decode b_M_areDigits 23 = .ok (.ldc2_w 135, 3) := by decide +kernel
theorem d_M_areDigits_26 : decode b_M_areDigits 26 = .ok (.land, 1) := by decide +kernel
theorem d_M_areDigits_27 : decode b_M_areDigits 27 = .ok (.iload 4, 2) := by decide +kernel
theorem d_M_areDigits_29 : decode b_M_areDigits 29 = .ok (.i2l, 1) := by decide +kernel
theorem d_M_areDigits_30 : decode b_M_areDigits 30 = .ok (.iload 5, 2) := by decide +kernel
theorem d_M_areDigits_32 : decode b_M_areDigits 32 = .ok (.i2l, 1) := by decide +kernel
theorem d_M_areDigits_33 : decode b_M_areDigits 33 = .ok (.invokestatic 104, 3) := by decide +kernel
theorem d_M_areDigits_36 : decode b_M_areDigits 36 = .ok (.ifCond .eq 7, 3) := by decide +kernel
theorem d_M_areDigits_39 : decode b_M_areDigits 39 = .ok (.iconst 1, 1) := by decide +kernel
theorem d_M_areDigits_40 : decode b_M_areDigits 40 = .ok (.goto 4, 3) := by decide +kernel
theorem d_M_areDigits_43 : decode b_M_areDigits 43 = .ok (.iconst 0, 1) := by decide +kernel
theorem d_M_areDigits_44 : decode b_M_areDigits 44 = .ok (.istore 6, 2) := by decide +kernel
theorem d_M_areDigits_46 : decode b_M_areDigits 46 = .ok (.iinc 7 1, 3) := by decide +kernel
theorem d_M_areDigits_49 : decode b_M_areDigits 49 = .ok (.goto (-43), 3) := by decide +kernel
theorem d_M_areDigits_52 : decode b_M_areDigits 52 = .ok (.iload 6, 2) := by decide +kernel
theorem d_M_areDigits_54 : decode b_M_areDigits 54 = .ok (.ireturn, 1) := by decide +kernel
set_option maxRecDepth 100000 in
set_option maxHeartbeats 4000000 in
theorem c_M_areDigits (l : Launch) (G : Gt) (v : Int64) (z n lo hi : Int32) (hz : z = 0) : CtI l G y_M_areDigits b_M_areDigits 8 (some .boolean) rm_M_areDigits E0 [.long v, .int z, .int n, .int lo, .int hi] [] (fun r (_ : Unit) => r = f_M_areDigits v z n lo hi) (fun _ => []) 0 0 := by
  refine Ct.of (Qp := fun A => va_Qi _ (qB G A _) A) Stb_0 (by decide) (Nat.le_of_ble_eq_true rfl) ?_
  intro p e s m args below meth c A X hE hr hlk hini
  refine pv_eql (ll2 := [(0, .long v), (2, .int z), (3, .int n), (4, .int lo), (5, .int hi)]) rfl ?_
  subst hz
  refine pv_iconst X 1 d_M_areDigits_0 (by decide) ?_
  refine pv_istore (ll2 := [(6, .int 1), (0, .long v), (2, .int 0), (3, .int n), (4, .int lo), (5, .int hi)]) X d_M_areDigits_1 (by decide) rfl ?_
  refine pv_iload_n X 2 d_M_areDigits_3 rfl ?_
  refine pv_istore (ll2 := [(7, .int 0), (6, .int 1), (0, .long v), (2, .int 0), (3, .int n), (4, .int lo), (5, .int hi)]) X d_M_areDigits_4 (by decide) rfl ?_
  refine pv_lpick (ll2 := [(7, .int (nI 0)), (6, .int (mad v lo hi 0)), (0, .long v), (3, .int n), (4, .int lo), (5, .int hi)]) [0, 1, 2, 4, 5, 6] rfl ?_
  refine pv_eqw (ws2 := []) rfl ?_
  refine pv_loop n.toNatClampNeg (fun i => True) (fun i => []) (fun i => [(7, .int (nI i)), (6, .int (mad v lo hi i)), (0, .long v), (3, .int n), (4, .int lo), (5, .int hi)]) 0 (Nat.zero_le _) trivial (fun hI_i => ?_) (fun i h_i hI_i ih_i => ?_)
  · skip
    refine pv_iload X 0 d_M_areDigits_6 rfl ?_
    refine pv_iload_n X 3 d_M_areDigits_8 rfl ?_
    refine pv_icmp_ge X 52 d_M_areDigits_9 rfl (fun _ => ?_) (fun h => absurd (cl_le n) h)
    refine pv_iload X 1 d_M_areDigits_52 rfl ?_
    exact pv_zret X hr hlk (bo_mad _ _ _ _).nar () rfl rfl d_M_areDigits_54
  · skip
    refine pv_iload X 0 d_M_areDigits_6 rfl ?_
    refine pv_iload_n X 3 d_M_areDigits_8 rfl ?_
    refine pv_icmp_ge X 52 d_M_areDigits_9 rfl (fun h => absurd h (cl_lt h_i)) (fun _ => ?_)
    refine pv_iload X 1 d_M_areDigits_12 rfl ?_
    refine pv_if_eq X 43 d_M_areDigits_14 rfl (fun h1 => ?_) (fun h1n => ?_)
    · skip
      refine pv_iconst X 0 d_M_areDigits_43 (by decide) ?_
      refine pv_topi (mad v lo hi (i + 1)) (by simp only [mad, if_pos h1, if_true]) ?_
      refine pv_istore (ll2 := [(6, .int (mad v lo hi (i + 1))), (7, .int (nI i)), (0, .long v), (3, .int n), (4, .int lo), (5, .int hi)]) X d_M_areDigits_44 (by decide) rfl ?_
      refine pv_iinc (ll2 := [(7, .int (nI (i + 1))), (6, .int (mad v lo hi (i + 1))), (0, .long v), (3, .int n), (4, .int lo), (5, .int hi)]) X 1 (nI (i + 1)) d_M_areDigits_46 rfl (nI_1 _) (by decide) rfl ?_
      refine pv_goto X 6 d_M_areDigits_49 rfl ?_
      refine pv_lpick (ll2 := [(7, .int (nI (i + 1))), (6, .int (mad v lo hi (i + 1))), (0, .long v), (3, .int n), (4, .int lo), (5, .int hi)]) [0, 1, 2, 3, 4, 5] rfl ?_
      refine pv_eqw (ws2 := []) rfl ?_
      exact ih_i trivial
    · skip
      refine pv_lload_n X 2 d_M_areDigits_17 rfl ?_
      refine pv_iconst X 4 d_M_areDigits_18 (by decide) ?_
      refine pv_iload X 0 d_M_areDigits_19 rfl ?_
      refine pv_imul X d_M_areDigits_21 ?_
      refine pv_lushr X d_M_areDigits_22 ?_
      refine pv_ldc2_w X m_727 d_M_areDigits_23 ?_
      refine pv_land X d_M_areDigits_26 ?_
      refine pv_iload X 4 d_M_areDigits_27 rfl ?_
      refine pv_i2l X d_M_areDigits_29 ?_
      refine pv_iload X 5 d_M_areDigits_30 rfl ?_
      refine pv_i2l X d_M_areDigits_32 ?_
      refine pv_calli0 X (rn_S X (c_M_in l G (((v.toUInt64 >>> ((4 * (nI i)).toInt64.toUInt64 &&& Int64.toUInt64 63)).toInt64) &&& (15 : Int64)) lo.toInt64 hi.toInt64) trivial mf_M_in m_662 m_663 rfl (by decide) (by decide) rfl (Nat.le_of_ble_eq_true rfl) d_M_areDigits_33) ?_
      refine pv_if_eq X 43 d_M_areDigits_36 rfl (fun h3 => ?_) (fun h3n => ?_)
      · skip
        refine pv_iconst X 0 d_M_areDigits_43 (by decide) ?_
        refine pv_topi (mad v lo hi (i + 1)) (by simp only [mad, if_neg h1n, if_pos h3, if_true]) ?_
        refine pv_istore (ll2 := [(6, .int (mad v lo hi (i + 1))), (7, .int (nI i)), (0, .long v), (3, .int n), (4, .int lo), (5, .int hi)]) X d_M_areDigits_44 (by decide) rfl ?_
        refine pv_iinc (ll2 := [(7, .int (nI (i + 1))), (6, .int (mad v lo hi (i + 1))), (0, .long v), (3, .int n), (4, .int lo), (5, .int hi)]) X 1 (nI (i + 1)) d_M_areDigits_46 rfl (nI_1 _) (by decide) rfl ?_
        refine pv_goto X 6 d_M_areDigits_49 rfl ?_
        refine pv_lpick (ll2 := [(7, .int (nI (i + 1))), (6, .int (mad v lo hi (i + 1))), (0, .long v), (3, .int n), (4, .int lo), (5, .int hi)]) [0, 1, 2, 3, 4, 5] rfl ?_
        refine pv_eqw (ws2 := []) rfl ?_
        exact ih_i trivial
      · skip
        refine pv_iconst X 1 d_M_areDigits_39 (by decide) ?_
        refine pv_goto X 44 d_M_areDigits_40 rfl ?_
        refine pv_topi (mad v lo hi (i + 1)) (by simp only [mad, if_neg h1n, if_neg h3n, if_true]) ?_
        refine pv_istore (ll2 := [(6, .int (mad v lo hi (i + 1))), (7, .int (nI i)), (0, .long v), (3, .int n), (4, .int lo), (5, .int hi)]) X d_M_areDigits_44 (by decide) rfl ?_
        refine pv_iinc (ll2 := [(7, .int (nI (i + 1))), (6, .int (mad v lo hi (i + 1))), (0, .long v), (3, .int n), (4, .int lo), (5, .int hi)]) X 1 (nI (i + 1)) d_M_areDigits_46 rfl (nI_1 _) (by decide) rfl ?_
        refine pv_goto X 6 d_M_areDigits_49 rfl ?_
        refine pv_lpick (ll2 := [(7, .int (nI (i + 1))), (6, .int (mad v lo hi (i + 1))), (0, .long v), (3, .int n), (4, .int lo), (5, .int hi)]) [0, 1, 2, 3, 4, 5] rfl ?_
        refine pv_eqw (ws2 := []) rfl ?_
        exact ih_i trivial
def f_M_isAccount (a : Int64) : Int32 := f_M_areDigits a 0 16 0 9
theorem bo_M_isAccount (a : Int64) : Bo (f_M_isAccount a) := by
  unfold f_M_isAccount
  repeat (first | with_reducible exact bo_0 | with_reducible exact bo_1 | with_reducible exact bo_M_areDigits _ _ _ _ _ | split)
abbrev rm_M_isAccount : Room := { frames := 2, cells := 0, slots := 0, locals := 52 }
theorem mf_M_isAccount : MF y_M_isAccount b_M_isAccount 2 (some .boolean) 1 := ⟨m_821, m_6, by decide, by decide, by decide +kernel⟩
theorem d_M_isAccount_0 : decode b_M_isAccount 0 = .ok (.lload_n 0, 1) := by decide +kernel
theorem d_M_isAccount_1 : decode b_M_isAccount 1 = .ok (.iconst 0, 1) := by decide +kernel
theorem d_M_isAccount_2 : decode b_M_isAccount 2 = .ok (.bipush 16, 2) := by decide +kernel
theorem d_M_isAccount_4 : decode b_M_isAccount 4 = .ok (.iconst 0, 1) := by decide +kernel
theorem d_M_isAccount_5 : decode b_M_isAccount 5 = .ok (.bipush 9, 2) := by decide +kernel
theorem d_M_isAccount_7 : decode b_M_isAccount 7 = .ok (.invokestatic 217, 3) := by decide +kernel
theorem d_M_isAccount_10 : decode b_M_isAccount 10 = .ok (.ireturn, 1) := by decide +kernel
set_option maxRecDepth 100000 in
set_option maxHeartbeats 4000000 in
theorem c_M_isAccount (l : Launch) (G : Gt) (a : Int64) : CtI l G y_M_isAccount b_M_isAccount 2 (some .boolean) rm_M_isAccount E0 [.long a] [] (fun r (_ : Unit) => r = f_M_isAccount a) (fun _ => []) 0 0 := by
  refine Ct.of (Qp := fun A => va_Qi _ (qB G A _) A) Stb_0 (by decide) (Nat.le_of_ble_eq_true rfl) ?_
  intro p e s m args below meth c A X hE hr hlk hini
  refine pv_eql (ll2 := [(0, .long a)]) rfl ?_
  refine pv_lload_n X 0 d_M_isAccount_0 rfl ?_
  refine pv_iconst X 0 d_M_isAccount_1 (by decide) ?_
  refine pv_bipush X 16 d_M_isAccount_2 (by decide) ?_
  refine pv_iconst X 0 d_M_isAccount_4 (by decide) ?_
  refine pv_bipush X 9 d_M_isAccount_5 (by decide) ?_
  refine pv_calli0 X (rn_S X (c_M_areDigits l G a 0 16 0 9 rfl) trivial mf_M_areDigits m_822 m_823 rfl (by decide) (by decide) rfl (Nat.le_of_ble_eq_true rfl) d_M_isAccount_7) ?_
  exact pv_zret X hr hlk (bo_M_areDigits _ _ _ _ _).nar () rfl rfl d_M_isAccount_10
abbrev kk (i : Nat) : Int32 := 56 - 8 * nI i
theorem kk_nn : ∀ i, i < 8 → ¬ kk i < 0 := by decide
theorem kk_s : ∀ i, i < 8 → kk i + Int32.ofInt (-8) = kk (i + 1) := by decide
def oc (b : Int64) : Nat → Int32
  | 0 => 0
  | j + 1 => oc b j + ((b >>> ((nI (j + 1)).toInt64 &&& 63)) &&& 1).toInt32
abbrev mby (v : Int64) (i : Nat) : Int64 := ((v.toUInt64 >>> ((kk i).toInt64.toUInt64 &&& Int64.toUInt64 63)).toInt64) &&& 255
def mod_ (v : Int64) : Nat → Int64
  | 0 => 0
  | i + 1 => ((mod_ v i <<< ((8 : Int32).toInt64 &&& 63)) ||| (mby v i &&& 254)) ||| (if oc (mby v i) 7 - oc (mby v i) 7 / 2 * 2 = 0 then 1 else 0)
abbrev f_M_odd (v : Int64) : Int64 := mod_ v 8
abbrev rm_M_odd : Room := { frames := 0, cells := 0, slots := 0, locals := 0 }
theorem mf_M_odd : MF y_M_odd b_M_odd 9 (some .long) 1 := ⟨m_675, m_6, by decide, by decide, by decide +kernel⟩
theorem d_M_odd_0 : decode b_M_odd 0 = .ok (.lconst 0, 1) := by decide +kernel
theorem d_M_odd_1 : decode b_M_odd 1 = .ok (.lstore_n 2, 1) := by decide +kernel
theorem d_M_odd_2 : decode b_M_odd 2 = .ok (.bipush 56, 2) := by decide +kernel
theorem d_M_odd_4 : decode b_M_odd 4 = .ok (.istore 4, 2) := by decide +kernel
theorem d_M_odd_6 : decode b_M_odd 6 = .ok (.iload 4, 2) := by decide +kernel
theorem d_M_odd_8 : decode b_M_odd 8 = .ok (.ifCond .lt 76, 3) := by decide +kernel
theorem d_M_odd_11 : decode b_M_odd 11 = .ok (.lload_n 0, 1) := by decide +kernel
theorem d_M_odd_12 : decode b_M_odd 12 = .ok (.iload 4, 2) := by decide +kernel
theorem d_M_odd_14 : decode b_M_odd 14 = .ok (.lushr, 1) := by decide +kernel
theorem d_M_odd_15 : decode b_M_odd 15 = .ok (.ldc2_w 94, 3) := by decide +kernel
theorem d_M_odd_18 : decode b_M_odd 18 = .ok (.land, 1) := by decide +kernel
theorem d_M_odd_19 : decode b_M_odd 19 = .ok (.lstore 5, 2) := by decide +kernel
theorem d_M_odd_21 : decode b_M_odd 21 = .ok (.iconst 0, 1) := by decide +kernel
theorem d_M_odd_22 : decode b_M_odd 22 = .ok (.istore 7, 2) := by decide +kernel
theorem d_M_odd_24 : decode b_M_odd 24 = .ok (.iconst 1, 1) := by decide +kernel
theorem d_M_odd_25 : decode b_M_odd 25 = .ok (.istore 8, 2) := by decide +kernel
theorem d_M_odd_27 : decode b_M_odd 27 = .ok (.iload 8, 2) := by decide +kernel
theorem d_M_odd_29 : decode b_M_odd 29 = .ok (.bipush 8, 2) := by decide +kernel
theorem d_M_odd_31 : decode b_M_odd 31 = .ok (.if_icmp .ge 22, 3) := by decide +kernel
theorem d_M_odd_34 : decode b_M_odd 34 = .ok (.iload 7, 2) := by decide +kernel
theorem d_M_odd_36 : decode b_M_odd 36 = .ok (.lload 5, 2) := by decide +kernel
theorem d_M_odd_38 : decode b_M_odd 38 = .ok (.iload 8, 2) := by decide +kernel
theorem d_M_odd_40 : decode b_M_odd 40 = .ok (.lshr, 1) := by decide +kernel
theorem d_M_odd_41 : decode b_M_odd 41 = .ok (.lconst 1, 1) := by decide +kernel
theorem d_M_odd_42 : decode b_M_odd 42 = .ok (.land, 1) := by decide +kernel
theorem d_M_odd_43 : decode b_M_odd 43 = .ok (.l2i, 1) := by decide +kernel
theorem d_M_odd_44 : decode b_M_odd 44 = .ok (.iadd, 1) := by decide +kernel
theorem d_M_odd_45 : decode b_M_odd 45 = .ok (.istore 7, 2) := by decide +kernel
theorem d_M_odd_47 : decode b_M_odd 47 = .ok (.iinc 8 1, 3) := by decide +kernel
theorem d_M_odd_50 : decode b_M_odd 50 = .ok (.goto (-23), 3) := by decide +kernel
theorem d_M_odd_53 : decode b_M_odd 53 = .ok (.lload_n 2, 1) := by decide +kernel
theorem d_M_odd_54 : decode b_M_odd 54 = .ok (.bipush 8, 2) := by decide +kernel
theorem d_M_odd_56 : decode b_M_odd 56 = .ok (.lshl, 1) := by decide +kernel
theorem d_M_odd_57 : decode b_M_odd 57 = .ok (.lload 5, 2) := by decide +kernel
theorem d_M_odd_59 : decode b_M_odd 59 = .ok (.ldc2_w 96, 3) := by decide +kernel
theorem d_M_odd_62 : decode b_M_odd 62 = .ok (.land, 1) := by decide +kernel
theorem d_M_odd_63 : decode b_M_odd 63 = .ok (.lor, 1) := by decide +kernel
theorem d_M_odd_64 : decode b_M_odd 64 = .ok (.iload 7, 2) := by decide +kernel
theorem d_M_odd_66 : decode b_M_odd 66 = .ok (.iconst 2, 1) := by decide +kernel
theorem d_M_odd_67 : decode b_M_odd 67 = .ok (.irem, 1) := by decide +kernel
theorem d_M_odd_68 : decode b_M_odd 68 = .ok (.ifCond .ne 7, 3) := by decide +kernel
theorem d_M_odd_71 : decode b_M_odd 71 = .ok (.lconst 1, 1) := by decide +kernel
theorem d_M_odd_72 : decode b_M_odd 72 = .ok (.goto 4, 3) := by decide +kernel
theorem d_M_odd_75 : decode b_M_odd 75 = .ok (.lconst 0, 1) := by decide +kernel
theorem d_M_odd_76 : decode b_M_odd 76 = .ok (.lor, 1) := by decide +kernel
theorem d_M_odd_77 : decode b_M_odd 77 = .ok (.lstore_n 2, 1) := by decide +kernel
theorem d_M_odd_78 : decode b_M_odd 78 = .ok (.iinc 4 (-8), 3) := by decide +kernel
theorem d_M_odd_81 : decode b_M_odd 81 = .ok (.goto (-75), 3) := by decide +kernel
theorem d_M_odd_84 : decode b_M_odd 84 = .ok (.lload_n 2, 1) := by decide +kernel
theorem d_M_odd_85 : decode b_M_odd 85 = .ok (.lreturn, 1) := by decide +kernel
set_option maxRecDepth 100000 in
set_option maxHeartbeats 4000000 in
theorem c_M_odd (l : Launch) (G : Gt) (v : Int64) : CtL l G y_M_odd b_M_odd 9 (some .long) rm_M_odd E0 [.long v] [] (fun r (_ : Unit) => r = f_M_odd v) (fun _ => []) 0 0 := by
  refine Ct.of (Qp := fun A => va_Ql _ (qB G A _) A) Stb_0 (by decide) (Nat.le_of_ble_eq_true rfl) ?_
  intro p e s m args below meth c A X hE hr hlk hini
  refine pv_eql (ll2 := [(0, .long v)]) rfl ?_
  refine pv_lconst X 0 d_M_odd_0 (by decide) ?_
  refine pv_lstore_n (ll2 := [(2, .long (0 : Int64)), (0, .long v)]) X d_M_odd_1 (by decide) rfl ?_
  refine pv_bipush X 56 d_M_odd_2 (by decide) ?_
  refine pv_istore (ll2 := [(4, .int 56), (2, .long (0 : Int64)), (0, .long v)]) X d_M_odd_4 (by decide) rfl ?_
  refine pv_lpick (ll2 := [(4, .int (kk 0)), (2, .long (mod_ v 0)), (0, .long v)]) [0, 1, 2] rfl ?_
  refine pv_eqw (ws2 := []) rfl ?_
  refine pv_loop 8 (fun i => True) (fun i => []) (fun i => [(4, .int (kk i)), (2, .long (mod_ v i)), (0, .long v)]) 0 (by omega) trivial (fun hI_i => ?_) (fun i h_i hI_i ih_i => ?_)
  · skip
    refine pv_iload X 0 d_M_odd_6 rfl ?_
    refine pv_if_lt X 84 d_M_odd_8 rfl (fun _ => ?_) (fun h => absurd (by decide) h)
    refine pv_lload_n X 1 d_M_odd_84 rfl ?_
    exact pv_lret X hr hlk () rfl rfl d_M_odd_85
  · skip
    refine pv_iload X 0 d_M_odd_6 rfl ?_
    refine pv_if_lt X 84 d_M_odd_8 rfl (fun h => absurd h (kk_nn i h_i)) (fun _ => ?_)
    refine pv_lload_n X 2 d_M_odd_11 rfl ?_
    refine pv_iload X 0 d_M_odd_12 rfl ?_
    refine pv_lushr X d_M_odd_14 ?_
    refine pv_ldc2_w X m_676 d_M_odd_15 ?_
    refine pv_land X d_M_odd_18 ?_
    refine pv_lstore (ll2 := [(5, .long (((v.toUInt64 >>> ((kk i).toInt64.toUInt64 &&& Int64.toUInt64 63)).toInt64) &&& (255 : Int64))), (4, .int (kk i)), (2, .long (mod_ v i)), (0, .long v)]) X d_M_odd_19 (by decide) rfl ?_
    refine pv_iconst X 0 d_M_odd_21 (by decide) ?_
    refine pv_istore (ll2 := [(7, .int 0), (5, .long (((v.toUInt64 >>> ((kk i).toInt64.toUInt64 &&& Int64.toUInt64 63)).toInt64) &&& (255 : Int64))), (4, .int (kk i)), (2, .long (mod_ v i)), (0, .long v)]) X d_M_odd_22 (by decide) rfl ?_
    refine pv_iconst X 1 d_M_odd_24 (by decide) ?_
    refine pv_istore (ll2 := [(8, .int 1), (7, .int 0), (5, .long (((v.toUInt64 >>> ((kk i).toInt64.toUInt64 &&& Int64.toUInt64 63)).toInt64) &&& (255 : Int64))), (4, .int (kk i)), (2, .long (mod_ v i)), (0, .long v)]) X d_M_odd_25 (by decide) rfl ?_
    refine pv_lpick (ll2 := [(8, .int (nI (0 + 1))), (7, .int (oc (mby v i) 0)), (5, .long (mby v i)), (4, .int (kk i)), (2, .long (mod_ v i)), (0, .long v)]) [0, 1, 2, 3, 4, 5] rfl ?_
    refine pv_eqw (ws2 := []) rfl ?_
    refine pv_loop 7 (fun j => True) (fun j => []) (fun j => [(8, .int (nI (j + 1))), (7, .int (oc (mby v i) j)), (5, .long (mby v i)), (4, .int (kk i)), (2, .long (mod_ v i)), (0, .long v)]) 0 (by omega) trivial (fun hI_j => ?_) (fun j h_j hI_j ih_j => ?_)
    · skip
      refine pv_iload X 0 d_M_odd_27 rfl ?_
      refine pv_bipush X 8 d_M_odd_29 (by decide) ?_
      refine pv_icmp_ge X 53 d_M_odd_31 rfl (fun _ => ?_) (fun h => absurd (by decide) h)
      refine pv_lload_n X 4 d_M_odd_53 rfl ?_
      refine pv_bipush X 8 d_M_odd_54 (by decide) ?_
      refine pv_lshl X d_M_odd_56 ?_
      refine pv_lload X 2 d_M_odd_57 rfl ?_
      refine pv_ldc2_w X m_677 d_M_odd_59 ?_
      refine pv_land X d_M_odd_62 ?_
      refine pv_lor X d_M_odd_63 ?_
      refine pv_iload X 1 d_M_odd_64 rfl ?_
      refine pv_iconst X 2 d_M_odd_66 (by decide) ?_
      refine pv_irem X d_M_odd_67 (by decide) ?_
      refine pv_if_ne X 75 d_M_odd_68 rfl (fun h1 => ?_) (fun h1n => ?_)
      · skip
        refine pv_lconst X 0 d_M_odd_75 (by decide) ?_
        refine pv_topl (if oc (mby v i) 7 - oc (mby v i) 7 / 2 * 2 = 0 then (1 : Int64) else 0) (by rw [if_neg h1]) ?_
        refine pv_lor X d_M_odd_76 ?_
        refine pv_lstore_n (ll2 := [(2, .long ((((mod_ v i) <<< ((8 : Int32).toInt64 &&& 63)) ||| ((mby v i) &&& (254 : Int64))) ||| (if oc (mby v i) 7 - oc (mby v i) 7 / 2 * 2 = 0 then (1 : Int64) else 0))), (8, .int (nI (7 + 1))), (7, .int (oc (mby v i) 7)), (5, .long (mby v i)), (4, .int (kk i)), (0, .long v)]) X d_M_odd_77 (by decide) rfl ?_
        refine pv_iinc (ll2 := [(4, .int (kk (i + 1))), (2, .long ((((mod_ v i) <<< ((8 : Int32).toInt64 &&& 63)) ||| ((mby v i) &&& (254 : Int64))) ||| (if oc (mby v i) 7 - oc (mby v i) 7 / 2 * 2 = 0 then (1 : Int64) else 0))), (8, .int (nI (7 + 1))), (7, .int (oc (mby v i) 7)), (5, .long (mby v i)), (0, .long v)]) X 4 (kk (i + 1)) d_M_odd_78 rfl (kk_s i h_i) (by decide) rfl ?_
        refine pv_goto X 6 d_M_odd_81 rfl ?_
        refine pv_lpick (ll2 := [(4, .int (kk (i + 1))), (2, .long (mod_ v (i + 1))), (0, .long v)]) [0, 1, 5] rfl ?_
        refine pv_eqw (ws2 := []) rfl ?_
        exact ih_i trivial
      · skip
        refine pv_lconst X 1 d_M_odd_71 (by decide) ?_
        refine pv_goto X 76 d_M_odd_72 rfl ?_
        refine pv_topl (if oc (mby v i) 7 - oc (mby v i) 7 / 2 * 2 = 0 then (1 : Int64) else 0) (by rw [if_pos h1n]) ?_
        refine pv_lor X d_M_odd_76 ?_
        refine pv_lstore_n (ll2 := [(2, .long ((((mod_ v i) <<< ((8 : Int32).toInt64 &&& 63)) ||| ((mby v i) &&& (254 : Int64))) ||| (if oc (mby v i) 7 - oc (mby v i) 7 / 2 * 2 = 0 then (1 : Int64) else 0))), (8, .int (nI (7 + 1))), (7, .int (oc (mby v i) 7)), (5, .long (mby v i)), (4, .int (kk i)), (0, .long v)]) X d_M_odd_77 (by decide) rfl ?_
        refine pv_iinc (ll2 := [(4, .int (kk (i + 1))), (2, .long ((((mod_ v i) <<< ((8 : Int32).toInt64 &&& 63)) ||| ((mby v i) &&& (254 : Int64))) ||| (if oc (mby v i) 7 - oc (mby v i) 7 / 2 * 2 = 0 then (1 : Int64) else 0))), (8, .int (nI (7 + 1))), (7, .int (oc (mby v i) 7)), (5, .long (mby v i)), (0, .long v)]) X 4 (kk (i + 1)) d_M_odd_78 rfl (kk_s i h_i) (by decide) rfl ?_
        refine pv_goto X 6 d_M_odd_81 rfl ?_
        refine pv_lpick (ll2 := [(4, .int (kk (i + 1))), (2, .long (mod_ v (i + 1))), (0, .long v)]) [0, 1, 5] rfl ?_
        refine pv_eqw (ws2 := []) rfl ?_
        exact ih_i trivial
    · skip
      refine pv_iload X 0 d_M_odd_27 rfl ?_
      refine pv_bipush X 8 d_M_odd_29 (by decide) ?_
      refine pv_icmp_ge X 53 d_M_odd_31 rfl (fun h => absurd h (nI_ge (b := 8) (by omega) (by decide))) (fun _ => ?_)
      refine pv_iload X 1 d_M_odd_34 rfl ?_
      refine pv_lload X 2 d_M_odd_36 rfl ?_
      refine pv_iload X 0 d_M_odd_38 rfl ?_
      refine pv_lshr X d_M_odd_40 ?_
      refine pv_lconst X 1 d_M_odd_41 (by decide) ?_
      refine pv_land X d_M_odd_42 ?_
      refine pv_l2i X d_M_odd_43 ?_
      refine pv_iadd X d_M_odd_44 ?_
      refine pv_istore (ll2 := [(7, .int ((oc (mby v i) j) + ((((mby v i) >>> ((nI (j + 1)).toInt64 &&& 63)) &&& (1 : Int64)).toInt32))), (8, .int (nI (j + 1))), (5, .long (mby v i)), (4, .int (kk i)), (2, .long (mod_ v i)), (0, .long v)]) X d_M_odd_45 (by decide) rfl ?_
      refine pv_iinc (ll2 := [(8, .int (nI ((j + 1) + 1))), (7, .int ((oc (mby v i) j) + ((((mby v i) >>> ((nI (j + 1)).toInt64 &&& 63)) &&& (1 : Int64)).toInt32))), (5, .long (mby v i)), (4, .int (kk i)), (2, .long (mod_ v i)), (0, .long v)]) X 1 (nI ((j + 1) + 1)) d_M_odd_47 rfl (nI_1 _) (by decide) rfl ?_
      refine pv_goto X 27 d_M_odd_50 rfl ?_
      refine pv_lpick (ll2 := [(8, .int (nI ((j + 1) + 1))), (7, .int (oc (mby v i) (j + 1))), (5, .long (mby v i)), (4, .int (kk i)), (2, .long (mod_ v i)), (0, .long v)]) [0, 1, 2, 3, 4, 5] rfl ?_
      refine pv_eqw (ws2 := []) rfl ?_
      exact ih_j trivial
def pcf : Nat → Nat → Nat
  | 0, _ => 0
  | k + 1, n => n % 2 + pcf k (n / 2)
theorem pcf_more : ∀ (k n : Nat), n < 2 ^ k → pcf (k + 1) n = pcf k n
  | 0, n, h => by have e : n = 0 := by omega
                  subst e; rfl
  | k + 1, n, h => by
    show n % 2 + pcf (k + 1) (n / 2) = n % 2 + pcf k (n / 2)
    rw [pcf_more k (n / 2) (by rw [Nat.pow_succ] at h; omega)]
abbrev pcn (n : Nat) : Nat := pcf 32 n
theorem pcn_half {n : Nat} (h : n < 2 ^ 32) : pcn n = n % 2 + pcn (n / 2) := by
  show pcf 32 n = n % 2 + pcf 32 (n / 2)
  rw [← pcf_more 32 n h]; rfl
theorem pcf_0 : ∀ k, pcf k 0 = 0
  | 0 => rfl
  | k + 1 => by show 0 % 2 + pcf k (0 / 2) = 0; simp [pcf_0 k]
abbrev rm_M_ones : Room := { frames := 0, cells := 0, slots := 0, locals := 0 }
theorem mf_M_ones : MF y_M_ones b_M_ones 3 (some .int) 1 := ⟨m_794, m_6, by decide, by decide, by decide +kernel⟩
theorem d_M_ones_0 : decode b_M_ones 0 = .ok (.iconst 0, 1) := by decide +kernel
theorem d_M_ones_1 : decode b_M_ones 1 = .ok (.istore_n 1, 1) := by decide +kernel
theorem d_M_ones_2 : decode b_M_ones 2 = .ok (.iload_n 0, 1) := by decide +kernel
theorem d_M_ones_3 : decode b_M_ones 3 = .ok (.istore_n 2, 1) := by decide +kernel
theorem d_M_ones_4 : decode b_M_ones 4 = .ok (.iload_n 2, 1) := by decide +kernel
theorem d_M_ones_5 : decode b_M_ones 5 = .ok (.ifCond .le 16, 3) := by decide +kernel
theorem d_M_ones_8 : decode b_M_ones 8 = .ok (.iload_n 1, 1) := by decide +kernel
theorem d_M_ones_9 : decode b_M_ones 9 = .ok (.iload_n 2, 1) := by decide +kernel
theorem d_M_ones_10 : decode b_M_ones 10 = .ok (.iconst 1, 1) := by decide +kernel
theorem d_M_ones_11 : decode b_M_ones 11 = .ok (.iand, 1) := by decide +kernel
theorem d_M_ones_12 : decode b_M_ones 12 = .ok (.iadd, 1) := by decide +kernel
theorem d_M_ones_13 : decode b_M_ones 13 = .ok (.istore_n 1, 1) := by decide +kernel
theorem d_M_ones_14 : decode b_M_ones 14 = .ok (.iload_n 2, 1) := by decide +kernel
theorem d_M_ones_15 : decode b_M_ones 15 = .ok (.iconst 1, 1) := by decide +kernel
theorem d_M_ones_16 : decode b_M_ones 16 = .ok (.ishr, 1) := by decide +kernel
theorem d_M_ones_17 : decode b_M_ones 17 = .ok (.istore_n 2, 1) := by decide +kernel
theorem d_M_ones_18 : decode b_M_ones 18 = .ok (.goto (-14), 3) := by decide +kernel
theorem d_M_ones_21 : decode b_M_ones 21 = .ok (.iload_n 1, 1) := by decide +kernel
theorem d_M_ones_22 : decode b_M_ones 22 = .ok (.ireturn, 1) := by decide +kernel
set_option maxRecDepth 100000 in
set_option maxHeartbeats 4000000 in
theorem c_M_ones (l : Launch) (G : Gt) (n : Nat) (hn : n < 2 ^ 31) : CtI l G y_M_ones b_M_ones 3 (some .int) rm_M_ones E0 [.int (nI n)] [] (fun r (_ : Unit) => r = nI (pcn n)) (fun _ => []) 0 0 := by
  refine Ct.of (Qp := fun A => va_Qi _ (qB G A _) A) Stb_0 (by decide) (Nat.le_of_ble_eq_true rfl) ?_
  intro p e s m args below meth c A X hE hr hlk hini
  refine pv_eql (ll2 := [(0, .int (nI n))]) rfl ?_
  refine pv_iconst X 0 d_M_ones_0 (by decide) ?_
  refine pv_istore_n (ll2 := [(1, .int 0), (0, .int (nI n))]) X d_M_ones_1 (by decide) rfl ?_
  refine pv_iload_n X 1 d_M_ones_2 rfl ?_
  refine pv_istore_n (ll2 := [(2, .int (nI n)), (1, .int 0), (0, .int (nI n))]) X d_M_ones_3 (by decide) rfl ?_
  refine pv_lpick (ll2 := [(2, .int (nI n)), (1, .int (nI 0)), (0, .int (nI n))]) [0, 1, 2] rfl ?_
  refine pv_eqw (ws2 := []) rfl ?_
  refine pv_loopM (S := Nat × Nat) (fun a => a.1) (fun a => a.1 < 2 ^ 31 ∧ a.2 + pcn a.1 = pcn n) (fun a => []) (fun a => [(2, .int (nI a.1)), (1, .int (nI a.2)), (0, .int (nI n))]) (n, 0) (⟨hn, Nat.zero_add _⟩) (fun a hI ih => ?_)
  obtain ⟨x, k⟩ := a
  obtain ⟨hx, hk⟩ := hI
  dsimp only at hx hk ⊢
  by_cases hx0 : x = 0
  · subst hx0
    refine pv_iload_n X 0 d_M_ones_4 rfl ?_
    refine pv_if_le X 21 d_M_ones_5 rfl (fun _ => ?_) (fun h => absurd (by decide) h)
    refine pv_iload_n X 1 d_M_ones_21 rfl ?_
    exact pv_iret X hr hlk () (by rw [← hk]; show nI k = nI (k + pcf 32 0); rw [pcf_0]; rfl) rfl d_M_ones_22
  · skip
    refine pv_iload_n X 0 d_M_ones_4 rfl ?_
    refine pv_if_le X 21 d_M_ones_5 rfl (fun h => absurd h (nI_nle (by omega) (by omega))) (fun _ => ?_)
    refine pv_iload_n X 1 d_M_ones_8 rfl ?_
    refine pv_iload_n X 0 d_M_ones_9 rfl ?_
    refine pv_iconst X 1 d_M_ones_10 (by decide) ?_
    refine pv_iand X d_M_ones_11 ?_
    refine pv_iadd X d_M_ones_12 ?_
    refine pv_topi (nI (k + x % 2)) (by rw [show (1 : Int32) = nI (2 ^ 1 - 1) from rfl, pk_andN (by omega) 1 (by decide), nI_add]) ?_
    refine pv_istore_n (ll2 := [(1, .int (nI (k + x % 2))), (2, .int (nI x)), (0, .int (nI n))]) X d_M_ones_13 (by decide) rfl ?_
    refine pv_iload_n X 1 d_M_ones_14 rfl ?_
    refine pv_iconst X 1 d_M_ones_15 (by decide) ?_
    refine pv_ishr X d_M_ones_16 ?_
    refine pv_topi (nI (x / 2)) (by rw [pk_shrN (by omega) _ 1 (by decide)]) ?_
    refine pv_istore_n (ll2 := [(2, .int (nI (x / 2))), (1, .int (nI (k + x % 2))), (0, .int (nI n))]) X d_M_ones_17 (by decide) rfl ?_
    refine pv_goto X 4 d_M_ones_18 rfl ?_
    refine pv_lpick (ll2 := [(2, .int (nI (x / 2))), (1, .int (nI (k + x % 2))), (0, .int (nI n))]) [0, 1, 2] rfl ?_
    exact ih (x / 2, k + x % 2) ⟨by dsimp only; omega, by dsimp only; rw [pcn_half (n := x) (by omega)] at hk; omega⟩ (by dsimp only; omega)
def cff : Nat → Nat → Nat
  | 0, c => c
  | k + 1, c => if nI (pcn c) ≤ 10 then c else cff k (c + 1)
abbrev cfn (n : Nat) : Nat := cff (2097152 - n) n
abbrev rm_M_counterFrom : Room := { frames := 1, cells := 0, slots := 0, locals := 22 }
theorem mf_M_counterFrom : MF y_M_counterFrom b_M_counterFrom 2 (some .int) 1 := ⟨m_790, m_6, by decide, by decide, by decide +kernel⟩
theorem d_M_counterFrom_0 : decode b_M_counterFrom 0 = .ok (.iload_n 0, 1) := by decide +kernel
theorem d_M_counterFrom_1 : decode b_M_counterFrom 1 = .ok (.istore_n 1, 1) := by decide +kernel
theorem d_M_counterFrom_2 : decode b_M_counterFrom 2 = .ok (.iload_n 1, 1) := by decide +kernel
theorem d_M_counterFrom_3 : decode b_M_counterFrom 3 = .ok (.ldc 192, 2) := by decide +kernel
theorem d_M_counterFrom_5 : decode b_M_counterFrom 5 = .ok (.if_icmp .ge 18, 3) := by decide +kernel
theorem d_M_counterFrom_8 : decode b_M_counterFrom 8 = .ok (.iload_n 1, 1) := by decide +kernel
theorem d_M_counterFrom_9 : decode b_M_counterFrom 9 = .ok (.invokestatic 193, 3) := by decide +kernel
theorem d_M_counterFrom_12 : decode b_M_counterFrom 12 = .ok (.bipush 10, 2) := by decide +kernel
theorem d_M_counterFrom_14 : decode b_M_counterFrom 14 = .ok (.if_icmp .le 9, 3) := by decide +kernel
theorem d_M_counterFrom_17 : decode b_M_counterFrom 17 = .ok (.iinc 1 1, 3) := by decide +kernel
theorem d_M_counterFrom_20 : decode b_M_counterFrom 20 = .ok (.goto (-18), 3) := by decide +kernel
theorem d_M_counterFrom_23 : decode b_M_counterFrom 23 = .ok (.iload_n 1, 1) := by decide +kernel
theorem d_M_counterFrom_24 : decode b_M_counterFrom 24 = .ok (.ireturn, 1) := by decide +kernel
set_option maxRecDepth 100000 in
set_option maxHeartbeats 4000000 in
theorem c_M_counterFrom (l : Launch) (G : Gt) (n : Nat) (hn : n ≤ 2097152) : CtI l G y_M_counterFrom b_M_counterFrom 2 (some .int) rm_M_counterFrom E0 [.int (nI n)] [] (fun r (_ : Unit) => r = nI (cfn n)) (fun _ => []) 0 0 := by
  refine Ct.of (Qp := fun A => va_Qi _ (qB G A _) A) Stb_0 (by decide) (Nat.le_of_ble_eq_true rfl) ?_
  intro p e s m args below meth c A X hE hr hlk hini
  refine pv_eql (ll2 := [(0, .int (nI n))]) rfl ?_
  refine pv_iload_n X 0 d_M_counterFrom_0 rfl ?_
  refine pv_istore_n (ll2 := [(1, .int (nI n)), (0, .int (nI n))]) X d_M_counterFrom_1 (by decide) rfl ?_
  refine pv_lpick (ll2 := [(1, .int (nI n)), (0, .int (nI n))]) [0, 1] rfl ?_
  refine pv_eqw (ws2 := []) rfl ?_
  refine pv_loopM (S := Nat) (fun a => 2097152 - a) (fun a => a ≤ 2097152 ∧ cff (2097152 - a) a = cfn n) (fun a => []) (fun a => [(1, .int (nI a)), (0, .int (nI n))]) n (⟨hn, rfl⟩) (fun a hI ih => ?_)
  obtain ⟨hx, hk⟩ := hI
  by_cases hx0 : a = 2097152
  · subst hx0
    refine pv_iload_n X 0 d_M_counterFrom_2 rfl ?_
    refine pv_ldc X m_791 d_M_counterFrom_3 ?_
    refine pv_icmp_ge X 23 d_M_counterFrom_5 rfl (fun _ => ?_) (fun h => absurd (by decide) h)
    refine pv_iload_n X 0 d_M_counterFrom_23 rfl ?_
    exact pv_iret X hr hlk () (congrArg nI hk) rfl d_M_counterFrom_24
  · obtain ⟨k, hk2⟩ : ∃ k, 2097152 - a = k + 1 := ⟨2097151 - a, by omega⟩
    rw [hk2] at hk
    refine pv_iload_n X 0 d_M_counterFrom_2 rfl ?_
    refine pv_ldc X m_791 d_M_counterFrom_3 ?_
    refine pv_icmp_ge X 23 d_M_counterFrom_5 rfl (fun h => absurd h (nI_ge (b := 2097152) (by omega) (by decide))) (fun _ => ?_)
    refine pv_iload_n X 0 d_M_counterFrom_8 rfl ?_
    refine pv_calli0 X (rn_S X (c_M_ones l G a (by omega)) trivial mf_M_ones m_792 m_793 rfl (by decide) (by decide) rfl (Nat.le_of_ble_eq_true rfl) d_M_counterFrom_9) ?_
    refine pv_bipush X 10 d_M_counterFrom_12 (by decide) ?_
    refine pv_icmp_le X 23 d_M_counterFrom_14 rfl (fun h2 => ?_) (fun h2n => ?_)
    · skip
      refine pv_iload_n X 0 d_M_counterFrom_23 rfl ?_
      exact pv_iret X hr hlk () (by rw [← hk]; show nI a = nI (cff (k + 1) a); rw [cff, if_pos h2]) rfl d_M_counterFrom_24
    · skip
      refine pv_iinc (ll2 := [(1, .int (nI (a + 1))), (0, .int (nI n))]) X 0 (nI (a + 1)) d_M_counterFrom_17 rfl (nI_1 _) (by decide) rfl ?_
      refine pv_goto X 2 d_M_counterFrom_20 rfl ?_
      refine pv_lpick (ll2 := [(1, .int (nI (a + 1))), (0, .int (nI n))]) [0, 1] rfl ?_
      exact ih (a + 1) ⟨by omega, by rw [show 2097152 - (a + 1) = k by omega, ← hk]; show _ = cff (k + 1) a; rw [cff, if_neg h2n]⟩ (by omega)
