theorem fi_tb_perm : updN (fun _ => 0) 0 [16, 7, 20, 21, 29, 12, 28, 17, 1, 15, 23, 26, 5, 18, 31, 10, 2, 8, 24, 14, 32, 27, 3, 9, 19, 13, 30, 6, 22, 11, 4, 25] = tb_perm := by
  funext j
  rw [updN_at]
  unfold tb_perm
  by_cases h : j < 32
  · rw [if_pos ⟨Nat.zero_le _, by simpa using h⟩, Nat.sub_zero]
    exact (co_dec (N := 32) (P := fun j => nI (([16, 7, 20, 21, 29, 12, 28, 17, 1, 15, 23, 26, 5, 18, 31, 10, 2, 8, 24, 14, 32, 27, 3, 9, 19, 13, 30, 6, 22, 11, 4, 25] : List Nat).getD j 0) = ([16, 7, 20, 21, 29, 12, 28, 17, 1, 15, 23, 26, 5, 18, 31, 10, 2, 8, 24, 14, 32, 27, 3, 9, 19, 13, 30, 6, 22, 11, 4, 25] : List Int32).getD j 0) (by decide +kernel) h)
  · rw [if_neg (by simp; omega)]
    rw [List.getD_eq_getElem?_getD, List.getElem?_eq_none (by simp; omega)]; rfl
theorem fi_tb_c1 : updN (fun _ => 0) 0 [57, 49, 41, 33, 25, 17, 9, 1, 58, 50, 42, 34, 26, 18, 10, 2, 59, 51, 43, 35, 27, 19, 11, 3, 60, 52, 44, 36, 63, 55, 47, 39, 31, 23, 15, 7, 62, 54, 46, 38, 30, 22, 14, 6, 61, 53, 45, 37, 29, 21, 13, 5, 28, 20, 12, 4] = tb_c1 := by
  funext j
  rw [updN_at]
  unfold tb_c1
  by_cases h : j < 56
  · rw [if_pos ⟨Nat.zero_le _, by simpa using h⟩, Nat.sub_zero]
    exact (co_dec (N := 56) (P := fun j => nI (([57, 49, 41, 33, 25, 17, 9, 1, 58, 50, 42, 34, 26, 18, 10, 2, 59, 51, 43, 35, 27, 19, 11, 3, 60, 52, 44, 36, 63, 55, 47, 39, 31, 23, 15, 7, 62, 54, 46, 38, 30, 22, 14, 6, 61, 53, 45, 37, 29, 21, 13, 5, 28, 20, 12, 4] : List Nat).getD j 0) = ([57, 49, 41, 33, 25, 17, 9, 1, 58, 50, 42, 34, 26, 18, 10, 2, 59, 51, 43, 35, 27, 19, 11, 3, 60, 52, 44, 36, 63, 55, 47, 39, 31, 23, 15, 7, 62, 54, 46, 38, 30, 22, 14, 6, 61, 53, 45, 37, 29, 21, 13, 5, 28, 20, 12, 4] : List Int32).getD j 0) (by decide +kernel) h)
  · rw [if_neg (by simp; omega)]
    rw [List.getD_eq_getElem?_getD, List.getElem?_eq_none (by simp; omega)]; rfl
theorem fi_tb_c2 : updN (fun _ => 0) 0 [14, 17, 11, 24, 1, 5, 3, 28, 15, 6, 21, 10, 23, 19, 12, 4, 26, 8, 16, 7, 27, 20, 13, 2, 41, 52, 31, 37, 47, 55, 30, 40, 51, 45, 33, 48, 44, 49, 39, 56, 34, 53, 46, 42, 50, 36, 29, 32] = tb_c2 := by
  funext j
  rw [updN_at]
  unfold tb_c2
  by_cases h : j < 48
  · rw [if_pos ⟨Nat.zero_le _, by simpa using h⟩, Nat.sub_zero]
    exact (co_dec (N := 48) (P := fun j => nI (([14, 17, 11, 24, 1, 5, 3, 28, 15, 6, 21, 10, 23, 19, 12, 4, 26, 8, 16, 7, 27, 20, 13, 2, 41, 52, 31, 37, 47, 55, 30, 40, 51, 45, 33, 48, 44, 49, 39, 56, 34, 53, 46, 42, 50, 36, 29, 32] : List Nat).getD j 0) = ([14, 17, 11, 24, 1, 5, 3, 28, 15, 6, 21, 10, 23, 19, 12, 4, 26, 8, 16, 7, 27, 20, 13, 2, 41, 52, 31, 37, 47, 55, 30, 40, 51, 45, 33, 48, 44, 49, 39, 56, 34, 53, 46, 42, 50, 36, 29, 32] : List Int32).getD j 0) (by decide +kernel) h)
  · rw [if_neg (by simp; omega)]
    rw [List.getD_eq_getElem?_getD, List.getElem?_eq_none (by simp; omega)]; rfl
theorem fi_tb_box : updN (fun _ => 0) 0 [14, 4, 13, 1, 2, 15, 11, 8, 3, 10, 6, 12, 5, 9, 0, 7, 0, 15, 7, 4, 14, 2, 13, 1, 10, 6, 12, 11, 9, 5, 3, 8, 4, 1, 14, 8, 13, 6, 2, 11, 15, 12, 9, 7, 3, 10, 5, 0, 15, 12, 8, 2, 4, 9, 1, 7, 5, 11, 3, 14, 10, 0, 6, 13, 15, 1, 8, 14, 6, 11, 3, 4, 9, 7, 2, 13, 12, 0, 5, 10, 3, 13, 4, 7, 15, 2, 8, 14, 12, 0, 1, 10, 6, 9, 11, 5, 0, 14, 7, 11, 10, 4, 13, 1, 5, 8, 12, 6, 9, 3, 2, 15, 13, 8, 10, 1, 3, 15, 4, 2, 11, 6, 7, 12, 0, 5, 14, 9, 10, 0, 9, 14, 6, 3, 15, 5, 1, 13, 12, 7, 11, 4, 2, 8, 13, 7, 0, 9, 3, 4, 6, 10, 2, 8, 5, 14, 12, 11, 15, 1, 13, 6, 4, 9, 8, 15, 3, 0, 11, 1, 2, 12, 5, 10, 14, 7, 1, 10, 13, 0, 6, 9, 8, 7, 4, 15, 14, 3, 11, 5, 2, 12, 7, 13, 14, 3, 0, 6, 9, 10, 1, 2, 8, 5, 11, 12, 4, 15, 13, 8, 11, 5, 6, 15, 0, 3, 4, 7, 2, 12, 1, 10, 14, 9, 10, 6, 9, 0, 12, 11, 7, 13, 15, 1, 3, 14, 5, 2, 8, 4, 3, 15, 0, 6, 10, 1, 13, 8, 9, 4, 5, 11, 12, 7, 2, 14, 2, 12, 4, 1, 7, 10, 11, 6, 8, 5, 3, 15, 13, 0, 14, 9, 14, 11, 2, 12, 4, 7, 13, 1, 5, 0, 15, 10, 3, 9, 8, 6, 4, 2, 1, 11, 10, 13, 7, 8, 15, 9, 12, 5, 6, 3, 0, 14, 11, 8, 12, 7, 1, 14, 2, 13, 6, 15, 0, 9, 10, 4, 5, 3, 12, 1, 10, 15, 9, 2, 6, 8, 0, 13, 3, 4, 14, 7, 5, 11, 10, 15, 4, 2, 7, 12, 9, 5, 6, 1, 13, 14, 0, 11, 3, 8, 9, 14, 15, 5, 2, 8, 12, 3, 7, 0, 4, 10, 1, 13, 11, 6, 4, 3, 2, 12, 9, 5, 15, 10, 11, 14, 1, 7, 6, 0, 8, 13, 4, 11, 2, 14, 15, 0, 8, 13, 3, 12, 9, 7, 5, 10, 6, 1, 13, 0, 11, 7, 4, 9, 1, 10, 14, 3, 5, 12, 2, 15, 8, 6, 1, 4, 11, 13, 12, 3, 7, 14, 10, 15, 6, 8, 0, 5, 9, 2, 6, 11, 13, 8, 1, 4, 10, 7, 9, 5, 0, 15, 14, 2, 3, 12, 13, 2, 8, 4, 6, 15, 11, 1, 10, 9, 3, 14, 5, 0, 12, 7, 1, 15, 13, 8, 10, 3, 7, 4, 12, 5, 6, 11, 0, 14, 9, 2, 7, 11, 4, 1, 9, 12, 14, 2, 0, 6, 10, 13, 15, 3, 5, 8, 2, 1, 14, 7, 4, 10, 8, 13, 15, 12, 9, 0, 3, 5, 6, 11] = tb_box := by
  funext j
  rw [updN_at]
  unfold tb_box
  by_cases h : j < 512
  · rw [if_pos ⟨Nat.zero_le _, by simpa using h⟩, Nat.sub_zero]
    exact (co_dec (N := 512) (P := fun j => nI (([14, 4, 13, 1, 2, 15, 11, 8, 3, 10, 6, 12, 5, 9, 0, 7, 0, 15, 7, 4, 14, 2, 13, 1, 10, 6, 12, 11, 9, 5, 3, 8, 4, 1, 14, 8, 13, 6, 2, 11, 15, 12, 9, 7, 3, 10, 5, 0, 15, 12, 8, 2, 4, 9, 1, 7, 5, 11, 3, 14, 10, 0, 6, 13, 15, 1, 8, 14, 6, 11, 3, 4, 9, 7, 2, 13, 12, 0, 5, 10, 3, 13, 4, 7, 15, 2, 8, 14, 12, 0, 1, 10, 6, 9, 11, 5, 0, 14, 7, 11, 10, 4, 13, 1, 5, 8, 12, 6, 9, 3, 2, 15, 13, 8, 10, 1, 3, 15, 4, 2, 11, 6, 7, 12, 0, 5, 14, 9, 10, 0, 9, 14, 6, 3, 15, 5, 1, 13, 12, 7, 11, 4, 2, 8, 13, 7, 0, 9, 3, 4, 6, 10, 2, 8, 5, 14, 12, 11, 15, 1, 13, 6, 4, 9, 8, 15, 3, 0, 11, 1, 2, 12, 5, 10, 14, 7, 1, 10, 13, 0, 6, 9, 8, 7, 4, 15, 14, 3, 11, 5, 2, 12, 7, 13, 14, 3, 0, 6, 9, 10, 1, 2, 8, 5, 11, 12, 4, 15, 13, 8, 11, 5, 6, 15, 0, 3, 4, 7, 2, 12, 1, 10, 14, 9, 10, 6, 9, 0, 12, 11, 7, 13, 15, 1, 3, 14, 5, 2, 8, 4, 3, 15, 0, 6, 10, 1, 13, 8, 9, 4, 5, 11, 12, 7, 2, 14, 2, 12, 4, 1, 7, 10, 11, 6, 8, 5, 3, 15, 13, 0, 14, 9, 14, 11, 2, 12, 4, 7, 13, 1, 5, 0, 15, 10, 3, 9, 8, 6, 4, 2, 1, 11, 10, 13, 7, 8, 15, 9, 12, 5, 6, 3, 0, 14, 11, 8, 12, 7, 1, 14, 2, 13, 6, 15, 0, 9, 10, 4, 5, 3, 12, 1, 10, 15, 9, 2, 6, 8, 0, 13, 3, 4, 14, 7, 5, 11, 10, 15, 4, 2, 7, 12, 9, 5, 6, 1, 13, 14, 0, 11, 3, 8, 9, 14, 15, 5, 2, 8, 12, 3, 7, 0, 4, 10, 1, 13, 11, 6, 4, 3, 2, 12, 9, 5, 15, 10, 11, 14, 1, 7, 6, 0, 8, 13, 4, 11, 2, 14, 15, 0, 8, 13, 3, 12, 9, 7, 5, 10, 6, 1, 13, 0, 11, 7, 4, 9, 1, 10, 14, 3, 5, 12, 2, 15, 8, 6, 1, 4, 11, 13, 12, 3, 7, 14, 10, 15, 6, 8, 0, 5, 9, 2, 6, 11, 13, 8, 1, 4, 10, 7, 9, 5, 0, 15, 14, 2, 3, 12, 13, 2, 8, 4, 6, 15, 11, 1, 10, 9, 3, 14, 5, 0, 12, 7, 1, 15, 13, 8, 10, 3, 7, 4, 12, 5, 6, 11, 0, 14, 9, 2, 7, 11, 4, 1, 9, 12, 14, 2, 0, 6, 10, 13, 15, 3, 5, 8, 2, 1, 14, 7, 4, 10, 8, 13, 15, 12, 9, 0, 3, 5, 6, 11] : List Nat).getD j 0) = ([14, 4, 13, 1, 2, 15, 11, 8, 3, 10, 6, 12, 5, 9, 0, 7, 0, 15, 7, 4, 14, 2, 13, 1, 10, 6, 12, 11, 9, 5, 3, 8, 4, 1, 14, 8, 13, 6, 2, 11, 15, 12, 9, 7, 3, 10, 5, 0, 15, 12, 8, 2, 4, 9, 1, 7, 5, 11, 3, 14, 10, 0, 6, 13, 15, 1, 8, 14, 6, 11, 3, 4, 9, 7, 2, 13, 12, 0, 5, 10, 3, 13, 4, 7, 15, 2, 8, 14, 12, 0, 1, 10, 6, 9, 11, 5, 0, 14, 7, 11, 10, 4, 13, 1, 5, 8, 12, 6, 9, 3, 2, 15, 13, 8, 10, 1, 3, 15, 4, 2, 11, 6, 7, 12, 0, 5, 14, 9, 10, 0, 9, 14, 6, 3, 15, 5, 1, 13, 12, 7, 11, 4, 2, 8, 13, 7, 0, 9, 3, 4, 6, 10, 2, 8, 5, 14, 12, 11, 15, 1, 13, 6, 4, 9, 8, 15, 3, 0, 11, 1, 2, 12, 5, 10, 14, 7, 1, 10, 13, 0, 6, 9, 8, 7, 4, 15, 14, 3, 11, 5, 2, 12, 7, 13, 14, 3, 0, 6, 9, 10, 1, 2, 8, 5, 11, 12, 4, 15, 13, 8, 11, 5, 6, 15, 0, 3, 4, 7, 2, 12, 1, 10, 14, 9, 10, 6, 9, 0, 12, 11, 7, 13, 15, 1, 3, 14, 5, 2, 8, 4, 3, 15, 0, 6, 10, 1, 13, 8, 9, 4, 5, 11, 12, 7, 2, 14, 2, 12, 4, 1, 7, 10, 11, 6, 8, 5, 3, 15, 13, 0, 14, 9, 14, 11, 2, 12, 4, 7, 13, 1, 5, 0, 15, 10, 3, 9, 8, 6, 4, 2, 1, 11, 10, 13, 7, 8, 15, 9, 12, 5, 6, 3, 0, 14, 11, 8, 12, 7, 1, 14, 2, 13, 6, 15, 0, 9, 10, 4, 5, 3, 12, 1, 10, 15, 9, 2, 6, 8, 0, 13, 3, 4, 14, 7, 5, 11, 10, 15, 4, 2, 7, 12, 9, 5, 6, 1, 13, 14, 0, 11, 3, 8, 9, 14, 15, 5, 2, 8, 12, 3, 7, 0, 4, 10, 1, 13, 11, 6, 4, 3, 2, 12, 9, 5, 15, 10, 11, 14, 1, 7, 6, 0, 8, 13, 4, 11, 2, 14, 15, 0, 8, 13, 3, 12, 9, 7, 5, 10, 6, 1, 13, 0, 11, 7, 4, 9, 1, 10, 14, 3, 5, 12, 2, 15, 8, 6, 1, 4, 11, 13, 12, 3, 7, 14, 10, 15, 6, 8, 0, 5, 9, 2, 6, 11, 13, 8, 1, 4, 10, 7, 9, 5, 0, 15, 14, 2, 3, 12, 13, 2, 8, 4, 6, 15, 11, 1, 10, 9, 3, 14, 5, 0, 12, 7, 1, 15, 13, 8, 10, 3, 7, 4, 12, 5, 6, 11, 0, 14, 9, 2, 7, 11, 4, 1, 9, 12, 14, 2, 0, 6, 10, 13, 15, 3, 5, 8, 2, 1, 14, 7, 4, 10, 8, 13, 15, 12, 9, 0, 3, 5, 6, 11] : List Int32).getD j 0) (by decide +kernel) h)
  · rw [if_neg (by simp; omega)]
    rw [List.getD_eq_getElem?_getD, List.getElem?_eq_none (by simp; omega)]; rfl
def minu (i : Nat) : Nat → Int32 := fun j => if j < i then -1 else 0
theorem minu_0 : (fun _ => 0) = minu 0 := by funext j; unfold minu; rw [if_neg (Nat.not_lt_zero _)]
theorem minu_s (i : Nat) : upd (minu i) i (-1) = minu (i + 1) := by
  funext j; unfold minu upd
  by_cases h : j = i
  · subst h; rw [if_pos rfl, if_pos (Nat.lt_succ_self _)]
  · rw [if_neg h]
    show (if j < i then (-1 : Int32) else 0) = _
    by_cases h2 : j < i
    · rw [if_pos h2, if_pos (by omega)]
    · rw [if_neg h2, if_neg (by omega)]
abbrev rm_M_init : Room := { frames := 1, cells := 18, slots := 793, locals := 20 }
theorem mf_M_init : MF y_M_init b_M_init 2 none 0 := ⟨m_572, m_6, by decide, by decide, by decide +kernel⟩
theorem d_M_init_0 : decode b_M_init 0 = .ok (.aload_n 0, 1) := by decide +kernel
theorem d_M_init_1 : decode b_M_init 1 = .ok (.invokespecial 1, 3) := by decide +kernel
theorem d_M_init_4 : decode b_M_init 4 = .ok (.aload_n 0, 1) := by decide +kernel
theorem d_M_init_5 : decode b_M_init 5 = .ok (.bipush 32, 2) := by decide +kernel
theorem d_M_init_7 : decode b_M_init 7 = .ok (.newarray .int, 2) := by decide +kernel
theorem d_M_init_190 : decode b_M_init 190 = .ok (.putfield 7, 3) := by decide +kernel
theorem d_M_init_193 : decode b_M_init 193 = .ok (.aload_n 0, 1) := by decide +kernel
theorem d_M_init_194 : decode b_M_init 194 = .ok (.bipush 56, 2) := by decide +kernel
theorem d_M_init_196 : decode b_M_init 196 = .ok (.newarray .int, 2) := by decide +kernel
theorem d_M_init_523 : decode b_M_init 523 = .ok (.putfield 13, 3) := by decide +kernel
theorem d_M_init_526 : decode b_M_init 526 = .ok (.aload_n 0, 1) := by decide +kernel
theorem d_M_init_527 : decode b_M_init 527 = .ok (.bipush 48, 2) := by decide +kernel
theorem d_M_init_529 : decode b_M_init 529 = .ok (.newarray .int, 2) := by decide +kernel
theorem d_M_init_808 : decode b_M_init 808 = .ok (.putfield 16, 3) := by decide +kernel
theorem d_M_init_811 : decode b_M_init 811 = .ok (.aload_n 0, 1) := by decide +kernel
theorem d_M_init_812 : decode b_M_init 812 = .ok (.sipush 512, 3) := by decide +kernel
theorem d_M_init_815 : decode b_M_init 815 = .ok (.newarray .int, 2) := by decide +kernel
theorem d_M_init_4075 : decode b_M_init 4075 = .ok (.putfield 19, 3) := by decide +kernel
theorem d_M_init_4078 : decode b_M_init 4078 = .ok (.aload_n 0, 1) := by decide +kernel
theorem d_M_init_4079 : decode b_M_init 4079 = .ok (.bipush 6, 2) := by decide +kernel
theorem d_M_init_4081 : decode b_M_init 4081 = .ok (.newarray .long, 2) := by decide +kernel
theorem d_M_init_4083 : decode b_M_init 4083 = .ok (.putfield 22, 3) := by decide +kernel
theorem d_M_init_4086 : decode b_M_init 4086 = .ok (.aload_n 0, 1) := by decide +kernel
theorem d_M_init_4087 : decode b_M_init 4087 = .ok (.bipush 6, 2) := by decide +kernel
theorem d_M_init_4089 : decode b_M_init 4089 = .ok (.newarray .boolean, 2) := by decide +kernel
theorem d_M_init_4091 : decode b_M_init 4091 = .ok (.putfield 26, 3) := by decide +kernel
theorem d_M_init_4094 : decode b_M_init 4094 = .ok (.aload_n 0, 1) := by decide +kernel
theorem d_M_init_4095 : decode b_M_init 4095 = .ok (.bipush 16, 2) := by decide +kernel
theorem d_M_init_4097 : decode b_M_init 4097 = .ok (.newarray .int, 2) := by decide +kernel
theorem d_M_init_4099 : decode b_M_init 4099 = .ok (.putfield 30, 3) := by decide +kernel
theorem d_M_init_4102 : decode b_M_init 4102 = .ok (.aload_n 0, 1) := by decide +kernel
theorem d_M_init_4103 : decode b_M_init 4103 = .ok (.bipush 16, 2) := by decide +kernel
theorem d_M_init_4105 : decode b_M_init 4105 = .ok (.newarray .boolean, 2) := by decide +kernel
theorem d_M_init_4107 : decode b_M_init 4107 = .ok (.putfield 33, 3) := by decide +kernel
theorem d_M_init_4110 : decode b_M_init 4110 = .ok (.aload_n 0, 1) := by decide +kernel
theorem d_M_init_4111 : decode b_M_init 4111 = .ok (.bipush 16, 2) := by decide +kernel
theorem d_M_init_4113 : decode b_M_init 4113 = .ok (.newarray .long, 2) := by decide +kernel
theorem d_M_init_4115 : decode b_M_init 4115 = .ok (.putfield 36, 3) := by decide +kernel
theorem d_M_init_4118 : decode b_M_init 4118 = .ok (.aload_n 0, 1) := by decide +kernel
theorem d_M_init_4119 : decode b_M_init 4119 = .ok (.bipush 16, 2) := by decide +kernel
theorem d_M_init_4121 : decode b_M_init 4121 = .ok (.newarray .long, 2) := by decide +kernel
theorem d_M_init_4123 : decode b_M_init 4123 = .ok (.putfield 39, 3) := by decide +kernel
theorem d_M_init_4126 : decode b_M_init 4126 = .ok (.aload_n 0, 1) := by decide +kernel
theorem d_M_init_4127 : decode b_M_init 4127 = .ok (.bipush 8, 2) := by decide +kernel
theorem d_M_init_4129 : decode b_M_init 4129 = .ok (.newarray .boolean, 2) := by decide +kernel
theorem d_M_init_4131 : decode b_M_init 4131 = .ok (.putfield 42, 3) := by decide +kernel
theorem d_M_init_4134 : decode b_M_init 4134 = .ok (.aload_n 0, 1) := by decide +kernel
theorem d_M_init_4135 : decode b_M_init 4135 = .ok (.bipush 8, 2) := by decide +kernel
theorem d_M_init_4137 : decode b_M_init 4137 = .ok (.newarray .long, 2) := by decide +kernel
theorem d_M_init_4139 : decode b_M_init 4139 = .ok (.putfield 45, 3) := by decide +kernel
theorem d_M_init_4142 : decode b_M_init 4142 = .ok (.aload_n 0, 1) := by decide +kernel
theorem d_M_init_4143 : decode b_M_init 4143 = .ok (.bipush 8, 2) := by decide +kernel
theorem d_M_init_4145 : decode b_M_init 4145 = .ok (.newarray .long, 2) := by decide +kernel
theorem d_M_init_4147 : decode b_M_init 4147 = .ok (.putfield 48, 3) := by decide +kernel
theorem d_M_init_4150 : decode b_M_init 4150 = .ok (.aload_n 0, 1) := by decide +kernel
theorem d_M_init_4151 : decode b_M_init 4151 = .ok (.bipush 8, 2) := by decide +kernel
theorem d_M_init_4153 : decode b_M_init 4153 = .ok (.newarray .long, 2) := by decide +kernel
theorem d_M_init_4155 : decode b_M_init 4155 = .ok (.putfield 51, 3) := by decide +kernel
theorem d_M_init_4158 : decode b_M_init 4158 = .ok (.aload_n 0, 1) := by decide +kernel
theorem d_M_init_4159 : decode b_M_init 4159 = .ok (.bipush 8, 2) := by decide +kernel
theorem d_M_init_4161 : decode b_M_init 4161 = .ok (.newarray .int, 2) := by decide +kernel
theorem d_M_init_4163 : decode b_M_init 4163 = .ok (.putfield 54, 3) := by decide +kernel
theorem d_M_init_4166 : decode b_M_init 4166 = .ok (.aload_n 0, 1) := by decide +kernel
theorem d_M_init_4167 : decode b_M_init 4167 = .ok (.iconst 5, 1) := by decide +kernel
theorem d_M_init_4168 : decode b_M_init 4168 = .ok (.newarray .long, 2) := by decide +kernel
theorem d_M_init_4170 : decode b_M_init 4170 = .ok (.putfield 57, 3) := by decide +kernel
theorem d_M_init_4173 : decode b_M_init 4173 = .ok (.aload_n 0, 1) := by decide +kernel
theorem d_M_init_4174 : decode b_M_init 4174 = .ok (.bipush 8, 2) := by decide +kernel
theorem d_M_init_4176 : decode b_M_init 4176 = .ok (.newarray .long, 2) := by decide +kernel
theorem d_M_init_4178 : decode b_M_init 4178 = .ok (.putfield 60, 3) := by decide +kernel
theorem d_M_init_4181 : decode b_M_init 4181 = .ok (.aload_n 0, 1) := by decide +kernel
theorem d_M_init_4182 : decode b_M_init 4182 = .ok (.bipush 16, 2) := by decide +kernel
theorem d_M_init_4184 : decode b_M_init 4184 = .ok (.newarray .long, 2) := by decide +kernel
theorem d_M_init_4186 : decode b_M_init 4186 = .ok (.putfield 63, 3) := by decide +kernel
theorem d_M_init_4189 : decode b_M_init 4189 = .ok (.iconst 0, 1) := by decide +kernel
theorem d_M_init_4190 : decode b_M_init 4190 = .ok (.istore_n 1, 1) := by decide +kernel
theorem d_M_init_4191 : decode b_M_init 4191 = .ok (.iload_n 1, 1) := by decide +kernel
theorem d_M_init_4192 : decode b_M_init 4192 = .ok (.bipush 16, 2) := by decide +kernel
theorem d_M_init_4194 : decode b_M_init 4194 = .ok (.if_icmp .ge 16, 3) := by decide +kernel
theorem d_M_init_4197 : decode b_M_init 4197 = .ok (.aload_n 0, 1) := by decide +kernel
theorem d_M_init_4198 : decode b_M_init 4198 = .ok (.getfield 30, 3) := by decide +kernel
theorem d_M_init_4201 : decode b_M_init 4201 = .ok (.iload_n 1, 1) := by decide +kernel
theorem d_M_init_4202 : decode b_M_init 4202 = .ok (.iconst (-1), 1) := by decide +kernel
theorem d_M_init_4203 : decode b_M_init 4203 = .ok (.iastore, 1) := by decide +kernel
theorem d_M_init_4204 : decode b_M_init 4204 = .ok (.iinc 1 1, 3) := by decide +kernel
theorem d_M_init_4207 : decode b_M_init 4207 = .ok (.goto (-16), 3) := by decide +kernel
theorem d_M_init_4210 : decode b_M_init 4210 = .ok (.return_, 1) := by decide +kernel
set_option maxRecDepth 100000 in
set_option maxHeartbeats 4000000 in
theorem c_M_init (l : Launch) (G : Gt) (zm : Nat) : CtV l G y_M_init b_M_init 2 none rm_M_init E0 [.ref zm] [ob zm 5 [.null, .null, .null, .null, .int 0, .null, .null, .int 0, .long 0, .long 0, .null, .null, .null, .null, .null, .null, .null, .null, .null, .null, .null, .null, .long 0, .long 0, .int 0, .long 0]] (fun (_ : Nat → Nat) => True) (fun (x : Nat → Nat) => [ob zm 5 [.ref (x 0), .ref (x 1), .ref (x 2), .ref (x 3), .int 0, .ref (x 4), .ref (x 5), .int 0, .long 0, .long 0, .ref (x 6), .ref (x 7), .ref (x 8), .ref (x 9), .ref (x 10), .ref (x 11), .ref (x 12), .ref (x 13), .ref (x 14), .ref (x 15), .ref (x 16), .ref (x 17), .long 0, .long 0, .int 0, .long 0], aI G (x 0) 32 tb_perm, aI G (x 1) 56 tb_c1, aI G (x 2) 48 tb_c2, aI G (x 3) 512 tb_box, aJ G (x 4) 6 (fun _ => 0), aZ G (x 5) 6 (fun _ => 0), aI G (x 6) 16 (minu 16), aZ G (x 7) 16 (fun _ => 0), aJ G (x 8) 16 (fun _ => 0), aJ G (x 9) 16 (fun _ => 0), aZ G (x 10) 8 (fun _ => 0), aJ G (x 11) 8 (fun _ => 0), aJ G (x 12) 8 (fun _ => 0), aJ G (x 13) 8 (fun _ => 0), aI G (x 14) 8 (fun _ => 0), aJ G (x 15) 5 (fun _ => 0), aJ G (x 16) 8 (fun _ => 0), aJ G (x 17) 16 (fun _ => 0)]) 18 793 := by
  refine Ct.of (Qp := fun A => va_Qv _ (qB G A _) A) Stb_0 (by decide) (Nat.le_of_ble_eq_true rfl) ?_
  intro p e s m args below meth c A X hE hr hlk hini
  refine pv_eql (ll2 := [(0, .ref zm)]) rfl ?_
  refine pv_aload_n X 0 d_M_init_0 rfl ?_
  refine pv_objInit X m_573 m_22 m_23 (by decide) (Nat.le_of_ble_eq_true rfl) d_M_init_1 ?_
  refine pv_aload_n X 0 d_M_init_4 rfl ?_
  refine pv_bipush X 32 d_M_init_5 (by decide) ?_
  refine pv_newaI X 32 m_53 (by decide) (by decide) (by decide) (by decide) (by decide) d_M_init_7 (fun zmp => ?_)
  refine pv_eqw (ws2 := [ob zm 5 [.null, .null, .null, .null, .int 0, .null, .null, .int 0, .long 0, .long 0, .null, .null, .null, .null, .null, .null, .null, .null, .null, .null, .null, .null, .long 0, .long 0, .int 0, .long 0], aI G zmp 32 (fun _ => 0)]) rfl ?_
  refine pv_fill (a := zmp) (N := 32) (q0 := 1) X (by decide) [16, 7, 20, 21, 29, 12, 28, 17, 1, 15, 23, 26, 5, 18, 31, 10, 2, 8, 24, 14, 32, 27, 3, 9, 19, 13, 30, 6, 22, 11, 4, 25] _ (fun _ => 0) 0 9 181 (by decide +kernel) (by decide) rfl ?_
  refine pv_eqw (ws2 := [ob zm 5 [.null, .null, .null, .null, .int 0, .null, .null, .int 0, .long 0, .long 0, .null, .null, .null, .null, .null, .null, .null, .null, .null, .null, .null, .null, .long 0, .long 0, .int 0, .long 0], aI G zmp 32 tb_perm]) (by rw [fi_tb_perm]; rfl) ?_
  refine pv_putF X hini (ty := .array .int) (ws2 := [ob zm 5 [.ref zmp, .null, .null, .null, .int 0, .null, .null, .int 0, .long 0, .long 0, .null, .null, .null, .null, .null, .null, .null, .null, .null, .null, .null, .null, .long 0, .long 0, .int 0, .long 0], aI G zmp 32 tb_perm]) 0 0 ty_M ty_M_ok n_M u_M_in m_574 rfl rfl (by decide) ⟨rfl, rfl, rfl⟩ rfl rfl (by decide +kernel) rfl rfl (Nat.le_of_ble_eq_true rfl) rfl d_M_init_190 ?_
  refine pv_aload_n X 0 d_M_init_193 rfl ?_
  refine pv_bipush X 56 d_M_init_194 (by decide) ?_
  refine pv_newaI X 56 m_53 (by decide) (by decide) (by decide) (by decide) (by decide) d_M_init_196 (fun zm1 => ?_)
  refine pv_eqw (ws2 := [ob zm 5 [.ref zmp, .null, .null, .null, .int 0, .null, .null, .int 0, .long 0, .long 0, .null, .null, .null, .null, .null, .null, .null, .null, .null, .null, .null, .null, .long 0, .long 0, .int 0, .long 0], aI G zmp 32 tb_perm, aI G zm1 56 (fun _ => 0)]) rfl ?_
  refine pv_fill (a := zm1) (N := 56) (q0 := 2) X (by decide) [57, 49, 41, 33, 25, 17, 9, 1, 58, 50, 42, 34, 26, 18, 10, 2, 59, 51, 43, 35, 27, 19, 11, 3, 60, 52, 44, 36, 63, 55, 47, 39, 31, 23, 15, 7, 62, 54, 46, 38, 30, 22, 14, 6, 61, 53, 45, 37, 29, 21, 13, 5, 28, 20, 12, 4] _ (fun _ => 0) 0 198 325 (by decide +kernel) (by decide) rfl ?_
  refine pv_eqw (ws2 := [ob zm 5 [.ref zmp, .null, .null, .null, .int 0, .null, .null, .int 0, .long 0, .long 0, .null, .null, .null, .null, .null, .null, .null, .null, .null, .null, .null, .null, .long 0, .long 0, .int 0, .long 0], aI G zmp 32 tb_perm, aI G zm1 56 tb_c1]) (by rw [fi_tb_c1]; rfl) ?_
  refine pv_putF X hini (ty := .array .int) (ws2 := [ob zm 5 [.ref zmp, .ref zm1, .null, .null, .int 0, .null, .null, .int 0, .long 0, .long 0, .null, .null, .null, .null, .null, .null, .null, .null, .null, .null, .null, .null, .long 0, .long 0, .int 0, .long 0], aI G zmp 32 tb_perm, aI G zm1 56 tb_c1]) 0 1 ty_M ty_M_ok n_M u_M_in m_575 rfl rfl (by decide) ⟨rfl, rfl, rfl⟩ rfl rfl (by decide +kernel) rfl rfl (Nat.le_of_ble_eq_true rfl) rfl d_M_init_523 ?_
  refine pv_aload_n X 0 d_M_init_526 rfl ?_
  refine pv_bipush X 48 d_M_init_527 (by decide) ?_
  refine pv_newaI X 48 m_53 (by decide) (by decide) (by decide) (by decide) (by decide) d_M_init_529 (fun zm2 => ?_)
  refine pv_eqw (ws2 := [ob zm 5 [.ref zmp, .ref zm1, .null, .null, .int 0, .null, .null, .int 0, .long 0, .long 0, .null, .null, .null, .null, .null, .null, .null, .null, .null, .null, .null, .null, .long 0, .long 0, .int 0, .long 0], aI G zmp 32 tb_perm, aI G zm1 56 tb_c1, aI G zm2 48 (fun _ => 0)]) rfl ?_
  refine pv_fill (a := zm2) (N := 48) (q0 := 3) X (by decide) [14, 17, 11, 24, 1, 5, 3, 28, 15, 6, 21, 10, 23, 19, 12, 4, 26, 8, 16, 7, 27, 20, 13, 2, 41, 52, 31, 37, 47, 55, 30, 40, 51, 45, 33, 48, 44, 49, 39, 56, 34, 53, 46, 42, 50, 36, 29, 32] _ (fun _ => 0) 0 531 277 (by decide +kernel) (by decide) rfl ?_
  refine pv_eqw (ws2 := [ob zm 5 [.ref zmp, .ref zm1, .null, .null, .int 0, .null, .null, .int 0, .long 0, .long 0, .null, .null, .null, .null, .null, .null, .null, .null, .null, .null, .null, .null, .long 0, .long 0, .int 0, .long 0], aI G zmp 32 tb_perm, aI G zm1 56 tb_c1, aI G zm2 48 tb_c2]) (by rw [fi_tb_c2]; rfl) ?_
  refine pv_putF X hini (ty := .array .int) (ws2 := [ob zm 5 [.ref zmp, .ref zm1, .ref zm2, .null, .int 0, .null, .null, .int 0, .long 0, .long 0, .null, .null, .null, .null, .null, .null, .null, .null, .null, .null, .null, .null, .long 0, .long 0, .int 0, .long 0], aI G zmp 32 tb_perm, aI G zm1 56 tb_c1, aI G zm2 48 tb_c2]) 0 2 ty_M ty_M_ok n_M u_M_in m_576 rfl rfl (by decide) ⟨rfl, rfl, rfl⟩ rfl rfl (by decide +kernel) rfl rfl (Nat.le_of_ble_eq_true rfl) rfl d_M_init_808 ?_
  refine pv_aload_n X 0 d_M_init_811 rfl ?_
  refine pv_sipush X 512 d_M_init_812 (by decide) ?_
  refine pv_newaI X 512 m_53 (by decide) (by decide) (by decide) (by decide) (by decide) d_M_init_815 (fun zmx => ?_)
  refine pv_eqw (ws2 := [ob zm 5 [.ref zmp, .ref zm1, .ref zm2, .null, .int 0, .null, .null, .int 0, .long 0, .long 0, .null, .null, .null, .null, .null, .null, .null, .null, .null, .null, .null, .null, .long 0, .long 0, .int 0, .long 0], aI G zmp 32 tb_perm, aI G zm1 56 tb_c1, aI G zm2 48 tb_c2, aI G zmx 512 (fun _ => 0)]) rfl ?_
  refine pv_fill (a := zmx) (N := 512) (q0 := 4) X (by decide) [14, 4, 13, 1, 2, 15, 11, 8, 3, 10, 6, 12, 5, 9, 0, 7, 0, 15, 7, 4, 14, 2, 13, 1, 10, 6, 12, 11, 9, 5, 3, 8, 4, 1, 14, 8, 13, 6, 2, 11, 15, 12, 9, 7, 3, 10, 5, 0, 15, 12, 8, 2, 4, 9, 1, 7, 5, 11, 3, 14, 10, 0, 6, 13, 15, 1, 8, 14, 6, 11, 3, 4, 9, 7, 2, 13, 12, 0, 5, 10, 3, 13, 4, 7, 15, 2, 8, 14, 12, 0, 1, 10, 6, 9, 11, 5, 0, 14, 7, 11, 10, 4, 13, 1, 5, 8, 12, 6, 9, 3, 2, 15, 13, 8, 10, 1, 3, 15, 4, 2, 11, 6, 7, 12, 0, 5, 14, 9, 10, 0, 9, 14, 6, 3, 15, 5, 1, 13, 12, 7, 11, 4, 2, 8, 13, 7, 0, 9, 3, 4, 6, 10, 2, 8, 5, 14, 12, 11, 15, 1, 13, 6, 4, 9, 8, 15, 3, 0, 11, 1, 2, 12, 5, 10, 14, 7, 1, 10, 13, 0, 6, 9, 8, 7, 4, 15, 14, 3, 11, 5, 2, 12, 7, 13, 14, 3, 0, 6, 9, 10, 1, 2, 8, 5, 11, 12, 4, 15, 13, 8, 11, 5, 6, 15, 0, 3, 4, 7, 2, 12, 1, 10, 14, 9, 10, 6, 9, 0, 12, 11, 7, 13, 15, 1, 3, 14, 5, 2, 8, 4, 3, 15, 0, 6, 10, 1, 13, 8, 9, 4, 5, 11, 12, 7, 2, 14, 2, 12, 4, 1, 7, 10, 11, 6, 8, 5, 3, 15, 13, 0, 14, 9, 14, 11, 2, 12, 4, 7, 13, 1, 5, 0, 15, 10, 3, 9, 8, 6, 4, 2, 1, 11, 10, 13, 7, 8, 15, 9, 12, 5, 6, 3, 0, 14, 11, 8, 12, 7, 1, 14, 2, 13, 6, 15, 0, 9, 10, 4, 5, 3, 12, 1, 10, 15, 9, 2, 6, 8, 0, 13, 3, 4, 14, 7, 5, 11, 10, 15, 4, 2, 7, 12, 9, 5, 6, 1, 13, 14, 0, 11, 3, 8, 9, 14, 15, 5, 2, 8, 12, 3, 7, 0, 4, 10, 1, 13, 11, 6, 4, 3, 2, 12, 9, 5, 15, 10, 11, 14, 1, 7, 6, 0, 8, 13, 4, 11, 2, 14, 15, 0, 8, 13, 3, 12, 9, 7, 5, 10, 6, 1, 13, 0, 11, 7, 4, 9, 1, 10, 14, 3, 5, 12, 2, 15, 8, 6, 1, 4, 11, 13, 12, 3, 7, 14, 10, 15, 6, 8, 0, 5, 9, 2, 6, 11, 13, 8, 1, 4, 10, 7, 9, 5, 0, 15, 14, 2, 3, 12, 13, 2, 8, 4, 6, 15, 11, 1, 10, 9, 3, 14, 5, 0, 12, 7, 1, 15, 13, 8, 10, 3, 7, 4, 12, 5, 6, 11, 0, 14, 9, 2, 7, 11, 4, 1, 9, 12, 14, 2, 0, 6, 10, 13, 15, 3, 5, 8, 2, 1, 14, 7, 4, 10, 8, 13, 15, 12, 9, 0, 3, 5, 6, 11] _ (fun _ => 0) 0 817 3258 (by decide +kernel) (by decide) rfl ?_
  refine pv_eqw (ws2 := [ob zm 5 [.ref zmp, .ref zm1, .ref zm2, .null, .int 0, .null, .null, .int 0, .long 0, .long 0, .null, .null, .null, .null, .null, .null, .null, .null, .null, .null, .null, .null, .long 0, .long 0, .int 0, .long 0], aI G zmp 32 tb_perm, aI G zm1 56 tb_c1, aI G zm2 48 tb_c2, aI G zmx 512 tb_box]) (by rw [fi_tb_box]; rfl) ?_
  refine pv_putF X hini (ty := .array .int) (ws2 := [ob zm 5 [.ref zmp, .ref zm1, .ref zm2, .ref zmx, .int 0, .null, .null, .int 0, .long 0, .long 0, .null, .null, .null, .null, .null, .null, .null, .null, .null, .null, .null, .null, .long 0, .long 0, .int 0, .long 0], aI G zmp 32 tb_perm, aI G zm1 56 tb_c1, aI G zm2 48 tb_c2, aI G zmx 512 tb_box]) 0 3 ty_M ty_M_ok n_M u_M_in m_577 rfl rfl (by decide) ⟨rfl, rfl, rfl⟩ rfl rfl (by decide +kernel) rfl rfl (Nat.le_of_ble_eq_true rfl) rfl d_M_init_4075 ?_
  refine pv_aload_n X 0 d_M_init_4078 rfl ?_
  refine pv_bipush X 6 d_M_init_4079 (by decide) ?_
  refine pv_newaJ X 6 m_51 (by decide) (by decide) (by decide) (by decide) (by decide) d_M_init_4081 (fun zmh => ?_)
  refine pv_eqw (ws2 := [ob zm 5 [.ref zmp, .ref zm1, .ref zm2, .ref zmx, .int 0, .null, .null, .int 0, .long 0, .long 0, .null, .null, .null, .null, .null, .null, .null, .null, .null, .null, .null, .null, .long 0, .long 0, .int 0, .long 0], aI G zmp 32 tb_perm, aI G zm1 56 tb_c1, aI G zm2 48 tb_c2, aI G zmx 512 tb_box, aJ G zmh 6 (fun _ => 0)]) rfl ?_
  refine pv_putF X hini (ty := .array .long) (ws2 := [ob zm 5 [.ref zmp, .ref zm1, .ref zm2, .ref zmx, .int 0, .ref zmh, .null, .int 0, .long 0, .long 0, .null, .null, .null, .null, .null, .null, .null, .null, .null, .null, .null, .null, .long 0, .long 0, .int 0, .long 0], aI G zmp 32 tb_perm, aI G zm1 56 tb_c1, aI G zm2 48 tb_c2, aI G zmx 512 tb_box, aJ G zmh 6 (fun _ => 0)]) 0 5 ty_M ty_M_ok n_M u_M_in m_579 rfl rfl (by decide) ⟨rfl, rfl, rfl⟩ rfl rfl (by decide +kernel) rfl rfl (Nat.le_of_ble_eq_true rfl) rfl d_M_init_4083 ?_
  refine pv_aload_n X 0 d_M_init_4086 rfl ?_
  refine pv_bipush X 6 d_M_init_4087 (by decide) ?_
  refine pv_newaZ X 6 m_52 (by decide) (by decide) (by decide) (by decide) (by decide) d_M_init_4089 (fun zmt => ?_)
  refine pv_eqw (ws2 := [ob zm 5 [.ref zmp, .ref zm1, .ref zm2, .ref zmx, .int 0, .ref zmh, .null, .int 0, .long 0, .long 0, .null, .null, .null, .null, .null, .null, .null, .null, .null, .null, .null, .null, .long 0, .long 0, .int 0, .long 0], aI G zmp 32 tb_perm, aI G zm1 56 tb_c1, aI G zm2 48 tb_c2, aI G zmx 512 tb_box, aJ G zmh 6 (fun _ => 0), aZ G zmt 6 (fun _ => 0)]) rfl ?_
  refine pv_putF X hini (ty := .array .boolean) (ws2 := [ob zm 5 [.ref zmp, .ref zm1, .ref zm2, .ref zmx, .int 0, .ref zmh, .ref zmt, .int 0, .long 0, .long 0, .null, .null, .null, .null, .null, .null, .null, .null, .null, .null, .null, .null, .long 0, .long 0, .int 0, .long 0], aI G zmp 32 tb_perm, aI G zm1 56 tb_c1, aI G zm2 48 tb_c2, aI G zmx 512 tb_box, aJ G zmh 6 (fun _ => 0), aZ G zmt 6 (fun _ => 0)]) 0 6 ty_M ty_M_ok n_M u_M_in m_580 rfl rfl (by decide) ⟨rfl, rfl, rfl⟩ rfl rfl (by decide +kernel) rfl rfl (Nat.le_of_ble_eq_true rfl) rfl d_M_init_4091 ?_
  refine pv_aload_n X 0 d_M_init_4094 rfl ?_
  refine pv_bipush X 16 d_M_init_4095 (by decide) ?_
  refine pv_newaI X 16 m_53 (by decide) (by decide) (by decide) (by decide) (by decide) d_M_init_4097 (fun zmu => ?_)
  refine pv_eqw (ws2 := [ob zm 5 [.ref zmp, .ref zm1, .ref zm2, .ref zmx, .int 0, .ref zmh, .ref zmt, .int 0, .long 0, .long 0, .null, .null, .null, .null, .null, .null, .null, .null, .null, .null, .null, .null, .long 0, .long 0, .int 0, .long 0], aI G zmp 32 tb_perm, aI G zm1 56 tb_c1, aI G zm2 48 tb_c2, aI G zmx 512 tb_box, aJ G zmh 6 (fun _ => 0), aZ G zmt 6 (fun _ => 0), aI G zmu 16 (fun _ => 0)]) rfl ?_
  refine pv_putF X hini (ty := .array .int) (ws2 := [ob zm 5 [.ref zmp, .ref zm1, .ref zm2, .ref zmx, .int 0, .ref zmh, .ref zmt, .int 0, .long 0, .long 0, .ref zmu, .null, .null, .null, .null, .null, .null, .null, .null, .null, .null, .null, .long 0, .long 0, .int 0, .long 0], aI G zmp 32 tb_perm, aI G zm1 56 tb_c1, aI G zm2 48 tb_c2, aI G zmx 512 tb_box, aJ G zmh 6 (fun _ => 0), aZ G zmt 6 (fun _ => 0), aI G zmu 16 (fun _ => 0)]) 0 10 ty_M ty_M_ok n_M u_M_in m_584 rfl rfl (by decide) ⟨rfl, rfl, rfl⟩ rfl rfl (by decide +kernel) rfl rfl (Nat.le_of_ble_eq_true rfl) rfl d_M_init_4099 ?_
  refine pv_aload_n X 0 d_M_init_4102 rfl ?_
  refine pv_bipush X 16 d_M_init_4103 (by decide) ?_
  refine pv_newaZ X 16 m_52 (by decide) (by decide) (by decide) (by decide) (by decide) d_M_init_4105 (fun zme => ?_)
  refine pv_eqw (ws2 := [ob zm 5 [.ref zmp, .ref zm1, .ref zm2, .ref zmx, .int 0, .ref zmh, .ref zmt, .int 0, .long 0, .long 0, .ref zmu, .null, .null, .null, .null, .null, .null, .null, .null, .null, .null, .null, .long 0, .long 0, .int 0, .long 0], aI G zmp 32 tb_perm, aI G zm1 56 tb_c1, aI G zm2 48 tb_c2, aI G zmx 512 tb_box, aJ G zmh 6 (fun _ => 0), aZ G zmt 6 (fun _ => 0), aI G zmu 16 (fun _ => 0), aZ G zme 16 (fun _ => 0)]) rfl ?_
  refine pv_putF X hini (ty := .array .boolean) (ws2 := [ob zm 5 [.ref zmp, .ref zm1, .ref zm2, .ref zmx, .int 0, .ref zmh, .ref zmt, .int 0, .long 0, .long 0, .ref zmu, .ref zme, .null, .null, .null, .null, .null, .null, .null, .null, .null, .null, .long 0, .long 0, .int 0, .long 0], aI G zmp 32 tb_perm, aI G zm1 56 tb_c1, aI G zm2 48 tb_c2, aI G zmx 512 tb_box, aJ G zmh 6 (fun _ => 0), aZ G zmt 6 (fun _ => 0), aI G zmu 16 (fun _ => 0), aZ G zme 16 (fun _ => 0)]) 0 11 ty_M ty_M_ok n_M u_M_in m_585 rfl rfl (by decide) ⟨rfl, rfl, rfl⟩ rfl rfl (by decide +kernel) rfl rfl (Nat.le_of_ble_eq_true rfl) rfl d_M_init_4107 ?_
  refine pv_aload_n X 0 d_M_init_4110 rfl ?_
  refine pv_bipush X 16 d_M_init_4111 (by decide) ?_
  refine pv_newaJ X 16 m_51 (by decide) (by decide) (by decide) (by decide) (by decide) d_M_init_4113 (fun zma => ?_)
  refine pv_eqw (ws2 := [ob zm 5 [.ref zmp, .ref zm1, .ref zm2, .ref zmx, .int 0, .ref zmh, .ref zmt, .int 0, .long 0, .long 0, .ref zmu, .ref zme, .null, .null, .null, .null, .null, .null, .null, .null, .null, .null, .long 0, .long 0, .int 0, .long 0], aI G zmp 32 tb_perm, aI G zm1 56 tb_c1, aI G zm2 48 tb_c2, aI G zmx 512 tb_box, aJ G zmh 6 (fun _ => 0), aZ G zmt 6 (fun _ => 0), aI G zmu 16 (fun _ => 0), aZ G zme 16 (fun _ => 0), aJ G zma 16 (fun _ => 0)]) rfl ?_
  refine pv_putF X hini (ty := .array .long) (ws2 := [ob zm 5 [.ref zmp, .ref zm1, .ref zm2, .ref zmx, .int 0, .ref zmh, .ref zmt, .int 0, .long 0, .long 0, .ref zmu, .ref zme, .ref zma, .null, .null, .null, .null, .null, .null, .null, .null, .null, .long 0, .long 0, .int 0, .long 0], aI G zmp 32 tb_perm, aI G zm1 56 tb_c1, aI G zm2 48 tb_c2, aI G zmx 512 tb_box, aJ G zmh 6 (fun _ => 0), aZ G zmt 6 (fun _ => 0), aI G zmu 16 (fun _ => 0), aZ G zme 16 (fun _ => 0), aJ G zma 16 (fun _ => 0)]) 0 12 ty_M ty_M_ok n_M u_M_in m_586 rfl rfl (by decide) ⟨rfl, rfl, rfl⟩ rfl rfl (by decide +kernel) rfl rfl (Nat.le_of_ble_eq_true rfl) rfl d_M_init_4115 ?_
  refine pv_aload_n X 0 d_M_init_4118 rfl ?_
  refine pv_bipush X 16 d_M_init_4119 (by decide) ?_
  refine pv_newaJ X 16 m_51 (by decide) (by decide) (by decide) (by decide) (by decide) d_M_init_4121 (fun zmb => ?_)
  refine pv_eqw (ws2 := [ob zm 5 [.ref zmp, .ref zm1, .ref zm2, .ref zmx, .int 0, .ref zmh, .ref zmt, .int 0, .long 0, .long 0, .ref zmu, .ref zme, .ref zma, .null, .null, .null, .null, .null, .null, .null, .null, .null, .long 0, .long 0, .int 0, .long 0], aI G zmp 32 tb_perm, aI G zm1 56 tb_c1, aI G zm2 48 tb_c2, aI G zmx 512 tb_box, aJ G zmh 6 (fun _ => 0), aZ G zmt 6 (fun _ => 0), aI G zmu 16 (fun _ => 0), aZ G zme 16 (fun _ => 0), aJ G zma 16 (fun _ => 0), aJ G zmb 16 (fun _ => 0)]) rfl ?_
  refine pv_putF X hini (ty := .array .long) (ws2 := [ob zm 5 [.ref zmp, .ref zm1, .ref zm2, .ref zmx, .int 0, .ref zmh, .ref zmt, .int 0, .long 0, .long 0, .ref zmu, .ref zme, .ref zma, .ref zmb, .null, .null, .null, .null, .null, .null, .null, .null, .long 0, .long 0, .int 0, .long 0], aI G zmp 32 tb_perm, aI G zm1 56 tb_c1, aI G zm2 48 tb_c2, aI G zmx 512 tb_box, aJ G zmh 6 (fun _ => 0), aZ G zmt 6 (fun _ => 0), aI G zmu 16 (fun _ => 0), aZ G zme 16 (fun _ => 0), aJ G zma 16 (fun _ => 0), aJ G zmb 16 (fun _ => 0)]) 0 13 ty_M ty_M_ok n_M u_M_in m_587 rfl rfl (by decide) ⟨rfl, rfl, rfl⟩ rfl rfl (by decide +kernel) rfl rfl (Nat.le_of_ble_eq_true rfl) rfl d_M_init_4123 ?_
  refine pv_aload_n X 0 d_M_init_4126 rfl ?_
  refine pv_bipush X 8 d_M_init_4127 (by decide) ?_
  refine pv_newaZ X 8 m_52 (by decide) (by decide) (by decide) (by decide) (by decide) d_M_init_4129 (fun zmk => ?_)
  refine pv_eqw (ws2 := [ob zm 5 [.ref zmp, .ref zm1, .ref zm2, .ref zmx, .int 0, .ref zmh, .ref zmt, .int 0, .long 0, .long 0, .ref zmu, .ref zme, .ref zma, .ref zmb, .null, .null, .null, .null, .null, .null, .null, .null, .long 0, .long 0, .int 0, .long 0], aI G zmp 32 tb_perm, aI G zm1 56 tb_c1, aI G zm2 48 tb_c2, aI G zmx 512 tb_box, aJ G zmh 6 (fun _ => 0), aZ G zmt 6 (fun _ => 0), aI G zmu 16 (fun _ => 0), aZ G zme 16 (fun _ => 0), aJ G zma 16 (fun _ => 0), aJ G zmb 16 (fun _ => 0), aZ G zmk 8 (fun _ => 0)]) rfl ?_
  refine pv_putF X hini (ty := .array .boolean) (ws2 := [ob zm 5 [.ref zmp, .ref zm1, .ref zm2, .ref zmx, .int 0, .ref zmh, .ref zmt, .int 0, .long 0, .long 0, .ref zmu, .ref zme, .ref zma, .ref zmb, .ref zmk, .null, .null, .null, .null, .null, .null, .null, .long 0, .long 0, .int 0, .long 0], aI G zmp 32 tb_perm, aI G zm1 56 tb_c1, aI G zm2 48 tb_c2, aI G zmx 512 tb_box, aJ G zmh 6 (fun _ => 0), aZ G zmt 6 (fun _ => 0), aI G zmu 16 (fun _ => 0), aZ G zme 16 (fun _ => 0), aJ G zma 16 (fun _ => 0), aJ G zmb 16 (fun _ => 0), aZ G zmk 8 (fun _ => 0)]) 0 14 ty_M ty_M_ok n_M u_M_in m_588 rfl rfl (by decide) ⟨rfl, rfl, rfl⟩ rfl rfl (by decide +kernel) rfl rfl (Nat.le_of_ble_eq_true rfl) rfl d_M_init_4131 ?_
  refine pv_aload_n X 0 d_M_init_4134 rfl ?_
  refine pv_bipush X 8 d_M_init_4135 (by decide) ?_
  refine pv_newaJ X 8 m_51 (by decide) (by decide) (by decide) (by decide) (by decide) d_M_init_4137 (fun zmc => ?_)
  refine pv_eqw (ws2 := [ob zm 5 [.ref zmp, .ref zm1, .ref zm2, .ref zmx, .int 0, .ref zmh, .ref zmt, .int 0, .long 0, .long 0, .ref zmu, .ref zme, .ref zma, .ref zmb, .ref zmk, .null, .null, .null, .null, .null, .null, .null, .long 0, .long 0, .int 0, .long 0], aI G zmp 32 tb_perm, aI G zm1 56 tb_c1, aI G zm2 48 tb_c2, aI G zmx 512 tb_box, aJ G zmh 6 (fun _ => 0), aZ G zmt 6 (fun _ => 0), aI G zmu 16 (fun _ => 0), aZ G zme 16 (fun _ => 0), aJ G zma 16 (fun _ => 0), aJ G zmb 16 (fun _ => 0), aZ G zmk 8 (fun _ => 0), aJ G zmc 8 (fun _ => 0)]) rfl ?_
  refine pv_putF X hini (ty := .array .long) (ws2 := [ob zm 5 [.ref zmp, .ref zm1, .ref zm2, .ref zmx, .int 0, .ref zmh, .ref zmt, .int 0, .long 0, .long 0, .ref zmu, .ref zme, .ref zma, .ref zmb, .ref zmk, .ref zmc, .null, .null, .null, .null, .null, .null, .long 0, .long 0, .int 0, .long 0], aI G zmp 32 tb_perm, aI G zm1 56 tb_c1, aI G zm2 48 tb_c2, aI G zmx 512 tb_box, aJ G zmh 6 (fun _ => 0), aZ G zmt 6 (fun _ => 0), aI G zmu 16 (fun _ => 0), aZ G zme 16 (fun _ => 0), aJ G zma 16 (fun _ => 0), aJ G zmb 16 (fun _ => 0), aZ G zmk 8 (fun _ => 0), aJ G zmc 8 (fun _ => 0)]) 0 15 ty_M ty_M_ok n_M u_M_in m_589 rfl rfl (by decide) ⟨rfl, rfl, rfl⟩ rfl rfl (by decide +kernel) rfl rfl (Nat.le_of_ble_eq_true rfl) rfl d_M_init_4139 ?_
  refine pv_aload_n X 0 d_M_init_4142 rfl ?_
  refine pv_bipush X 8 d_M_init_4143 (by decide) ?_
  refine pv_newaJ X 8 m_51 (by decide) (by decide) (by decide) (by decide) (by decide) d_M_init_4145 (fun zmd => ?_)
  refine pv_eqw (ws2 := [ob zm 5 [.ref zmp, .ref zm1, .ref zm2, .ref zmx, .int 0, .ref zmh, .ref zmt, .int 0, .long 0, .long 0, .ref zmu, .ref zme, .ref zma, .ref zmb, .ref zmk, .ref zmc, .null, .null, .null, .null, .null, .null, .long 0, .long 0, .int 0, .long 0], aI G zmp 32 tb_perm, aI G zm1 56 tb_c1, aI G zm2 48 tb_c2, aI G zmx 512 tb_box, aJ G zmh 6 (fun _ => 0), aZ G zmt 6 (fun _ => 0), aI G zmu 16 (fun _ => 0), aZ G zme 16 (fun _ => 0), aJ G zma 16 (fun _ => 0), aJ G zmb 16 (fun _ => 0), aZ G zmk 8 (fun _ => 0), aJ G zmc 8 (fun _ => 0), aJ G zmd 8 (fun _ => 0)]) rfl ?_
  refine pv_putF X hini (ty := .array .long) (ws2 := [ob zm 5 [.ref zmp, .ref zm1, .ref zm2, .ref zmx, .int 0, .ref zmh, .ref zmt, .int 0, .long 0, .long 0, .ref zmu, .ref zme, .ref zma, .ref zmb, .ref zmk, .ref zmc, .ref zmd, .null, .null, .null, .null, .null, .long 0, .long 0, .int 0, .long 0], aI G zmp 32 tb_perm, aI G zm1 56 tb_c1, aI G zm2 48 tb_c2, aI G zmx 512 tb_box, aJ G zmh 6 (fun _ => 0), aZ G zmt 6 (fun _ => 0), aI G zmu 16 (fun _ => 0), aZ G zme 16 (fun _ => 0), aJ G zma 16 (fun _ => 0), aJ G zmb 16 (fun _ => 0), aZ G zmk 8 (fun _ => 0), aJ G zmc 8 (fun _ => 0), aJ G zmd 8 (fun _ => 0)]) 0 16 ty_M ty_M_ok n_M u_M_in m_590 rfl rfl (by decide) ⟨rfl, rfl, rfl⟩ rfl rfl (by decide +kernel) rfl rfl (Nat.le_of_ble_eq_true rfl) rfl d_M_init_4147 ?_
  refine pv_aload_n X 0 d_M_init_4150 rfl ?_
  refine pv_bipush X 8 d_M_init_4151 (by decide) ?_
  refine pv_newaJ X 8 m_51 (by decide) (by decide) (by decide) (by decide) (by decide) d_M_init_4153 (fun zmi => ?_)
  refine pv_eqw (ws2 := [ob zm 5 [.ref zmp, .ref zm1, .ref zm2, .ref zmx, .int 0, .ref zmh, .ref zmt, .int 0, .long 0, .long 0, .ref zmu, .ref zme, .ref zma, .ref zmb, .ref zmk, .ref zmc, .ref zmd, .null, .null, .null, .null, .null, .long 0, .long 0, .int 0, .long 0], aI G zmp 32 tb_perm, aI G zm1 56 tb_c1, aI G zm2 48 tb_c2, aI G zmx 512 tb_box, aJ G zmh 6 (fun _ => 0), aZ G zmt 6 (fun _ => 0), aI G zmu 16 (fun _ => 0), aZ G zme 16 (fun _ => 0), aJ G zma 16 (fun _ => 0), aJ G zmb 16 (fun _ => 0), aZ G zmk 8 (fun _ => 0), aJ G zmc 8 (fun _ => 0), aJ G zmd 8 (fun _ => 0), aJ G zmi 8 (fun _ => 0)]) rfl ?_
  refine pv_putF X hini (ty := .array .long) (ws2 := [ob zm 5 [.ref zmp, .ref zm1, .ref zm2, .ref zmx, .int 0, .ref zmh, .ref zmt, .int 0, .long 0, .long 0, .ref zmu, .ref zme, .ref zma, .ref zmb, .ref zmk, .ref zmc, .ref zmd, .ref zmi, .null, .null, .null, .null, .long 0, .long 0, .int 0, .long 0], aI G zmp 32 tb_perm, aI G zm1 56 tb_c1, aI G zm2 48 tb_c2, aI G zmx 512 tb_box, aJ G zmh 6 (fun _ => 0), aZ G zmt 6 (fun _ => 0), aI G zmu 16 (fun _ => 0), aZ G zme 16 (fun _ => 0), aJ G zma 16 (fun _ => 0), aJ G zmb 16 (fun _ => 0), aZ G zmk 8 (fun _ => 0), aJ G zmc 8 (fun _ => 0), aJ G zmd 8 (fun _ => 0), aJ G zmi 8 (fun _ => 0)]) 0 17 ty_M ty_M_ok n_M u_M_in m_591 rfl rfl (by decide) ⟨rfl, rfl, rfl⟩ rfl rfl (by decide +kernel) rfl rfl (Nat.le_of_ble_eq_true rfl) rfl d_M_init_4155 ?_
  refine pv_aload_n X 0 d_M_init_4158 rfl ?_
  refine pv_bipush X 8 d_M_init_4159 (by decide) ?_
  refine pv_newaI X 8 m_53 (by decide) (by decide) (by decide) (by decide) (by decide) d_M_init_4161 (fun zmo => ?_)
  refine pv_eqw (ws2 := [ob zm 5 [.ref zmp, .ref zm1, .ref zm2, .ref zmx, .int 0, .ref zmh, .ref zmt, .int 0, .long 0, .long 0, .ref zmu, .ref zme, .ref zma, .ref zmb, .ref zmk, .ref zmc, .ref zmd, .ref zmi, .null, .null, .null, .null, .long 0, .long 0, .int 0, .long 0], aI G zmp 32 tb_perm, aI G zm1 56 tb_c1, aI G zm2 48 tb_c2, aI G zmx 512 tb_box, aJ G zmh 6 (fun _ => 0), aZ G zmt 6 (fun _ => 0), aI G zmu 16 (fun _ => 0), aZ G zme 16 (fun _ => 0), aJ G zma 16 (fun _ => 0), aJ G zmb 16 (fun _ => 0), aZ G zmk 8 (fun _ => 0), aJ G zmc 8 (fun _ => 0), aJ G zmd 8 (fun _ => 0), aJ G zmi 8 (fun _ => 0), aI G zmo 8 (fun _ => 0)]) rfl ?_
  refine pv_putF X hini (ty := .array .int) (ws2 := [ob zm 5 [.ref zmp, .ref zm1, .ref zm2, .ref zmx, .int 0, .ref zmh, .ref zmt, .int 0, .long 0, .long 0, .ref zmu, .ref zme, .ref zma, .ref zmb, .ref zmk, .ref zmc, .ref zmd, .ref zmi, .ref zmo, .null, .null, .null, .long 0, .long 0, .int 0, .long 0], aI G zmp 32 tb_perm, aI G zm1 56 tb_c1, aI G zm2 48 tb_c2, aI G zmx 512 tb_box, aJ G zmh 6 (fun _ => 0), aZ G zmt 6 (fun _ => 0), aI G zmu 16 (fun _ => 0), aZ G zme 16 (fun _ => 0), aJ G zma 16 (fun _ => 0), aJ G zmb 16 (fun _ => 0), aZ G zmk 8 (fun _ => 0), aJ G zmc 8 (fun _ => 0), aJ G zmd 8 (fun _ => 0), aJ G zmi 8 (fun _ => 0), aI G zmo 8 (fun _ => 0)]) 0 18 ty_M ty_M_ok n_M u_M_in m_592 rfl rfl (by decide) ⟨rfl, rfl, rfl⟩ rfl rfl (by decide +kernel) rfl rfl (Nat.le_of_ble_eq_true rfl) rfl d_M_init_4163 ?_
  refine pv_aload_n X 0 d_M_init_4166 rfl ?_
  refine pv_iconst X 5 d_M_init_4167 (by decide) ?_
  refine pv_newaJ X 5 m_51 (by decide) (by decide) (by decide) (by decide) (by decide) d_M_init_4168 (fun zmf => ?_)
  refine pv_eqw (ws2 := [ob zm 5 [.ref zmp, .ref zm1, .ref zm2, .ref zmx, .int 0, .ref zmh, .ref zmt, .int 0, .long 0, .long 0, .ref zmu, .ref zme, .ref zma, .ref zmb, .ref zmk, .ref zmc, .ref zmd, .ref zmi, .ref zmo, .null, .null, .null, .long 0, .long 0, .int 0, .long 0], aI G zmp 32 tb_perm, aI G zm1 56 tb_c1, aI G zm2 48 tb_c2, aI G zmx 512 tb_box, aJ G zmh 6 (fun _ => 0), aZ G zmt 6 (fun _ => 0), aI G zmu 16 (fun _ => 0), aZ G zme 16 (fun _ => 0), aJ G zma 16 (fun _ => 0), aJ G zmb 16 (fun _ => 0), aZ G zmk 8 (fun _ => 0), aJ G zmc 8 (fun _ => 0), aJ G zmd 8 (fun _ => 0), aJ G zmi 8 (fun _ => 0), aI G zmo 8 (fun _ => 0), aJ G zmf 5 (fun _ => 0)]) rfl ?_
  refine pv_putF X hini (ty := .array .long) (ws2 := [ob zm 5 [.ref zmp, .ref zm1, .ref zm2, .ref zmx, .int 0, .ref zmh, .ref zmt, .int 0, .long 0, .long 0, .ref zmu, .ref zme, .ref zma, .ref zmb, .ref zmk, .ref zmc, .ref zmd, .ref zmi, .ref zmo, .ref zmf, .null, .null, .long 0, .long 0, .int 0, .long 0], aI G zmp 32 tb_perm, aI G zm1 56 tb_c1, aI G zm2 48 tb_c2, aI G zmx 512 tb_box, aJ G zmh 6 (fun _ => 0), aZ G zmt 6 (fun _ => 0), aI G zmu 16 (fun _ => 0), aZ G zme 16 (fun _ => 0), aJ G zma 16 (fun _ => 0), aJ G zmb 16 (fun _ => 0), aZ G zmk 8 (fun _ => 0), aJ G zmc 8 (fun _ => 0), aJ G zmd 8 (fun _ => 0), aJ G zmi 8 (fun _ => 0), aI G zmo 8 (fun _ => 0), aJ G zmf 5 (fun _ => 0)]) 0 19 ty_M ty_M_ok n_M u_M_in m_593 rfl rfl (by decide) ⟨rfl, rfl, rfl⟩ rfl rfl (by decide +kernel) rfl rfl (Nat.le_of_ble_eq_true rfl) rfl d_M_init_4170 ?_
  refine pv_aload_n X 0 d_M_init_4173 rfl ?_
  refine pv_bipush X 8 d_M_init_4174 (by decide) ?_
  refine pv_newaJ X 8 m_51 (by decide) (by decide) (by decide) (by decide) (by decide) d_M_init_4176 (fun zmg => ?_)
  refine pv_eqw (ws2 := [ob zm 5 [.ref zmp, .ref zm1, .ref zm2, .ref zmx, .int 0, .ref zmh, .ref zmt, .int 0, .long 0, .long 0, .ref zmu, .ref zme, .ref zma, .ref zmb, .ref zmk, .ref zmc, .ref zmd, .ref zmi, .ref zmo, .ref zmf, .null, .null, .long 0, .long 0, .int 0, .long 0], aI G zmp 32 tb_perm, aI G zm1 56 tb_c1, aI G zm2 48 tb_c2, aI G zmx 512 tb_box, aJ G zmh 6 (fun _ => 0), aZ G zmt 6 (fun _ => 0), aI G zmu 16 (fun _ => 0), aZ G zme 16 (fun _ => 0), aJ G zma 16 (fun _ => 0), aJ G zmb 16 (fun _ => 0), aZ G zmk 8 (fun _ => 0), aJ G zmc 8 (fun _ => 0), aJ G zmd 8 (fun _ => 0), aJ G zmi 8 (fun _ => 0), aI G zmo 8 (fun _ => 0), aJ G zmf 5 (fun _ => 0), aJ G zmg 8 (fun _ => 0)]) rfl ?_
  refine pv_putF X hini (ty := .array .long) (ws2 := [ob zm 5 [.ref zmp, .ref zm1, .ref zm2, .ref zmx, .int 0, .ref zmh, .ref zmt, .int 0, .long 0, .long 0, .ref zmu, .ref zme, .ref zma, .ref zmb, .ref zmk, .ref zmc, .ref zmd, .ref zmi, .ref zmo, .ref zmf, .ref zmg, .null, .long 0, .long 0, .int 0, .long 0], aI G zmp 32 tb_perm, aI G zm1 56 tb_c1, aI G zm2 48 tb_c2, aI G zmx 512 tb_box, aJ G zmh 6 (fun _ => 0), aZ G zmt 6 (fun _ => 0), aI G zmu 16 (fun _ => 0), aZ G zme 16 (fun _ => 0), aJ G zma 16 (fun _ => 0), aJ G zmb 16 (fun _ => 0), aZ G zmk 8 (fun _ => 0), aJ G zmc 8 (fun _ => 0), aJ G zmd 8 (fun _ => 0), aJ G zmi 8 (fun _ => 0), aI G zmo 8 (fun _ => 0), aJ G zmf 5 (fun _ => 0), aJ G zmg 8 (fun _ => 0)]) 0 20 ty_M ty_M_ok n_M u_M_in m_594 rfl rfl (by decide) ⟨rfl, rfl, rfl⟩ rfl rfl (by decide +kernel) rfl rfl (Nat.le_of_ble_eq_true rfl) rfl d_M_init_4178 ?_
  refine pv_aload_n X 0 d_M_init_4181 rfl ?_
  refine pv_bipush X 16 d_M_init_4182 (by decide) ?_
  refine pv_newaJ X 16 m_51 (by decide) (by decide) (by decide) (by decide) (by decide) d_M_init_4184 (fun zmn => ?_)
  refine pv_eqw (ws2 := [ob zm 5 [.ref zmp, .ref zm1, .ref zm2, .ref zmx, .int 0, .ref zmh, .ref zmt, .int 0, .long 0, .long 0, .ref zmu, .ref zme, .ref zma, .ref zmb, .ref zmk, .ref zmc, .ref zmd, .ref zmi, .ref zmo, .ref zmf, .ref zmg, .null, .long 0, .long 0, .int 0, .long 0], aI G zmp 32 tb_perm, aI G zm1 56 tb_c1, aI G zm2 48 tb_c2, aI G zmx 512 tb_box, aJ G zmh 6 (fun _ => 0), aZ G zmt 6 (fun _ => 0), aI G zmu 16 (fun _ => 0), aZ G zme 16 (fun _ => 0), aJ G zma 16 (fun _ => 0), aJ G zmb 16 (fun _ => 0), aZ G zmk 8 (fun _ => 0), aJ G zmc 8 (fun _ => 0), aJ G zmd 8 (fun _ => 0), aJ G zmi 8 (fun _ => 0), aI G zmo 8 (fun _ => 0), aJ G zmf 5 (fun _ => 0), aJ G zmg 8 (fun _ => 0), aJ G zmn 16 (fun _ => 0)]) rfl ?_
  refine pv_putF X hini (ty := .array .long) (ws2 := [ob zm 5 [.ref zmp, .ref zm1, .ref zm2, .ref zmx, .int 0, .ref zmh, .ref zmt, .int 0, .long 0, .long 0, .ref zmu, .ref zme, .ref zma, .ref zmb, .ref zmk, .ref zmc, .ref zmd, .ref zmi, .ref zmo, .ref zmf, .ref zmg, .ref zmn, .long 0, .long 0, .int 0, .long 0], aI G zmp 32 tb_perm, aI G zm1 56 tb_c1, aI G zm2 48 tb_c2, aI G zmx 512 tb_box, aJ G zmh 6 (fun _ => 0), aZ G zmt 6 (fun _ => 0), aI G zmu 16 (fun _ => 0), aZ G zme 16 (fun _ => 0), aJ G zma 16 (fun _ => 0), aJ G zmb 16 (fun _ => 0), aZ G zmk 8 (fun _ => 0), aJ G zmc 8 (fun _ => 0), aJ G zmd 8 (fun _ => 0), aJ G zmi 8 (fun _ => 0), aI G zmo 8 (fun _ => 0), aJ G zmf 5 (fun _ => 0), aJ G zmg 8 (fun _ => 0), aJ G zmn 16 (fun _ => 0)]) 0 21 ty_M ty_M_ok n_M u_M_in m_595 rfl rfl (by decide) ⟨rfl, rfl, rfl⟩ rfl rfl (by decide +kernel) rfl rfl (Nat.le_of_ble_eq_true rfl) rfl d_M_init_4186 ?_
  refine pv_iconst X 0 d_M_init_4189 (by decide) ?_
  refine pv_istore_n (ll2 := [(1, .int 0), (0, .ref zm)]) X d_M_init_4190 (by decide) rfl ?_
  refine pv_lpick (ll2 := [(1, .int (nI 0)), (0, .ref zm)]) [0, 1] rfl ?_
  refine pv_eqw (ws2 := [ob zm 5 [.ref zmp, .ref zm1, .ref zm2, .ref zmx, .int 0, .ref zmh, .ref zmt, .int 0, .long 0, .long 0, .ref zmu, .ref zme, .ref zma, .ref zmb, .ref zmk, .ref zmc, .ref zmd, .ref zmi, .ref zmo, .ref zmf, .ref zmg, .ref zmn, .long 0, .long 0, .int 0, .long 0], aI G zmp 32 tb_perm, aI G zm1 56 tb_c1, aI G zm2 48 tb_c2, aI G zmx 512 tb_box, aJ G zmh 6 (fun _ => 0), aZ G zmt 6 (fun _ => 0), aI G zmu 16 (minu 0), aZ G zme 16 (fun _ => 0), aJ G zma 16 (fun _ => 0), aJ G zmb 16 (fun _ => 0), aZ G zmk 8 (fun _ => 0), aJ G zmc 8 (fun _ => 0), aJ G zmd 8 (fun _ => 0), aJ G zmi 8 (fun _ => 0), aI G zmo 8 (fun _ => 0), aJ G zmf 5 (fun _ => 0), aJ G zmg 8 (fun _ => 0), aJ G zmn 16 (fun _ => 0)]) (by rw [← minu_0]) ?_
  refine pv_loop 16 (fun i => True) (fun i => [ob zm 5 [.ref zmp, .ref zm1, .ref zm2, .ref zmx, .int 0, .ref zmh, .ref zmt, .int 0, .long 0, .long 0, .ref zmu, .ref zme, .ref zma, .ref zmb, .ref zmk, .ref zmc, .ref zmd, .ref zmi, .ref zmo, .ref zmf, .ref zmg, .ref zmn, .long 0, .long 0, .int 0, .long 0], aI G zmp 32 tb_perm, aI G zm1 56 tb_c1, aI G zm2 48 tb_c2, aI G zmx 512 tb_box, aJ G zmh 6 (fun _ => 0), aZ G zmt 6 (fun _ => 0), aI G zmu 16 (minu i), aZ G zme 16 (fun _ => 0), aJ G zma 16 (fun _ => 0), aJ G zmb 16 (fun _ => 0), aZ G zmk 8 (fun _ => 0), aJ G zmc 8 (fun _ => 0), aJ G zmd 8 (fun _ => 0), aJ G zmi 8 (fun _ => 0), aI G zmo 8 (fun _ => 0), aJ G zmf 5 (fun _ => 0), aJ G zmg 8 (fun _ => 0), aJ G zmn 16 (fun _ => 0)]) (fun i => [(1, .int (nI i)), (0, .ref zm)]) 0 (by omega) trivial (fun hI_i => ?_) (fun i h_i hI_i ih_i => ?_)
  · skip
    refine pv_iload_n X 0 d_M_init_4191 rfl ?_
    refine pv_bipush X 16 d_M_init_4192 (by decide) ?_
    refine pv_icmp_ge X 4210 d_M_init_4194 rfl (fun _ => ?_) (fun h => absurd (by decide) h)
    refine pv_ord (ws2 := [ob zm 5 [.ref zmp, .ref zm1, .ref zm2, .ref zmx, .int 0, .ref zmh, .ref zmt, .int 0, .long 0, .long 0, .ref zmu, .ref zme, .ref zma, .ref zmb, .ref zmk, .ref zmc, .ref zmd, .ref zmi, .ref zmo, .ref zmf, .ref zmg, .ref zmn, .long 0, .long 0, .int 0, .long 0], aI G zmp 32 tb_perm, aI G zm1 56 tb_c1, aI G zm2 48 tb_c2, aI G zmx 512 tb_box, aJ G zmh 6 (fun _ => 0), aZ G zmt 6 (fun _ => 0), aI G zmu 16 (minu 16), aZ G zme 16 (fun _ => 0), aJ G zma 16 (fun _ => 0), aJ G zmb 16 (fun _ => 0), aZ G zmk 8 (fun _ => 0), aJ G zmc 8 (fun _ => 0), aJ G zmd 8 (fun _ => 0), aJ G zmi 8 (fun _ => 0), aI G zmo 8 (fun _ => 0), aJ G zmf 5 (fun _ => 0), aJ G zmg 8 (fun _ => 0), aJ G zmn 16 (fun _ => 0)]) [0, 1, 2, 3, 4, 5, 6, 7, 8, 9, 10, 11, 12, 13, 14, 15, 16, 17, 18] rfl rfl ?_
    exact pv_vret X hr hlk (fun i => ([zmp, zm1, zm2, zmx, zmh, zmt, zmu, zme, zma, zmb, zmk, zmc, zmd, zmi, zmo, zmf, zmg, zmn] : List Nat).getD i 0) trivial rfl d_M_init_4210
  · skip
    refine pv_iload_n X 0 d_M_init_4191 rfl ?_
    refine pv_bipush X 16 d_M_init_4192 (by decide) ?_
    refine pv_icmp_ge X 4210 d_M_init_4194 rfl (fun h => absurd h (nI_ge h_i (by decide))) (fun _ => ?_)
    refine pv_aload_n X 1 d_M_init_4197 rfl ?_
    refine pv_get X 0 10 u_M_in m_584 rfl rfl (by decide) ⟨rfl, rfl, rfl⟩ rfl d_M_init_4198 ?_
    refine pv_iload_n X 0 d_M_init_4201 rfl ?_
    refine pv_iconst X (-1) d_M_init_4202 (by decide) ?_
    refine pv_iast (ws2 := [ob zm 5 [.ref zmp, .ref zm1, .ref zm2, .ref zmx, .int 0, .ref zmh, .ref zmt, .int 0, .long 0, .long 0, .ref zmu, .ref zme, .ref zma, .ref zmb, .ref zmk, .ref zmc, .ref zmd, .ref zmi, .ref zmo, .ref zmf, .ref zmg, .ref zmn, .long 0, .long 0, .int 0, .long 0], aI G zmp 32 tb_perm, aI G zm1 56 tb_c1, aI G zm2 48 tb_c2, aI G zmx 512 tb_box, aJ G zmh 6 (fun _ => 0), aZ G zmt 6 (fun _ => 0), aI G zmu 16 (upd (minu i) i (-1)), aZ G zme 16 (fun _ => 0), aJ G zma 16 (fun _ => 0), aJ G zmb 16 (fun _ => 0), aZ G zmk 8 (fun _ => 0), aJ G zmc 8 (fun _ => 0), aJ G zmd 8 (fun _ => 0), aJ G zmi 8 (fun _ => 0), aI G zmo 8 (fun _ => 0), aJ G zmf 5 (fun _ => 0), aJ G zmg 8 (fun _ => 0), aJ G zmn 16 (fun _ => 0)]) X 7 rfl (vp_in_nI (by omega) (by omega)) (by rw [(nI_clamp (by omega))]; rfl) d_M_init_4203 ?_
    refine pv_iinc (ll2 := [(1, .int (nI (i + 1))), (0, .ref zm)]) X 0 (nI (i + 1)) d_M_init_4204 rfl (nI_1 _) (by decide) rfl ?_
    refine pv_goto X 4191 d_M_init_4207 rfl ?_
    refine pv_lpick (ll2 := [(1, .int (nI (i + 1))), (0, .ref zm)]) [0, 1] rfl ?_
    refine pv_eqw (ws2 := [ob zm 5 [.ref zmp, .ref zm1, .ref zm2, .ref zmx, .int 0, .ref zmh, .ref zmt, .int 0, .long 0, .long 0, .ref zmu, .ref zme, .ref zma, .ref zmb, .ref zmk, .ref zmc, .ref zmd, .ref zmi, .ref zmo, .ref zmf, .ref zmg, .ref zmn, .long 0, .long 0, .int 0, .long 0], aI G zmp 32 tb_perm, aI G zm1 56 tb_c1, aI G zm2 48 tb_c2, aI G zmx 512 tb_box, aJ G zmh 6 (fun _ => 0), aZ G zmt 6 (fun _ => 0), aI G zmu 16 (minu (i + 1)), aZ G zme 16 (fun _ => 0), aJ G zma 16 (fun _ => 0), aJ G zmb 16 (fun _ => 0), aZ G zmk 8 (fun _ => 0), aJ G zmc 8 (fun _ => 0), aJ G zmd 8 (fun _ => 0), aJ G zmi 8 (fun _ => 0), aI G zmo 8 (fun _ => 0), aJ G zmf 5 (fun _ => 0), aJ G zmg 8 (fun _ => 0), aJ G zmn 16 (fun _ => 0)]) (by rw [← minu_s]; rfl) ?_
    exact ih_i trivial
