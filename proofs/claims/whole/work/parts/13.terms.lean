theorem upd_upd (f : Nat → Int32) (k : Nat) (a b : Int32) : upd (upd f k a) k b = upd f k b := by
  funext j; unfold upd; split <;> rfl
abbrev rm_S_init : Room := { frames := 1, cells := 5, slots := 80, locals := 20 }
theorem mf_S_init : MF y_S_init b_S_init 1 none 0 := ⟨m_28, m_2, by decide, by decide, by decide +kernel⟩
theorem d_S_init_0 : decode b_S_init 0 = .ok (.aload_n 0, 1) := by decide +kernel
theorem d_S_init_1 : decode b_S_init 1 = .ok (.invokespecial 1, 3) := by decide +kernel
theorem d_S_init_4 : decode b_S_init 4 = .ok (.aload_n 0, 1) := by decide +kernel
theorem d_S_init_5 : decode b_S_init 5 = .ok (.bipush 16, 2) := by decide +kernel
theorem d_S_init_7 : decode b_S_init 7 = .ok (.newarray .boolean, 2) := by decide +kernel
theorem d_S_init_9 : decode b_S_init 9 = .ok (.putfield 9, 3) := by decide +kernel
theorem d_S_init_12 : decode b_S_init 12 = .ok (.aload_n 0, 1) := by decide +kernel
theorem d_S_init_13 : decode b_S_init 13 = .ok (.bipush 16, 2) := by decide +kernel
theorem d_S_init_15 : decode b_S_init 15 = .ok (.newarray .int, 2) := by decide +kernel
theorem d_S_init_17 : decode b_S_init 17 = .ok (.putfield 13, 3) := by decide +kernel
theorem d_S_init_20 : decode b_S_init 20 = .ok (.aload_n 0, 1) := by decide +kernel
theorem d_S_init_21 : decode b_S_init 21 = .ok (.bipush 16, 2) := by decide +kernel
theorem d_S_init_23 : decode b_S_init 23 = .ok (.newarray .boolean, 2) := by decide +kernel
theorem d_S_init_25 : decode b_S_init 25 = .ok (.putfield 17, 3) := by decide +kernel
theorem d_S_init_28 : decode b_S_init 28 = .ok (.aload_n 0, 1) := by decide +kernel
theorem d_S_init_29 : decode b_S_init 29 = .ok (.bipush 16, 2) := by decide +kernel
theorem d_S_init_31 : decode b_S_init 31 = .ok (.newarray .long, 2) := by decide +kernel
theorem d_S_init_33 : decode b_S_init 33 = .ok (.putfield 20, 3) := by decide +kernel
theorem d_S_init_36 : decode b_S_init 36 = .ok (.aload_n 0, 1) := by decide +kernel
theorem d_S_init_37 : decode b_S_init 37 = .ok (.bipush 16, 2) := by decide +kernel
theorem d_S_init_39 : decode b_S_init 39 = .ok (.newarray .long, 2) := by decide +kernel
theorem d_S_init_41 : decode b_S_init 41 = .ok (.putfield 24, 3) := by decide +kernel
theorem d_S_init_44 : decode b_S_init 44 = .ok (.return_, 1) := by decide +kernel
set_option maxRecDepth 100000 in
set_option maxHeartbeats 4000000 in
theorem c_S_init (l : Launch) (G : Gt) (zs : Nat) : CtV l G y_S_init b_S_init 1 none rm_S_init E0 [.ref zs] [ob zs 1 [.null, .null, .null, .null, .null]] (fun (_ : Nat × Nat × Nat × Nat × Nat) => True) (fun x => [ob zs 1 [.ref x.1, .ref x.2.1, .ref x.2.2.1, .ref x.2.2.2.1, .ref x.2.2.2.2], aZ G x.1 16 (fun _ => 0), aI G x.2.1 16 (fun _ => 0), aZ G x.2.2.1 16 (fun _ => 0), aJ G x.2.2.2.1 16 (fun _ => 0), aJ G x.2.2.2.2 16 (fun _ => 0)]) 5 80 := by
  refine Ct.of (Qp := fun A => va_Qv _ (qB G A _) A) Stb_0 (by decide) (Nat.le_of_ble_eq_true rfl) ?_
  intro p e s m args below meth c A X hE hr hlk hini
  refine pv_eql (ll2 := [(0, .ref zs)]) rfl ?_
  refine pv_aload_n X 0 d_S_init_0 rfl ?_
  refine pv_objInit X m_29 m_22 m_23 (by decide) (Nat.le_of_ble_eq_true rfl) d_S_init_1 ?_
  refine pv_aload_n X 0 d_S_init_4 rfl ?_
  refine pv_bipush X 16 d_S_init_5 (by decide) ?_
  refine pv_newaZ X 16 m_52 (by decide) (by decide) (by decide) (by decide) (by decide) d_S_init_7 (fun q1 => ?_)
  refine pv_eqw (ws2 := [ob zs 1 [.null, .null, .null, .null, .null], aZ G q1 16 (fun _ => 0)]) rfl ?_
  refine pv_putF X hini (ty := .array .boolean) (ws2 := [ob zs 1 [.ref q1, .null, .null, .null, .null], aZ G q1 16 (fun _ => 0)]) 0 0 ty_S ty_S_ok n_S u_S_in m_30 rfl rfl (by decide) ⟨rfl, rfl, rfl⟩ rfl rfl (by decide +kernel) rfl rfl (Nat.le_of_ble_eq_true rfl) rfl d_S_init_9 ?_
  refine pv_aload_n X 0 d_S_init_12 rfl ?_
  refine pv_bipush X 16 d_S_init_13 (by decide) ?_
  refine pv_newaI X 16 m_53 (by decide) (by decide) (by decide) (by decide) (by decide) d_S_init_15 (fun q2 => ?_)
  refine pv_eqw (ws2 := [ob zs 1 [.ref q1, .null, .null, .null, .null], aZ G q1 16 (fun _ => 0), aI G q2 16 (fun _ => 0)]) rfl ?_
  refine pv_putF X hini (ty := .array .int) (ws2 := [ob zs 1 [.ref q1, .ref q2, .null, .null, .null], aZ G q1 16 (fun _ => 0), aI G q2 16 (fun _ => 0)]) 0 1 ty_S ty_S_ok n_S u_S_in m_32 rfl rfl (by decide) ⟨rfl, rfl, rfl⟩ rfl rfl (by decide +kernel) rfl rfl (Nat.le_of_ble_eq_true rfl) rfl d_S_init_17 ?_
  refine pv_aload_n X 0 d_S_init_20 rfl ?_
  refine pv_bipush X 16 d_S_init_21 (by decide) ?_
  refine pv_newaZ X 16 m_52 (by decide) (by decide) (by decide) (by decide) (by decide) d_S_init_23 (fun q3 => ?_)
  refine pv_eqw (ws2 := [ob zs 1 [.ref q1, .ref q2, .null, .null, .null], aZ G q1 16 (fun _ => 0), aI G q2 16 (fun _ => 0), aZ G q3 16 (fun _ => 0)]) rfl ?_
  refine pv_putF X hini (ty := .array .boolean) (ws2 := [ob zs 1 [.ref q1, .ref q2, .ref q3, .null, .null], aZ G q1 16 (fun _ => 0), aI G q2 16 (fun _ => 0), aZ G q3 16 (fun _ => 0)]) 0 2 ty_S ty_S_ok n_S u_S_in m_34 rfl rfl (by decide) ⟨rfl, rfl, rfl⟩ rfl rfl (by decide +kernel) rfl rfl (Nat.le_of_ble_eq_true rfl) rfl d_S_init_25 ?_
  refine pv_aload_n X 0 d_S_init_28 rfl ?_
  refine pv_bipush X 16 d_S_init_29 (by decide) ?_
  refine pv_newaJ X 16 m_51 (by decide) (by decide) (by decide) (by decide) (by decide) d_S_init_31 (fun q4 => ?_)
  refine pv_eqw (ws2 := [ob zs 1 [.ref q1, .ref q2, .ref q3, .null, .null], aZ G q1 16 (fun _ => 0), aI G q2 16 (fun _ => 0), aZ G q3 16 (fun _ => 0), aJ G q4 16 (fun _ => 0)]) rfl ?_
  refine pv_putF X hini (ty := .array .long) (ws2 := [ob zs 1 [.ref q1, .ref q2, .ref q3, .ref q4, .null], aZ G q1 16 (fun _ => 0), aI G q2 16 (fun _ => 0), aZ G q3 16 (fun _ => 0), aJ G q4 16 (fun _ => 0)]) 0 3 ty_S ty_S_ok n_S u_S_in m_36 rfl rfl (by decide) ⟨rfl, rfl, rfl⟩ rfl rfl (by decide +kernel) rfl rfl (Nat.le_of_ble_eq_true rfl) rfl d_S_init_33 ?_
  refine pv_aload_n X 0 d_S_init_36 rfl ?_
  refine pv_bipush X 16 d_S_init_37 (by decide) ?_
  refine pv_newaJ X 16 m_51 (by decide) (by decide) (by decide) (by decide) (by decide) d_S_init_39 (fun q5 => ?_)
  refine pv_eqw (ws2 := [ob zs 1 [.ref q1, .ref q2, .ref q3, .ref q4, .null], aZ G q1 16 (fun _ => 0), aI G q2 16 (fun _ => 0), aZ G q3 16 (fun _ => 0), aJ G q4 16 (fun _ => 0), aJ G q5 16 (fun _ => 0)]) rfl ?_
  refine pv_putF X hini (ty := .array .long) (ws2 := [ob zs 1 [.ref q1, .ref q2, .ref q3, .ref q4, .ref q5], aZ G q1 16 (fun _ => 0), aI G q2 16 (fun _ => 0), aZ G q3 16 (fun _ => 0), aJ G q4 16 (fun _ => 0), aJ G q5 16 (fun _ => 0)]) 0 4 ty_S ty_S_ok n_S u_S_in m_38 rfl rfl (by decide) ⟨rfl, rfl, rfl⟩ rfl rfl (by decide +kernel) rfl rfl (Nat.le_of_ble_eq_true rfl) rfl d_S_init_41 ?_
  exact pv_vret X hr hlk (q1, q2, q3, q4, q5) trivial rfl d_S_init_44
abbrev rm_S_fill : Room := { frames := 0, cells := 0, slots := 0, locals := 0 }
theorem mf_S_fill : MF y_S_fill b_S_fill 8 none 5 := ⟨m_166, m_2, by decide, by decide, by decide +kernel⟩
theorem d_S_fill_0 : decode b_S_fill 0 = .ok (.aload_n 0, 1) := by decide +kernel
theorem d_S_fill_1 : decode b_S_fill 1 = .ok (.getfield 9, 3) := by decide +kernel
theorem d_S_fill_4 : decode b_S_fill 4 = .ok (.iload_n 1, 1) := by decide +kernel
theorem d_S_fill_5 : decode b_S_fill 5 = .ok (.iconst 1, 1) := by decide +kernel
theorem d_S_fill_6 : decode b_S_fill 6 = .ok (.bastore, 1) := by decide +kernel
theorem d_S_fill_7 : decode b_S_fill 7 = .ok (.aload_n 0, 1) := by decide +kernel
theorem d_S_fill_8 : decode b_S_fill 8 = .ok (.getfield 13, 3) := by decide +kernel
theorem d_S_fill_11 : decode b_S_fill 11 = .ok (.iload_n 1, 1) := by decide +kernel
theorem d_S_fill_12 : decode b_S_fill 12 = .ok (.iload_n 2, 1) := by decide +kernel
theorem d_S_fill_13 : decode b_S_fill 13 = .ok (.iastore, 1) := by decide +kernel
theorem d_S_fill_14 : decode b_S_fill 14 = .ok (.aload_n 0, 1) := by decide +kernel
theorem d_S_fill_15 : decode b_S_fill 15 = .ok (.getfield 17, 3) := by decide +kernel
theorem d_S_fill_18 : decode b_S_fill 18 = .ok (.iload_n 1, 1) := by decide +kernel
theorem d_S_fill_19 : decode b_S_fill 19 = .ok (.iload_n 3, 1) := by decide +kernel
theorem d_S_fill_20 : decode b_S_fill 20 = .ok (.bastore, 1) := by decide +kernel
theorem d_S_fill_21 : decode b_S_fill 21 = .ok (.aload_n 0, 1) := by decide +kernel
theorem d_S_fill_22 : decode b_S_fill 22 = .ok (.getfield 20, 3) := by decide +kernel
theorem d_S_fill_25 : decode b_S_fill 25 = .ok (.iload_n 1, 1) := by decide +kernel
theorem d_S_fill_26 : decode b_S_fill 26 = .ok (.lload 4, 2) := by decide +kernel
theorem d_S_fill_28 : decode b_S_fill 28 = .ok (.lastore, 1) := by decide +kernel
theorem d_S_fill_29 : decode b_S_fill 29 = .ok (.aload_n 0, 1) := by decide +kernel
theorem d_S_fill_30 : decode b_S_fill 30 = .ok (.getfield 24, 3) := by decide +kernel
theorem d_S_fill_33 : decode b_S_fill 33 = .ok (.iload_n 1, 1) := by decide +kernel
theorem d_S_fill_34 : decode b_S_fill 34 = .ok (.lload 6, 2) := by decide +kernel
theorem d_S_fill_36 : decode b_S_fill 36 = .ok (.lastore, 1) := by decide +kernel
theorem d_S_fill_37 : decode b_S_fill 37 = .ok (.return_, 1) := by decide +kernel
set_option maxRecDepth 100000 in
set_option maxHeartbeats 4000000 in
theorem c_S_fill (l : Launch) (G : Gt) (zs zsf zsu zse zsl zsr : Nat) (fi us ex : Nat → Int32) (lf rg : Nat → Int64) (k u x : Int32) (a b : Int64) (hk : vp_in k 16) (hx : Bo x) : CtV l G y_S_fill b_S_fill 8 none rm_S_fill E0 [.ref zs, .int k, .int u, .int x, .long a, .long b] [ob zs 1 [.ref zsf, .ref zsu, .ref zse, .ref zsl, .ref zsr], aZ G zsf 16 fi, aI G zsu 16 us, aZ G zse 16 ex, aJ G zsl 16 lf, aJ G zsr 16 rg] (fun (_ : Unit) => True) (fun _ => [ob zs 1 [.ref zsf, .ref zsu, .ref zse, .ref zsl, .ref zsr], aZ G zsf 16 (upd fi k.toNatClampNeg 1), aI G zsu 16 (upd us k.toNatClampNeg u), aZ G zse 16 (upd ex k.toNatClampNeg x), aJ G zsl 16 (vp_updL lf k.toNatClampNeg a), aJ G zsr 16 (vp_updL rg k.toNatClampNeg b)]) 0 0 := by
  refine Ct.of (Qp := fun A => va_Qv _ (qB G A _) A) Stb_0 (by decide) (Nat.le_of_ble_eq_true rfl) ?_
  intro p e s m args below meth c A X hE hr hlk hini
  refine pv_eql (ll2 := [(0, .ref zs), (1, .int k), (2, .int u), (3, .int x), (4, .long a), (6, .long b)]) rfl ?_
  refine pv_aload_n X 0 d_S_fill_0 rfl ?_
  refine pv_get X 0 0 u_S_in m_30 rfl rfl (by decide) ⟨rfl, rfl, rfl⟩ rfl d_S_fill_1 ?_
  refine pv_iload_n X 1 d_S_fill_4 rfl ?_
  refine pv_iconst X 1 d_S_fill_5 (by decide) ?_
  refine pv_zast (ws2 := [ob zs 1 [.ref zsf, .ref zsu, .ref zse, .ref zsl, .ref zsr], aZ G zsf 16 (upd fi k.toNatClampNeg 1), aI G zsu 16 us, aZ G zse 16 ex, aJ G zsl 16 lf, aJ G zsr 16 rg]) X 1 rfl hk rfl d_S_fill_6 ?_
  refine pv_aload_n X 0 d_S_fill_7 rfl ?_
  refine pv_get X 0 1 u_S_in m_32 rfl rfl (by decide) ⟨rfl, rfl, rfl⟩ rfl d_S_fill_8 ?_
  refine pv_iload_n X 1 d_S_fill_11 rfl ?_
  refine pv_iload_n X 2 d_S_fill_12 rfl ?_
  refine pv_iast (ws2 := [ob zs 1 [.ref zsf, .ref zsu, .ref zse, .ref zsl, .ref zsr], aZ G zsf 16 (upd fi k.toNatClampNeg 1), aI G zsu 16 (upd us k.toNatClampNeg u), aZ G zse 16 ex, aJ G zsl 16 lf, aJ G zsr 16 rg]) X 2 rfl hk rfl d_S_fill_13 ?_
  refine pv_aload_n X 0 d_S_fill_14 rfl ?_
  refine pv_get X 0 2 u_S_in m_34 rfl rfl (by decide) ⟨rfl, rfl, rfl⟩ rfl d_S_fill_15 ?_
  refine pv_iload_n X 1 d_S_fill_18 rfl ?_
  refine pv_iload_n X 3 d_S_fill_19 rfl ?_
  refine pv_zast (ws2 := [ob zs 1 [.ref zsf, .ref zsu, .ref zse, .ref zsl, .ref zsr], aZ G zsf 16 (upd fi k.toNatClampNeg 1), aI G zsu 16 (upd us k.toNatClampNeg u), aZ G zse 16 (upd ex k.toNatClampNeg x), aJ G zsl 16 lf, aJ G zsr 16 rg]) X 3 rfl hk (by rw [hx.vp]; rfl) d_S_fill_20 ?_
  refine pv_aload_n X 0 d_S_fill_21 rfl ?_
  refine pv_get X 0 3 u_S_in m_36 rfl rfl (by decide) ⟨rfl, rfl, rfl⟩ rfl d_S_fill_22 ?_
  refine pv_iload_n X 1 d_S_fill_25 rfl ?_
  refine pv_lload X 4 d_S_fill_26 rfl ?_
  refine pv_last (ws2 := [ob zs 1 [.ref zsf, .ref zsu, .ref zse, .ref zsl, .ref zsr], aZ G zsf 16 (upd fi k.toNatClampNeg 1), aI G zsu 16 (upd us k.toNatClampNeg u), aZ G zse 16 (upd ex k.toNatClampNeg x), aJ G zsl 16 (vp_updL lf k.toNatClampNeg a), aJ G zsr 16 rg]) X 4 rfl hk rfl d_S_fill_28 ?_
  refine pv_aload_n X 0 d_S_fill_29 rfl ?_
  refine pv_get X 0 4 u_S_in m_38 rfl rfl (by decide) ⟨rfl, rfl, rfl⟩ rfl d_S_fill_30 ?_
  refine pv_iload_n X 1 d_S_fill_33 rfl ?_
  refine pv_lload X 5 d_S_fill_34 rfl ?_
  refine pv_last (ws2 := [ob zs 1 [.ref zsf, .ref zsu, .ref zse, .ref zsl, .ref zsr], aZ G zsf 16 (upd fi k.toNatClampNeg 1), aI G zsu 16 (upd us k.toNatClampNeg u), aZ G zse 16 (upd ex k.toNatClampNeg x), aJ G zsl 16 (vp_updL lf k.toNatClampNeg a), aJ G zsr 16 (vp_updL rg k.toNatClampNeg b)]) X 5 rfl hk rfl d_S_fill_36 ?_
  exact pv_vret X hr hlk () trivial rfl d_S_fill_37
abbrev rm_S_empty : Room := { frames := 1, cells := 0, slots := 0, locals := 27 }
theorem mf_S_empty : MF y_S_empty b_S_empty 2 none 1 := ⟨m_229, m_2, by decide, by decide, by decide +kernel⟩
theorem d_S_empty_0 : decode b_S_empty 0 = .ok (.aload_n 0, 1) := by decide +kernel
theorem d_S_empty_1 : decode b_S_empty 1 = .ok (.iload_n 1, 1) := by decide +kernel
theorem d_S_empty_2 : decode b_S_empty 2 = .ok (.iconst 0, 1) := by decide +kernel
theorem d_S_empty_3 : decode b_S_empty 3 = .ok (.iconst 0, 1) := by decide +kernel
theorem d_S_empty_4 : decode b_S_empty 4 = .ok (.lconst 0, 1) := by decide +kernel
theorem d_S_empty_5 : decode b_S_empty 5 = .ok (.lconst 0, 1) := by decide +kernel
theorem d_S_empty_6 : decode b_S_empty 6 = .ok (.invokevirtual 27, 3) := by decide +kernel
theorem d_S_empty_9 : decode b_S_empty 9 = .ok (.aload_n 0, 1) := by decide +kernel
theorem d_S_empty_10 : decode b_S_empty 10 = .ok (.getfield 9, 3) := by decide +kernel
theorem d_S_empty_13 : decode b_S_empty 13 = .ok (.iload_n 1, 1) := by decide +kernel
theorem d_S_empty_14 : decode b_S_empty 14 = .ok (.iconst 0, 1) := by decide +kernel
theorem d_S_empty_15 : decode b_S_empty 15 = .ok (.bastore, 1) := by decide +kernel
theorem d_S_empty_16 : decode b_S_empty 16 = .ok (.return_, 1) := by decide +kernel
set_option maxRecDepth 100000 in
set_option maxHeartbeats 4000000 in
theorem c_S_empty (l : Launch) (G : Gt) (zs zsf zsu zse zsl zsr : Nat) (fi us ex : Nat → Int32) (lf rg : Nat → Int64) (k : Int32) (hk : vp_in k 16) : CtV l G y_S_empty b_S_empty 2 none rm_S_empty E0 [.ref zs, .int k] [ob zs 1 [.ref zsf, .ref zsu, .ref zse, .ref zsl, .ref zsr], aZ G zsf 16 fi, aI G zsu 16 us, aZ G zse 16 ex, aJ G zsl 16 lf, aJ G zsr 16 rg] (fun (_ : Unit) => True) (fun _ => [ob zs 1 [.ref zsf, .ref zsu, .ref zse, .ref zsl, .ref zsr], aZ G zsf 16 (upd fi k.toNatClampNeg 0), aI G zsu 16 (upd us k.toNatClampNeg 0), aZ G zse 16 (upd ex k.toNatClampNeg 0), aJ G zsl 16 (vp_updL lf k.toNatClampNeg 0), aJ G zsr 16 (vp_updL rg k.toNatClampNeg 0)]) 0 0 := by
  refine Ct.of (Qp := fun A => va_Qv _ (qB G A _) A) Stb_0 (by decide) (Nat.le_of_ble_eq_true rfl) ?_
  intro p e s m args below meth c A X hE hr hlk hini
  refine pv_eql (ll2 := [(0, .ref zs), (1, .int k)]) rfl ?_
  refine pv_aload_n X 0 d_S_empty_0 rfl ?_
  refine pv_iload_n X 1 d_S_empty_1 rfl ?_
  refine pv_iconst X 0 d_S_empty_2 (by decide) ?_
  refine pv_iconst X 0 d_S_empty_3 (by decide) ?_
  refine pv_lconst X 0 d_S_empty_4 (by decide) ?_
  refine pv_lconst X 0 d_S_empty_5 (by decide) ?_
  refine pv_callv X (Cut.all _) (rn_V X (c_S_fill l G zs zsf zsu zse zsl zsr fi us ex lf rg k 0 0 (0 : Int64) (0 : Int64) hk bo_0) trivial mf_S_fill m_230 m_164 m_165 rfl 0 rfl rfl rfl (by decide) (by decide) rfl (Nat.le_of_ble_eq_true rfl) d_S_empty_6) (fun x1 e1 => ?_)
  refine pv_eqw (ws2 := [ob zs 1 [.ref zsf, .ref zsu, .ref zse, .ref zsl, .ref zsr], aZ G zsf 16 (upd fi (k.toNatClampNeg) 1), aI G zsu 16 (upd us (k.toNatClampNeg) 0), aZ G zse 16 (upd ex (k.toNatClampNeg) 0), aJ G zsl 16 (vp_updL lf (k.toNatClampNeg) (0 : Int64)), aJ G zsr 16 (vp_updL rg (k.toNatClampNeg) (0 : Int64))]) rfl ?_
  refine pv_aload_n X 0 d_S_empty_9 rfl ?_
  refine pv_get X 0 0 u_S_in m_30 rfl rfl (by decide) ⟨rfl, rfl, rfl⟩ rfl d_S_empty_10 ?_
  refine pv_iload_n X 1 d_S_empty_13 rfl ?_
  refine pv_iconst X 0 d_S_empty_14 (by decide) ?_
  refine pv_zast (ws2 := [ob zs 1 [.ref zsf, .ref zsu, .ref zse, .ref zsl, .ref zsr], aZ G zsf 16 (upd (upd fi (k.toNatClampNeg) 1) k.toNatClampNeg 0), aI G zsu 16 (upd us (k.toNatClampNeg) 0), aZ G zse 16 (upd ex (k.toNatClampNeg) 0), aJ G zsl 16 (vp_updL lf (k.toNatClampNeg) (0 : Int64)), aJ G zsr 16 (vp_updL rg (k.toNatClampNeg) (0 : Int64))]) X 1 rfl hk rfl d_S_empty_15 ?_
  exact pv_vret X hr hlk () trivial (by rw [upd_upd]) d_S_empty_16
abbrev rm_T_init : Room := { frames := 2, cells := 6, slots := 50, locals := 40 }
theorem mf_T_init : MF y_T_init b_T_init 1 none 0 := ⟨m_58, m_3, by decide, by decide, by decide +kernel⟩
theorem d_T_init_0 : decode b_T_init 0 = .ok (.aload_n 0, 1) := by decide +kernel
theorem d_T_init_1 : decode b_T_init 1 = .ok (.invokespecial 5, 3) := by decide +kernel
theorem d_T_init_4 : decode b_T_init 4 = .ok (.aload_n 0, 1) := by decide +kernel
theorem d_T_init_5 : decode b_T_init 5 = .ok (.bipush 8, 2) := by decide +kernel
theorem d_T_init_7 : decode b_T_init 7 = .ok (.newarray .boolean, 2) := by decide +kernel
theorem d_T_init_9 : decode b_T_init 9 = .ok (.putfield 11, 3) := by decide +kernel
theorem d_T_init_12 : decode b_T_init 12 = .ok (.aload_n 0, 1) := by decide +kernel
theorem d_T_init_13 : decode b_T_init 13 = .ok (.bipush 8, 2) := by decide +kernel
theorem d_T_init_15 : decode b_T_init 15 = .ok (.newarray .long, 2) := by decide +kernel
theorem d_T_init_17 : decode b_T_init 17 = .ok (.putfield 15, 3) := by decide +kernel
theorem d_T_init_20 : decode b_T_init 20 = .ok (.aload_n 0, 1) := by decide +kernel
theorem d_T_init_21 : decode b_T_init 21 = .ok (.bipush 8, 2) := by decide +kernel
theorem d_T_init_23 : decode b_T_init 23 = .ok (.newarray .long, 2) := by decide +kernel
theorem d_T_init_25 : decode b_T_init 25 = .ok (.putfield 19, 3) := by decide +kernel
theorem d_T_init_28 : decode b_T_init 28 = .ok (.aload_n 0, 1) := by decide +kernel
theorem d_T_init_29 : decode b_T_init 29 = .ok (.bipush 8, 2) := by decide +kernel
theorem d_T_init_31 : decode b_T_init 31 = .ok (.newarray .long, 2) := by decide +kernel
theorem d_T_init_33 : decode b_T_init 33 = .ok (.putfield 22, 3) := by decide +kernel
theorem d_T_init_36 : decode b_T_init 36 = .ok (.aload_n 0, 1) := by decide +kernel
theorem d_T_init_37 : decode b_T_init 37 = .ok (.new 25, 3) := by decide +kernel
theorem d_T_init_40 : decode b_T_init 40 = .ok (.dup, 1) := by decide +kernel
theorem d_T_init_41 : decode b_T_init 41 = .ok (.invokespecial 27, 3) := by decide +kernel
theorem d_T_init_44 : decode b_T_init 44 = .ok (.putfield 28, 3) := by decide +kernel
theorem d_T_init_47 : decode b_T_init 47 = .ok (.return_, 1) := by decide +kernel
set_option maxRecDepth 100000 in
set_option maxHeartbeats 4000000 in
theorem c_T_init (l : Launch) (G : Gt) (zt : Nat) : CtV l G y_T_init b_T_init 1 none rm_T_init Nx [.ref zt] [ob zt 2 [.null, .null, .null, .null, .null, .long 0, .long 0]] (fun (_ : Nat × Nat × Nat × Nat × Nat × Nat) => True) (fun x => [ob zt 2 [.ref x.1, .ref x.2.1, .ref x.2.2.1, .ref x.2.2.2.1, .ref x.2.2.2.2.1, .long 0, .long 0], aZ G x.1 8 (fun _ => 0), aJ G x.2.1 8 (fun _ => 0), aJ G x.2.2.1 8 (fun _ => 0), aJ G x.2.2.2.1 8 (fun _ => 0), ob x.2.2.2.2.1 4 [.ref x.2.2.2.2.2, .long 0], aJ G x.2.2.2.2.2 16 (rkF 0)]) 6 50 := by
  refine Ct.of (Qp := fun A => va_Qv _ (qB G A _) A) Nx_stb (by decide) (Nat.le_of_ble_eq_true rfl) ?_
  intro p e s m args below meth c A X hE hr hlk hini
  refine pv_eql (ll2 := [(0, .ref zt)]) rfl ?_
  obtain ⟨hN_26, hN_56, hN_62, hN_100, hN_105⟩ := id hE
  refine pv_aload_n X 0 d_T_init_0 rfl ?_
  refine pv_objInit X m_59 m_22 m_23 (by decide) (Nat.le_of_ble_eq_true rfl) d_T_init_1 ?_
  refine pv_aload_n X 0 d_T_init_4 rfl ?_
  refine pv_bipush X 8 d_T_init_5 (by decide) ?_
  refine pv_newaZ X 8 m_52 (by decide) (by decide) (by decide) (by decide) (by decide) d_T_init_7 (fun q1 => ?_)
  refine pv_eqw (ws2 := [ob zt 2 [.null, .null, .null, .null, .null, .long 0, .long 0], aZ G q1 8 (fun _ => 0)]) rfl ?_
  refine pv_putF X hini (ty := .array .boolean) (ws2 := [ob zt 2 [.ref q1, .null, .null, .null, .null, .long 0, .long 0], aZ G q1 8 (fun _ => 0)]) 0 0 ty_T ty_T_ok n_T u_T_in m_73 rfl rfl (by decide) ⟨rfl, rfl, rfl⟩ rfl rfl (by decide +kernel) rfl rfl (Nat.le_of_ble_eq_true rfl) rfl d_T_init_9 ?_
  refine pv_aload_n X 0 d_T_init_12 rfl ?_
  refine pv_bipush X 8 d_T_init_13 (by decide) ?_
  refine pv_newaJ X 8 m_51 (by decide) (by decide) (by decide) (by decide) (by decide) d_T_init_15 (fun q2 => ?_)
  refine pv_eqw (ws2 := [ob zt 2 [.ref q1, .null, .null, .null, .null, .long 0, .long 0], aZ G q1 8 (fun _ => 0), aJ G q2 8 (fun _ => 0)]) rfl ?_
  refine pv_putF X hini (ty := .array .long) (ws2 := [ob zt 2 [.ref q1, .ref q2, .null, .null, .null, .long 0, .long 0], aZ G q1 8 (fun _ => 0), aJ G q2 8 (fun _ => 0)]) 0 1 ty_T ty_T_ok n_T u_T_in m_75 rfl rfl (by decide) ⟨rfl, rfl, rfl⟩ rfl rfl (by decide +kernel) rfl rfl (Nat.le_of_ble_eq_true rfl) rfl d_T_init_17 ?_
  refine pv_aload_n X 0 d_T_init_20 rfl ?_
  refine pv_bipush X 8 d_T_init_21 (by decide) ?_
  refine pv_newaJ X 8 m_51 (by decide) (by decide) (by decide) (by decide) (by decide) d_T_init_23 (fun q3 => ?_)
  refine pv_eqw (ws2 := [ob zt 2 [.ref q1, .ref q2, .null, .null, .null, .long 0, .long 0], aZ G q1 8 (fun _ => 0), aJ G q2 8 (fun _ => 0), aJ G q3 8 (fun _ => 0)]) rfl ?_
  refine pv_putF X hini (ty := .array .long) (ws2 := [ob zt 2 [.ref q1, .ref q2, .ref q3, .null, .null, .long 0, .long 0], aZ G q1 8 (fun _ => 0), aJ G q2 8 (fun _ => 0), aJ G q3 8 (fun _ => 0)]) 0 2 ty_T ty_T_ok n_T u_T_in m_76 rfl rfl (by decide) ⟨rfl, rfl, rfl⟩ rfl rfl (by decide +kernel) rfl rfl (Nat.le_of_ble_eq_true rfl) rfl d_T_init_25 ?_
  refine pv_aload_n X 0 d_T_init_28 rfl ?_
  refine pv_bipush X 8 d_T_init_29 (by decide) ?_
  refine pv_newaJ X 8 m_51 (by decide) (by decide) (by decide) (by decide) (by decide) d_T_init_31 (fun q4 => ?_)
  refine pv_eqw (ws2 := [ob zt 2 [.ref q1, .ref q2, .ref q3, .null, .null, .long 0, .long 0], aZ G q1 8 (fun _ => 0), aJ G q2 8 (fun _ => 0), aJ G q3 8 (fun _ => 0), aJ G q4 8 (fun _ => 0)]) rfl ?_
  refine pv_putF X hini (ty := .array .long) (ws2 := [ob zt 2 [.ref q1, .ref q2, .ref q3, .ref q4, .null, .long 0, .long 0], aZ G q1 8 (fun _ => 0), aJ G q2 8 (fun _ => 0), aJ G q3 8 (fun _ => 0), aJ G q4 8 (fun _ => 0)]) 0 3 ty_T ty_T_ok n_T u_T_in m_77 rfl rfl (by decide) ⟨rfl, rfl, rfl⟩ rfl rfl (by decide +kernel) rfl rfl (Nat.le_of_ble_eq_true rfl) rfl d_T_init_33 ?_
  refine pv_aload_n X 0 d_T_init_36 rfl ?_
  refine pv_new (ci := 4) (fs := [.null, .long 0]) X ty_D ty_D_ok u_D_in m_60 m_61 m_4 rfl (by intro j hj; rcases (show j = 0 ∨ j = 1 by omega) with rfl | rfl <;> rfl) (by decide) (by decide) d_T_init_37 (fun q5 => ?_)
  refine pv_eqw (ws2 := [ob zt 2 [.ref q1, .ref q2, .ref q3, .ref q4, .null, .long 0, .long 0], aZ G q1 8 (fun _ => 0), aJ G q2 8 (fun _ => 0), aJ G q3 8 (fun _ => 0), aJ G q4 8 (fun _ => 0), ob q5 4 [.null, .long 0]]) rfl ?_
  refine pv_dup X d_T_init_40 rfl ?_
  refine pv_callv X (Cut.mk (w0 := [ob q5 4 [.null, .long 0]]) (wr := [ob zt 2 [.ref q1, .ref q2, .ref q3, .ref q4, .null, .long 0, .long 0], aZ G q1 8 (fun _ => 0), aJ G q2 8 (fun _ => 0), aJ G q3 8 (fun _ => 0), aJ G q4 8 (fun _ => 0)]) [5] [0, 1, 2, 3, 4] rfl rfl rfl rfl rfl) (rn_IN X (c_D_init l G q5) trivial mf_D_init hN_62 m_63 rfl rfl (by decide) (by decide) rfl (Nat.le_of_ble_eq_true rfl) d_T_init_41) (fun x1 e1 => ?_)
  refine pv_eqw (ws2 := [ob zt 2 [.ref q1, .ref q2, .ref q3, .ref q4, .null, .long 0, .long 0], aZ G q1 8 (fun _ => 0), aJ G q2 8 (fun _ => 0), aJ G q3 8 (fun _ => 0), aJ G q4 8 (fun _ => 0), ob q5 4 [.ref x1, .long 0], aJ G x1 16 (rkF 0)]) rfl ?_
  refine pv_putF X hini (ty := .object "PinModule$Des") (ws2 := [ob zt 2 [.ref q1, .ref q2, .ref q3, .ref q4, .ref q5, .long 0, .long 0], aZ G q1 8 (fun _ => 0), aJ G q2 8 (fun _ => 0), aJ G q3 8 (fun _ => 0), aJ G q4 8 (fun _ => 0), ob q5 4 [.ref x1, .long 0], aJ G x1 16 (rkF 0)]) 0 4 ty_T ty_T_ok n_T u_T_in m_78 rfl rfl (by decide) ⟨rfl, rfl, rfl⟩ rfl rfl (by decide +kernel) rfl rfl (Nat.le_of_ble_eq_true rfl) rfl d_T_init_44 ?_
  exact pv_vret X hr hlk (q1, q2, q3, q4, q5, x1) trivial rfl d_T_init_47
abbrev ctr (v : Int64) : Int32 := (v &&& 2097151).toInt32
abbrev wctr (v : Int64) : Int64 := v &&& (-2097152)
abbrev rm_T_counter : Room := { frames := 0, cells := 0, slots := 0, locals := 0 }
theorem mf_T_counter : MF y_T_counter b_T_counter 2 (some .int) 1 := ⟨m_309, m_3, by decide, by decide, by decide +kernel⟩
theorem d_T_counter_0 : decode b_T_counter 0 = .ok (.aload_n 0, 1) := by decide +kernel
theorem d_T_counter_1 : decode b_T_counter 1 = .ok (.getfield 15, 3) := by decide +kernel
theorem d_T_counter_4 : decode b_T_counter 4 = .ok (.iload_n 1, 1) := by decide +kernel
theorem d_T_counter_5 : decode b_T_counter 5 = .ok (.laload, 1) := by decide +kernel
theorem d_T_counter_6 : decode b_T_counter 6 = .ok (.ldc2_w 48, 3) := by decide +kernel
theorem d_T_counter_9 : decode b_T_counter 9 = .ok (.land, 1) := by decide +kernel
theorem d_T_counter_10 : decode b_T_counter 10 = .ok (.l2i, 1) := by decide +kernel
theorem d_T_counter_11 : decode b_T_counter 11 = .ok (.ireturn, 1) := by decide +kernel
set_option maxRecDepth 100000 in
set_option maxHeartbeats 4000000 in
theorem c_T_counter (l : Launch) (G : Gt) (zt ztm ztr ztl ztf ztd ztdq : Nat) (md : Nat → Int32) (re fl fr : Nat → Int64) (tk cu cv : Int64) (t : Int32) (ht : vp_in t 8) : CtI l G y_T_counter b_T_counter 2 (some .int) rm_T_counter E0 [.ref zt, .int t] [ob zt 2 [.ref ztm, .ref ztr, .ref ztl, .ref ztf, .ref ztd, .long cu, .long cv], aZ G ztm 8 md, aJ G ztr 8 re, aJ G ztl 8 fl, aJ G ztf 8 fr, ob ztd 4 [.ref ztdq, .long tk], aJ G ztdq 16 (rkF tk)] (fun r (_ : Unit) => r = ctr (re t.toNatClampNeg)) (fun _ => [ob zt 2 [.ref ztm, .ref ztr, .ref ztl, .ref ztf, .ref ztd, .long cu, .long cv], aZ G ztm 8 md, aJ G ztr 8 re, aJ G ztl 8 fl, aJ G ztf 8 fr, ob ztd 4 [.ref ztdq, .long tk], aJ G ztdq 16 (rkF tk)]) 0 0 := by
  refine Ct.of (Qp := fun A => va_Qi _ (qB G A _) A) Stb_0 (by decide) (Nat.le_of_ble_eq_true rfl) ?_
  intro p e s m args below meth c A X hE hr hlk hini
  refine pv_eql (ll2 := [(0, .ref zt), (1, .int t)]) rfl ?_
  refine pv_aload_n X 0 d_T_counter_0 rfl ?_
  refine pv_get X 0 1 u_T_in m_75 rfl rfl (by decide) ⟨rfl, rfl, rfl⟩ rfl d_T_counter_1 ?_
  refine pv_iload_n X 1 d_T_counter_4 rfl ?_
  refine pv_lald X 2 rfl ht d_T_counter_5 ?_
  refine pv_ldc2_w X m_310 d_T_counter_6 ?_
  refine pv_land X d_T_counter_9 ?_
  refine pv_l2i X d_T_counter_10 ?_
  exact pv_iret X hr hlk () rfl rfl d_T_counter_11
abbrev rm_T_withoutCounter : Room := { frames := 0, cells := 0, slots := 0, locals := 0 }
theorem mf_T_withoutCounter : MF y_T_withoutCounter b_T_withoutCounter 2 (some .long) 1 := ⟨m_329, m_3, by decide, by decide, by decide +kernel⟩
theorem d_T_withoutCounter_0 : decode b_T_withoutCounter 0 = .ok (.aload_n 0, 1) := by decide +kernel
theorem d_T_withoutCounter_1 : decode b_T_withoutCounter 1 = .ok (.getfield 15, 3) := by decide +kernel
theorem d_T_withoutCounter_4 : decode b_T_withoutCounter 4 = .ok (.iload_n 1, 1) := by decide +kernel
theorem d_T_withoutCounter_5 : decode b_T_withoutCounter 5 = .ok (.laload, 1) := by decide +kernel
theorem d_T_withoutCounter_6 : decode b_T_withoutCounter 6 = .ok (.ldc2_w 50, 3) := by decide +kernel
theorem d_T_withoutCounter_9 : decode b_T_withoutCounter 9 = .ok (.land, 1) := by decide +kernel
theorem d_T_withoutCounter_10 : decode b_T_withoutCounter 10 = .ok (.lreturn, 1) := by decide +kernel
set_option maxRecDepth 100000 in
set_option maxHeartbeats 4000000 in
theorem c_T_withoutCounter (l : Launch) (G : Gt) (zt ztm ztr ztl ztf ztd ztdq : Nat) (md : Nat → Int32) (re fl fr : Nat → Int64) (tk cu cv : Int64) (t : Int32) (ht : vp_in t 8) : CtL l G y_T_withoutCounter b_T_withoutCounter 2 (some .long) rm_T_withoutCounter E0 [.ref zt, .int t] [ob zt 2 [.ref ztm, .ref ztr, .ref ztl, .ref ztf, .ref ztd, .long cu, .long cv], aZ G ztm 8 md, aJ G ztr 8 re, aJ G ztl 8 fl, aJ G ztf 8 fr, ob ztd 4 [.ref ztdq, .long tk], aJ G ztdq 16 (rkF tk)] (fun r (_ : Unit) => r = wctr (re t.toNatClampNeg)) (fun _ => [ob zt 2 [.ref ztm, .ref ztr, .ref ztl, .ref ztf, .ref ztd, .long cu, .long cv], aZ G ztm 8 md, aJ G ztr 8 re, aJ G ztl 8 fl, aJ G ztf 8 fr, ob ztd 4 [.ref ztdq, .long tk], aJ G ztdq 16 (rkF tk)]) 0 0 := by
  refine Ct.of (Qp := fun A => va_Ql _ (qB G A _) A) Stb_0 (by decide) (Nat.le_of_ble_eq_true rfl) ?_
  intro p e s m args below meth c A X hE hr hlk hini
  refine pv_eql (ll2 := [(0, .ref zt), (1, .int t)]) rfl ?_
  refine pv_aload_n X 0 d_T_withoutCounter_0 rfl ?_
  refine pv_get X 0 1 u_T_in m_75 rfl rfl (by decide) ⟨rfl, rfl, rfl⟩ rfl d_T_withoutCounter_1 ?_
  refine pv_iload_n X 1 d_T_withoutCounter_4 rfl ?_
  refine pv_lald X 2 rfl ht d_T_withoutCounter_5 ?_
  refine pv_ldc2_w X m_330 d_T_withoutCounter_6 ?_
  refine pv_land X d_T_withoutCounter_9 ?_
  exact pv_lret X hr hlk () rfl rfl d_T_withoutCounter_10
def advR (re : Nat → Int64) (j : Nat) (n : Int32) : Int32 := if 2097151 < la 22 n then -7 else if ctr (re j) ≤ la 22 n then la 22 n else -7
def advM (re : Nat → Int64) (j : Nat) (n : Int32) : Nat → Int64 := if 2097151 < la 22 n then re else if ctr (re j) ≤ la 22 n then vp_updL re j (wctr (re j) ||| (la 22 n).toInt64) else re
abbrev rm_T_advance : Room := { frames := 2, cells := 0, slots := 0, locals := 42 }
theorem mf_T_advance : MF y_T_advance b_T_advance 4 (some .int) 2 := ⟨m_314, m_3, by decide, by decide, by decide +kernel⟩
theorem d_T_advance_0 : decode b_T_advance 0 = .ok (.iload_n 2, 1) := by decide +kernel
theorem d_T_advance_1 : decode b_T_advance 1 = .ok (.invokestatic 52, 3) := by decide +kernel
theorem d_T_advance_4 : decode b_T_advance 4 = .ok (.istore_n 3, 1) := by decide +kernel
theorem d_T_advance_5 : decode b_T_advance 5 = .ok (.iload_n 3, 1) := by decide +kernel
theorem d_T_advance_6 : decode b_T_advance 6 = .ok (.ldc 56, 2) := by decide +kernel
theorem d_T_advance_8 : decode b_T_advance 8 = .ok (.if_icmp .gt 12, 3) := by decide +kernel
theorem d_T_advance_11 : decode b_T_advance 11 = .ok (.iload_n 3, 1) := by decide +kernel
theorem d_T_advance_12 : decode b_T_advance 12 = .ok (.aload_n 0, 1) := by decide +kernel
theorem d_T_advance_13 : decode b_T_advance 13 = .ok (.iload_n 1, 1) := by decide +kernel
theorem d_T_advance_14 : decode b_T_advance 14 = .ok (.invokevirtual 57, 3) := by decide +kernel
theorem d_T_advance_17 : decode b_T_advance 17 = .ok (.if_icmp .ge 6, 3) := by decide +kernel
theorem d_T_advance_20 : decode b_T_advance 20 = .ok (.bipush (-7), 2) := by decide +kernel
theorem d_T_advance_22 : decode b_T_advance 22 = .ok (.ireturn, 1) := by decide +kernel
theorem d_T_advance_23 : decode b_T_advance 23 = .ok (.aload_n 0, 1) := by decide +kernel
theorem d_T_advance_24 : decode b_T_advance 24 = .ok (.getfield 15, 3) := by decide +kernel
theorem d_T_advance_27 : decode b_T_advance 27 = .ok (.iload_n 1, 1) := by decide +kernel
theorem d_T_advance_28 : decode b_T_advance 28 = .ok (.aload_n 0, 1) := by decide +kernel
theorem d_T_advance_29 : decode b_T_advance 29 = .ok (.iload_n 1, 1) := by decide +kernel
theorem d_T_advance_30 : decode b_T_advance 30 = .ok (.invokevirtual 60, 3) := by decide +kernel
theorem d_T_advance_33 : decode b_T_advance 33 = .ok (.iload_n 3, 1) := by decide +kernel
theorem d_T_advance_34 : decode b_T_advance 34 = .ok (.i2l, 1) := by decide +kernel
theorem d_T_advance_35 : decode b_T_advance 35 = .ok (.lor, 1) := by decide +kernel
theorem d_T_advance_36 : decode b_T_advance 36 = .ok (.lastore, 1) := by decide +kernel
theorem d_T_advance_37 : decode b_T_advance 37 = .ok (.iload_n 3, 1) := by decide +kernel
theorem d_T_advance_38 : decode b_T_advance 38 = .ok (.ireturn, 1) := by decide +kernel
set_option maxRecDepth 100000 in
set_option maxHeartbeats 4000000 in
theorem c_T_advance (l : Launch) (G : Gt) (zt ztm ztr ztl ztf ztd ztdq : Nat) (md : Nat → Int32) (re fl fr : Nat → Int64) (tk cu cv : Int64) (t n : Int32) (ht : vp_in t 8) : CtI l G y_T_advance b_T_advance 4 (some .int) rm_T_advance E0 [.ref zt, .int t, .int n] [ob zt 2 [.ref ztm, .ref ztr, .ref ztl, .ref ztf, .ref ztd, .long cu, .long cv], aZ G ztm 8 md, aJ G ztr 8 re, aJ G ztl 8 fl, aJ G ztf 8 fr, ob ztd 4 [.ref ztdq, .long tk], aJ G ztdq 16 (rkF tk)] (fun r (_ : Unit) => r = advR re t.toNatClampNeg n) (fun _ => [ob zt 2 [.ref ztm, .ref ztr, .ref ztl, .ref ztf, .ref ztd, .long cu, .long cv], aZ G ztm 8 md, aJ G ztr 8 (advM re t.toNatClampNeg n), aJ G ztl 8 fl, aJ G ztf 8 fr, ob ztd 4 [.ref ztdq, .long tk], aJ G ztdq 16 (rkF tk)]) 0 0 := by
  refine Ct.of (Qp := fun A => va_Qi _ (qB G A _) A) Stb_0 (by decide) (Nat.le_of_ble_eq_true rfl) ?_
  intro p e s m args below meth c A X hE hr hlk hini
  refine pv_eql (ll2 := [(0, .ref zt), (1, .int t), (2, .int n)]) rfl ?_
  refine pv_iload_n X 2 d_T_advance_0 rfl ?_
  refine pv_calli0 X (rn_S X (c_T_leastAllowed l G n) trivial mf_T_leastAllowed m_315 m_316 rfl (by decide) (by decide) rfl (Nat.le_of_ble_eq_true rfl) d_T_advance_1) ?_
  refine pv_istore_n (ll2 := [(3, .int (f_T_leastAllowed n)), (0, .ref zt), (1, .int t), (2, .int n)]) X d_T_advance_4 (by decide) rfl ?_
  refine pv_iload_n X 0 d_T_advance_5 rfl ?_
  refine pv_ldc X m_324 d_T_advance_6 ?_
  refine pv_icmp_gt X 20 d_T_advance_8 rfl (fun h2 => ?_) (fun h2n => ?_)
  · skip
    refine pv_bipush X (-7) d_T_advance_20 (by decide) ?_
    exact pv_iret X hr hlk () (by show _ = advR _ _ _; unfold advR; rw [if_pos h2]) (by unfold advM; rw [if_pos h2]) d_T_advance_22
  · skip
    refine pv_iload_n X 0 d_T_advance_11 rfl ?_
    refine pv_aload_n X 1 d_T_advance_12 rfl ?_
    refine pv_iload_n X 2 d_T_advance_13 rfl ?_
    refine pv_calliE X (Cut.all _) (rn_V X (c_T_counter l G zt ztm ztr ztl ztf ztd ztdq md re fl fr tk cu cv t ht) trivial mf_T_counter m_325 m_307 m_308 rfl 0 rfl rfl rfl (by decide) (by decide) rfl (Nat.le_of_ble_eq_true rfl) d_T_advance_14) (fun x3 => ?_)
    refine pv_eqw (ws2 := [ob zt 2 [.ref ztm, .ref ztr, .ref ztl, .ref ztf, .ref ztd, .long cu, .long cv], aZ G ztm 8 md, aJ G ztr 8 re, aJ G ztl 8 fl, aJ G ztf 8 fr, ob ztd 4 [.ref ztdq, .long tk], aJ G ztdq 16 (rkF tk)]) rfl ?_
    refine pv_icmp_ge X 23 d_T_advance_17 rfl (fun h4 => ?_) (fun h4n => ?_)
    · skip
      refine pv_aload_n X 1 d_T_advance_23 rfl ?_
      refine pv_get X 0 1 u_T_in m_75 rfl rfl (by decide) ⟨rfl, rfl, rfl⟩ rfl d_T_advance_24 ?_
      refine pv_iload_n X 2 d_T_advance_27 rfl ?_
      refine pv_aload_n X 1 d_T_advance_28 rfl ?_
      refine pv_iload_n X 2 d_T_advance_29 rfl ?_
      refine pv_calllE X (Cut.all _) (rn_V X (c_T_withoutCounter l G zt ztm ztr ztl ztf ztd ztdq md re fl fr tk cu cv t ht) trivial mf_T_withoutCounter m_326 m_328 ms_3 rfl 0 rfl rfl rfl (by decide) (by decide) rfl (Nat.le_of_ble_eq_true rfl) d_T_advance_30) (fun x5 => ?_)
      refine pv_eqw (ws2 := [ob zt 2 [.ref ztm, .ref ztr, .ref ztl, .ref ztf, .ref ztd, .long cu, .long cv], aZ G ztm 8 md, aJ G ztr 8 re, aJ G ztl 8 fl, aJ G ztf 8 fr, ob ztd 4 [.ref ztdq, .long tk], aJ G ztdq 16 (rkF tk)]) rfl ?_
      refine pv_iload_n X 0 d_T_advance_33 rfl ?_
      refine pv_i2l X d_T_advance_34 ?_
      refine pv_lor X d_T_advance_35 ?_
      refine pv_last (ws2 := [ob zt 2 [.ref ztm, .ref ztr, .ref ztl, .ref ztf, .ref ztd, .long cu, .long cv], aZ G ztm 8 md, aJ G ztr 8 (vp_updL re t.toNatClampNeg ((wctr (re (t.toNatClampNeg))) ||| ((f_T_leastAllowed n).toInt64))), aJ G ztl 8 fl, aJ G ztf 8 fr, ob ztd 4 [.ref ztdq, .long tk], aJ G ztdq 16 (rkF tk)]) X 2 rfl ht rfl d_T_advance_36 ?_
      refine pv_iload_n X 0 d_T_advance_37 rfl ?_
      exact pv_iret X hr hlk () (by show _ = advR _ _ _; unfold advR; rw [if_neg h2n, if_pos h4]) (by unfold advM; rw [if_neg h2n, if_pos h4]) d_T_advance_38
    · skip
      refine pv_bipush X (-7) d_T_advance_20 (by decide) ?_
      exact pv_iret X hr hlk () (by show _ = advR _ _ _; unfold advR; rw [if_neg h2n, if_neg h4n]) (by unfold advM; rw [if_neg h2n, if_neg h4n]) d_T_advance_22
abbrev rm_T_derivedHalf : Room := { frames := 3, cells := 0, slots := 0, locals := 78 }
theorem mf_T_derivedHalf : MF y_T_derivedHalf b_T_derivedHalf 7 (some .long) 3 := ⟨m_358, m_3, by decide, by decide, by decide +kernel⟩
theorem d_T_derivedHalf_0 : decode b_T_derivedHalf 0 = .ok (.aload_n 0, 1) := by decide +kernel
theorem d_T_derivedHalf_1 : decode b_T_derivedHalf 1 = .ok (.getfield 28, 3) := by decide +kernel
theorem d_T_derivedHalf_4 : decode b_T_derivedHalf 4 = .ok (.lload_n 3, 1) := by decide +kernel
theorem d_T_derivedHalf_5 : decode b_T_derivedHalf 5 = .ok (.invokevirtual 80, 3) := by decide +kernel
theorem d_T_derivedHalf_8 : decode b_T_derivedHalf 8 = .ok (.aload_n 0, 1) := by decide +kernel
theorem d_T_derivedHalf_9 : decode b_T_derivedHalf 9 = .ok (.getfield 28, 3) := by decide +kernel
theorem d_T_derivedHalf_12 : decode b_T_derivedHalf 12 = .ok (.lload_n 1, 1) := by decide +kernel
theorem d_T_derivedHalf_13 : decode b_T_derivedHalf 13 = .ok (.lload 5, 2) := by decide +kernel
theorem d_T_derivedHalf_15 : decode b_T_derivedHalf 15 = .ok (.lxor, 1) := by decide +kernel
theorem d_T_derivedHalf_16 : decode b_T_derivedHalf 16 = .ok (.invokevirtual 83, 3) := by decide +kernel
theorem d_T_derivedHalf_19 : decode b_T_derivedHalf 19 = .ok (.lload 5, 2) := by decide +kernel
theorem d_T_derivedHalf_21 : decode b_T_derivedHalf 21 = .ok (.lxor, 1) := by decide +kernel
theorem d_T_derivedHalf_22 : decode b_T_derivedHalf 22 = .ok (.lreturn, 1) := by decide +kernel
set_option maxRecDepth 100000 in
set_option maxHeartbeats 4000000 in
theorem c_T_derivedHalf (l : Launch) (G : Gt) (zt ztm ztr ztl ztf ztd ztdq : Nat) (md : Nat → Int32) (re fl fr : Nat → Int64) (tk cu cv : Int64) (q a b : Int64) : CtL l G y_T_derivedHalf b_T_derivedHalf 7 (some .long) rm_T_derivedHalf Sx [.ref zt, .long q, .long a, .long b] [ob zt 2 [.ref ztm, .ref ztr, .ref ztl, .ref ztf, .ref ztd, .long cu, .long cv], aZ G ztm 8 md, aJ G ztr 8 re, aJ G ztl 8 fl, aJ G ztf 8 fr, ob ztd 4 [.ref ztdq, .long tk], aJ G ztdq 16 (rkF tk)] (fun r (_ : Unit) => r = enc a (q ^^^ b) ^^^ b) (fun _ => [ob zt 2 [.ref ztm, .ref ztr, .ref ztl, .ref ztf, .ref ztd, .long cu, .long cv], aZ G ztm 8 md, aJ G ztr 8 re, aJ G ztl 8 fl, aJ G ztf 8 fr, ob ztd 4 [.ref ztdq, .long a], aJ G ztdq 16 (rkF a)]) 0 0 := by
  refine Ct.of (Qp := fun A => va_Ql _ (qB G A _) A) Sx_stb (by decide) (Nat.le_of_ble_eq_true rfl) ?_
  intro p e s m args below meth c A X hE hr hlk hini
  refine pv_eql (ll2 := [(0, .ref zt), (1, .long q), (3, .long a), (5, .long b)]) rfl ?_
  refine pv_aload_n X 0 d_T_derivedHalf_0 rfl ?_
  refine pv_get X 0 4 u_T_in m_78 rfl rfl (by decide) ⟨rfl, rfl, rfl⟩ rfl d_T_derivedHalf_1 ?_
  refine pv_lload_n X 2 d_T_derivedHalf_4 rfl ?_
  refine pv_callv X (Cut.mk (w0 := [ob ztd 4 [.ref ztdq, .long tk], aJ G ztdq 16 (rkF tk)]) (wr := [ob zt 2 [.ref ztm, .ref ztr, .ref ztl, .ref ztf, .ref ztd, .long cu, .long cv], aZ G ztm 8 md, aJ G ztr 8 re, aJ G ztl 8 fl, aJ G ztf 8 fr]) [5, 6] [0, 1, 2, 3, 4] rfl rfl rfl rfl rfl) (rn_V X (c_D_take l G ztd ztdq tk a) hE mf_D_take m_359 m_172 m_173 rfl 0 rfl rfl rfl (by decide) (by decide) rfl (Nat.le_of_ble_eq_true rfl) d_T_derivedHalf_5) (fun x1 e1 => ?_)
  refine pv_eqw (ws2 := [ob zt 2 [.ref ztm, .ref ztr, .ref ztl, .ref ztf, .ref ztd, .long cu, .long cv], aZ G ztm 8 md, aJ G ztr 8 re, aJ G ztl 8 fl, aJ G ztf 8 fr, ob ztd 4 [.ref ztdq, .long a], aJ G ztdq 16 (rkF a)]) rfl ?_
  refine pv_aload_n X 0 d_T_derivedHalf_8 rfl ?_
  refine pv_get X 0 4 u_T_in m_78 rfl rfl (by decide) ⟨rfl, rfl, rfl⟩ rfl d_T_derivedHalf_9 ?_
  refine pv_lload_n X 1 d_T_derivedHalf_12 rfl ?_
  refine pv_lload X 3 d_T_derivedHalf_13 rfl ?_
  refine pv_lxor X d_T_derivedHalf_15 ?_
  refine pv_calllE X (Cut.mk (w0 := [ob ztd 4 [.ref ztdq, .long a], aJ G ztdq 16 (rkF a)]) (wr := [ob zt 2 [.ref ztm, .ref ztr, .ref ztl, .ref ztf, .ref ztd, .long cu, .long cv], aZ G ztm 8 md, aJ G ztr 8 re, aJ G ztl 8 fl, aJ G ztf 8 fr]) [5, 6] [0, 1, 2, 3, 4] rfl rfl rfl rfl rfl) (rn_V X (c_D_encrypted l G ztd ztdq a (q ^^^ b)) hE mf_D_encrypted m_360 m_197 m_198 rfl 0 rfl rfl rfl (by decide) (by decide) rfl (Nat.le_of_ble_eq_true rfl) d_T_derivedHalf_16) (fun x2 => ?_)
  refine pv_eqw (ws2 := [ob zt 2 [.ref ztm, .ref ztr, .ref ztl, .ref ztf, .ref ztd, .long cu, .long cv], aZ G ztm 8 md, aJ G ztr 8 re, aJ G ztl 8 fl, aJ G ztf 8 fr, ob ztd 4 [.ref ztdq, .long a], aJ G ztdq 16 (rkF a)]) rfl ?_
  refine pv_lload X 3 d_T_derivedHalf_19 rfl ?_
  refine pv_lxor X d_T_derivedHalf_21 ?_
  exact pv_lret X hr hlk () rfl rfl d_T_derivedHalf_22
abbrev bI (i : Nat) : Int32 := 20 - nI i
theorem bI_nn : ∀ i, i < 21 → ¬ bI i < 0 := by decide
theorem bI_s : ∀ i, i < 21 → bI i + Int32.ofInt (-1) = bI (i + 1) := by decide
abbrev dkV : Int64 := -4557430892032688128
abbrev dkB (i : Nat) : Int64 := (1 : Int64) <<< ((bI i).toInt64 &&& 63)
def dk (g a b k : Int64) : Nat → Int64 × Int64 × Int64 × Int64
  | 0 => (wctr g, a, b, k)
  | i + 1 => if lg_cmp (g &&& dkB i) 0 = 0 then dk g a b k i else
      ((dk g a b k i).1 ||| dkB i,
       enc ((dk g a b k i).2.1 ^^^ dkV) (((dk g a b k i).1 ||| dkB i) ^^^ ((dk g a b k i).2.2.1 ^^^ dkV)) ^^^ ((dk g a b k i).2.2.1 ^^^ dkV),
       enc (dk g a b k i).2.1 (((dk g a b k i).1 ||| dkB i) ^^^ (dk g a b k i).2.2.1) ^^^ (dk g a b k i).2.2.1,
       (dk g a b k i).2.1 ^^^ dkV)
abbrev rm_T_deriveCurrentKey : Room := { frames := 4, cells := 0, slots := 0, locals := 104 }
theorem mf_T_deriveCurrentKey : MF y_T_deriveCurrentKey b_T_deriveCurrentKey 9 none 1 := ⟨m_354, m_3, by decide, by decide, by decide +kernel⟩
theorem d_T_deriveCurrentKey_0 : decode b_T_deriveCurrentKey 0 = .ok (.aload_n 0, 1) := by decide +kernel
theorem d_T_deriveCurrentKey_1 : decode b_T_deriveCurrentKey 1 = .ok (.aload_n 0, 1) := by decide +kernel
theorem d_T_deriveCurrentKey_2 : decode b_T_deriveCurrentKey 2 = .ok (.getfield 19, 3) := by decide +kernel
theorem d_T_deriveCurrentKey_5 : decode b_T_deriveCurrentKey 5 = .ok (.iload_n 1, 1) := by decide +kernel
theorem d_T_deriveCurrentKey_6 : decode b_T_deriveCurrentKey 6 = .ok (.laload, 1) := by decide +kernel
theorem d_T_deriveCurrentKey_7 : decode b_T_deriveCurrentKey 7 = .ok (.putfield 69, 3) := by decide +kernel
theorem d_T_deriveCurrentKey_10 : decode b_T_deriveCurrentKey 10 = .ok (.aload_n 0, 1) := by decide +kernel
theorem d_T_deriveCurrentKey_11 : decode b_T_deriveCurrentKey 11 = .ok (.aload_n 0, 1) := by decide +kernel
theorem d_T_deriveCurrentKey_12 : decode b_T_deriveCurrentKey 12 = .ok (.getfield 22, 3) := by decide +kernel
theorem d_T_deriveCurrentKey_15 : decode b_T_deriveCurrentKey 15 = .ok (.iload_n 1, 1) := by decide +kernel
theorem d_T_deriveCurrentKey_16 : decode b_T_deriveCurrentKey 16 = .ok (.laload, 1) := by decide +kernel
theorem d_T_deriveCurrentKey_17 : decode b_T_deriveCurrentKey 17 = .ok (.putfield 73, 3) := by decide +kernel
theorem d_T_deriveCurrentKey_20 : decode b_T_deriveCurrentKey 20 = .ok (.aload_n 0, 1) := by decide +kernel
theorem d_T_deriveCurrentKey_21 : decode b_T_deriveCurrentKey 21 = .ok (.iload_n 1, 1) := by decide +kernel
theorem d_T_deriveCurrentKey_22 : decode b_T_deriveCurrentKey 22 = .ok (.invokevirtual 60, 3) := by decide +kernel
theorem d_T_deriveCurrentKey_25 : decode b_T_deriveCurrentKey 25 = .ok (.lstore_n 2, 1) := by decide +kernel
theorem d_T_deriveCurrentKey_26 : decode b_T_deriveCurrentKey 26 = .ok (.bipush 20, 2) := by decide +kernel
theorem d_T_deriveCurrentKey_28 : decode b_T_deriveCurrentKey 28 = .ok (.istore 4, 2) := by decide +kernel
theorem d_T_deriveCurrentKey_30 : decode b_T_deriveCurrentKey 30 = .ok (.iload 4, 2) := by decide +kernel
theorem d_T_deriveCurrentKey_32 : decode b_T_deriveCurrentKey 32 = .ok (.ifCond .lt 80, 3) := by decide +kernel
theorem d_T_deriveCurrentKey_35 : decode b_T_deriveCurrentKey 35 = .ok (.lconst 1, 1) := by decide +kernel
theorem d_T_deriveCurrentKey_36 : decode b_T_deriveCurrentKey 36 = .ok (.iload 4, 2) := by decide +kernel
theorem d_T_deriveCurrentKey_38 : decode b_T_deriveCurrentKey 38 = .ok (.lshl, 1) := by decide +kernel
theorem d_T_deriveCurrentKey_39 : decode b_T_deriveCurrentKey 39 = .ok (.lstore 5, 2) := by decide +kernel
theorem d_T_deriveCurrentKey_41 : decode b_T_deriveCurrentKey 41 = .ok (.aload_n 0, 1) := by decide +kernel
theorem d_T_deriveCurrentKey_42 : decode b_T_deriveCurrentKey 42 = .ok (.getfield 15, 3) := by decide +kernel
theorem d_T_deriveCurrentKey_45 : decode b_T_deriveCurrentKey 45 = .ok (.iload_n 1, 1) := by decide +kernel
theorem d_T_deriveCurrentKey_46 : decode b_T_deriveCurrentKey 46 = .ok (.laload, 1) := by decide +kernel
theorem d_T_deriveCurrentKey_47 : decode b_T_deriveCurrentKey 47 = .ok (.lload 5, 2) := by decide +kernel
theorem d_T_deriveCurrentKey_49 : decode b_T_deriveCurrentKey 49 = .ok (.land, 1) := by decide +kernel
theorem d_T_deriveCurrentKey_50 : decode b_T_deriveCurrentKey 50 = .ok (.lconst 0, 1) := by decide +kernel
theorem d_T_deriveCurrentKey_51 : decode b_T_deriveCurrentKey 51 = .ok (.lcmp, 1) := by decide +kernel
theorem d_T_deriveCurrentKey_52 : decode b_T_deriveCurrentKey 52 = .ok (.ifCond .eq 54, 3) := by decide +kernel
theorem d_T_deriveCurrentKey_55 : decode b_T_deriveCurrentKey 55 = .ok (.lload_n 2, 1) := by decide +kernel
theorem d_T_deriveCurrentKey_56 : decode b_T_deriveCurrentKey 56 = .ok (.lload 5, 2) := by decide +kernel
theorem d_T_deriveCurrentKey_58 : decode b_T_deriveCurrentKey 58 = .ok (.lor, 1) := by decide +kernel
theorem d_T_deriveCurrentKey_59 : decode b_T_deriveCurrentKey 59 = .ok (.lstore_n 2, 1) := by decide +kernel
theorem d_T_deriveCurrentKey_60 : decode b_T_deriveCurrentKey 60 = .ok (.aload_n 0, 1) := by decide +kernel
theorem d_T_deriveCurrentKey_61 : decode b_T_deriveCurrentKey 61 = .ok (.lload_n 2, 1) := by decide +kernel
theorem d_T_deriveCurrentKey_62 : decode b_T_deriveCurrentKey 62 = .ok (.aload_n 0, 1) := by decide +kernel
theorem d_T_deriveCurrentKey_63 : decode b_T_deriveCurrentKey 63 = .ok (.getfield 69, 3) := by decide +kernel
theorem d_T_deriveCurrentKey_66 : decode b_T_deriveCurrentKey 66 = .ok (.aload_n 0, 1) := by decide +kernel
theorem d_T_deriveCurrentKey_67 : decode b_T_deriveCurrentKey 67 = .ok (.getfield 73, 3) := by decide +kernel
theorem d_T_deriveCurrentKey_70 : decode b_T_deriveCurrentKey 70 = .ok (.invokevirtual 76, 3) := by decide +kernel
theorem d_T_deriveCurrentKey_73 : decode b_T_deriveCurrentKey 73 = .ok (.lstore 7, 2) := by decide +kernel
theorem d_T_deriveCurrentKey_75 : decode b_T_deriveCurrentKey 75 = .ok (.aload_n 0, 1) := by decide +kernel
theorem d_T_deriveCurrentKey_76 : decode b_T_deriveCurrentKey 76 = .ok (.aload_n 0, 1) := by decide +kernel
theorem d_T_deriveCurrentKey_77 : decode b_T_deriveCurrentKey 77 = .ok (.lload_n 2, 1) := by decide +kernel
theorem d_T_deriveCurrentKey_78 : decode b_T_deriveCurrentKey 78 = .ok (.aload_n 0, 1) := by decide +kernel
theorem d_T_deriveCurrentKey_79 : decode b_T_deriveCurrentKey 79 = .ok (.getfield 69, 3) := by decide +kernel
theorem d_T_deriveCurrentKey_82 : decode b_T_deriveCurrentKey 82 = .ok (.ldc2_w 46, 3) := by decide +kernel
theorem d_T_deriveCurrentKey_85 : decode b_T_deriveCurrentKey 85 = .ok (.lxor, 1) := by decide +kernel
theorem d_T_deriveCurrentKey_86 : decode b_T_deriveCurrentKey 86 = .ok (.aload_n 0, 1) := by decide +kernel
theorem d_T_deriveCurrentKey_87 : decode b_T_deriveCurrentKey 87 = .ok (.getfield 73, 3) := by decide +kernel
theorem d_T_deriveCurrentKey_90 : decode b_T_deriveCurrentKey 90 = .ok (.ldc2_w 46, 3) := by decide +kernel
theorem d_T_deriveCurrentKey_93 : decode b_T_deriveCurrentKey 93 = .ok (.lxor, 1) := by decide +kernel
theorem d_T_deriveCurrentKey_94 : decode b_T_deriveCurrentKey 94 = .ok (.invokevirtual 76, 3) := by decide +kernel
theorem d_T_deriveCurrentKey_97 : decode b_T_deriveCurrentKey 97 = .ok (.putfield 69, 3) := by decide +kernel
theorem d_T_deriveCurrentKey_100 : decode b_T_deriveCurrentKey 100 = .ok (.aload_n 0, 1) := by decide +kernel
theorem d_T_deriveCurrentKey_101 : decode b_T_deriveCurrentKey 101 = .ok (.lload 7, 2) := by decide +kernel
theorem d_T_deriveCurrentKey_103 : decode b_T_deriveCurrentKey 103 = .ok (.putfield 73, 3) := by decide +kernel
theorem d_T_deriveCurrentKey_106 : decode b_T_deriveCurrentKey 106 = .ok (.iinc 4 (-1), 3) := by decide +kernel
theorem d_T_deriveCurrentKey_109 : decode b_T_deriveCurrentKey 109 = .ok (.goto (-79), 3) := by decide +kernel
theorem d_T_deriveCurrentKey_112 : decode b_T_deriveCurrentKey 112 = .ok (.return_, 1) := by decide +kernel
set_option maxRecDepth 100000 in
set_option maxHeartbeats 4000000 in
theorem c_T_deriveCurrentKey (l : Launch) (G : Gt) (zt ztm ztr ztl ztf ztd ztdq : Nat) (md : Nat → Int32) (re fl fr : Nat → Int64) (tk cu cv : Int64) (t : Int32) (ht : vp_in t 8) : CtV l G y_T_deriveCurrentKey b_T_deriveCurrentKey 9 none rm_T_deriveCurrentKey Sx [.ref zt, .int t] [ob zt 2 [.ref ztm, .ref ztr, .ref ztl, .ref ztf, .ref ztd, .long cu, .long cv], aZ G ztm 8 md, aJ G ztr 8 re, aJ G ztl 8 fl, aJ G ztf 8 fr, ob ztd 4 [.ref ztdq, .long tk], aJ G ztdq 16 (rkF tk)] (fun (_ : Unit) => True) (fun _ => [ob zt 2 [.ref ztm, .ref ztr, .ref ztl, .ref ztf, .ref ztd, .long ((dk (re t.toNatClampNeg) (fl t.toNatClampNeg) (fr t.toNatClampNeg) tk 21).2.1), .long ((dk (re t.toNatClampNeg) (fl t.toNatClampNeg) (fr t.toNatClampNeg) tk 21).2.2.1)], aZ G ztm 8 md, aJ G ztr 8 re, aJ G ztl 8 fl, aJ G ztf 8 fr, ob ztd 4 [.ref ztdq, .long ((dk (re t.toNatClampNeg) (fl t.toNatClampNeg) (fr t.toNatClampNeg) tk 21).2.2.2)], aJ G ztdq 16 (rkF ((dk (re t.toNatClampNeg) (fl t.toNatClampNeg) (fr t.toNatClampNeg) tk 21).2.2.2))]) 0 0 := by
  refine Ct.of (Qp := fun A => va_Qv _ (qB G A _) A) Sx_stb (by decide) (Nat.le_of_ble_eq_true rfl) ?_
  intro p e s m args below meth c A X hE hr hlk hini
  refine pv_eql (ll2 := [(0, .ref zt), (1, .int t)]) rfl ?_
  refine pv_aload_n X 0 d_T_deriveCurrentKey_0 rfl ?_
  refine pv_aload_n X 0 d_T_deriveCurrentKey_1 rfl ?_
  refine pv_get X 0 2 u_T_in m_76 rfl rfl (by decide) ⟨rfl, rfl, rfl⟩ rfl d_T_deriveCurrentKey_2 ?_
  refine pv_iload_n X 1 d_T_deriveCurrentKey_5 rfl ?_
  refine pv_lald X 3 rfl ht d_T_deriveCurrentKey_6 ?_
  refine pv_put X (ty := .long) (ws2 := [ob zt 2 [.ref ztm, .ref ztr, .ref ztl, .ref ztf, .ref ztd, .long (fl t.toNatClampNeg), .long cv], aZ G ztm 8 md, aJ G ztr 8 re, aJ G ztl 8 fl, aJ G ztf 8 fr, ob ztd 4 [.ref ztdq, .long tk], aJ G ztdq 16 (rkF tk)]) 0 5 ty_T ty_T_ok n_T u_T_in m_79 rfl rfl (by decide) ⟨rfl, rfl, rfl⟩ rfl (by decide +kernel) rfl rfl (Nat.le_of_ble_eq_true rfl) rfl d_T_deriveCurrentKey_7 ?_
  refine pv_aload_n X 0 d_T_deriveCurrentKey_10 rfl ?_
  refine pv_aload_n X 0 d_T_deriveCurrentKey_11 rfl ?_
  refine pv_get X 0 3 u_T_in m_77 rfl rfl (by decide) ⟨rfl, rfl, rfl⟩ rfl d_T_deriveCurrentKey_12 ?_
  refine pv_iload_n X 1 d_T_deriveCurrentKey_15 rfl ?_
  refine pv_lald X 4 rfl ht d_T_deriveCurrentKey_16 ?_
  refine pv_put X (ty := .long) (ws2 := [ob zt 2 [.ref ztm, .ref ztr, .ref ztl, .ref ztf, .ref ztd, .long (fl t.toNatClampNeg), .long (fr t.toNatClampNeg)], aZ G ztm 8 md, aJ G ztr 8 re, aJ G ztl 8 fl, aJ G ztf 8 fr, ob ztd 4 [.ref ztdq, .long tk], aJ G ztdq 16 (rkF tk)]) 0 6 ty_T ty_T_ok n_T u_T_in m_81 rfl rfl (by decide) ⟨rfl, rfl, rfl⟩ rfl (by decide +kernel) rfl rfl (Nat.le_of_ble_eq_true rfl) rfl d_T_deriveCurrentKey_17 ?_
  refine pv_aload_n X 0 d_T_deriveCurrentKey_20 rfl ?_
  refine pv_iload_n X 1 d_T_deriveCurrentKey_21 rfl ?_
  refine pv_calllE X (Cut.all _) (rn_V X (c_T_withoutCounter l G zt ztm ztr ztl ztf ztd ztdq md re fl fr tk (fl t.toNatClampNeg) (fr t.toNatClampNeg) t ht) trivial mf_T_withoutCounter m_326 m_328 ms_3 rfl 0 rfl rfl rfl (by decide) (by decide) rfl (Nat.le_of_ble_eq_true rfl) d_T_deriveCurrentKey_22) (fun x1 => ?_)
  refine pv_eqw (ws2 := [ob zt 2 [.ref ztm, .ref ztr, .ref ztl, .ref ztf, .ref ztd, .long (fl t.toNatClampNeg), .long (fr t.toNatClampNeg)], aZ G ztm 8 md, aJ G ztr 8 re, aJ G ztl 8 fl, aJ G ztf 8 fr, ob ztd 4 [.ref ztdq, .long tk], aJ G ztdq 16 (rkF tk)]) rfl ?_
  refine pv_lstore_n (ll2 := [(2, .long (wctr (re (t.toNatClampNeg)))), (0, .ref zt), (1, .int t)]) X d_T_deriveCurrentKey_25 (by decide) rfl ?_
  refine pv_bipush X 20 d_T_deriveCurrentKey_26 (by decide) ?_
  refine pv_istore (ll2 := [(4, .int 20), (2, .long (wctr (re (t.toNatClampNeg)))), (0, .ref zt), (1, .int t)]) X d_T_deriveCurrentKey_28 (by decide) rfl ?_
  refine pv_lpick (ll2 := [(4, .int (bI 0)), (2, .long ((dk (re t.toNatClampNeg) (fl t.toNatClampNeg) (fr t.toNatClampNeg) tk 0).1)), (0, .ref zt), (1, .int t)]) [0, 1, 2, 3] rfl ?_
  refine pv_eqw (ws2 := [ob zt 2 [.ref ztm, .ref ztr, .ref ztl, .ref ztf, .ref ztd, .long ((dk (re t.toNatClampNeg) (fl t.toNatClampNeg) (fr t.toNatClampNeg) tk 0).2.1), .long ((dk (re t.toNatClampNeg) (fl t.toNatClampNeg) (fr t.toNatClampNeg) tk 0).2.2.1)], aZ G ztm 8 md, aJ G ztr 8 re, aJ G ztl 8 fl, aJ G ztf 8 fr, ob ztd 4 [.ref ztdq, .long ((dk (re t.toNatClampNeg) (fl t.toNatClampNeg) (fr t.toNatClampNeg) tk 0).2.2.2)], aJ G ztdq 16 (rkF ((dk (re t.toNatClampNeg) (fl t.toNatClampNeg) (fr t.toNatClampNeg) tk 0).2.2.2))]) rfl ?_
  refine pv_loop 21 (fun i => True) (fun i => [ob zt 2 [.ref ztm, .ref ztr, .ref ztl, .ref ztf, .ref ztd, .long ((dk (re t.toNatClampNeg) (fl t.toNatClampNeg) (fr t.toNatClampNeg) tk i).2.1), .long ((dk (re t.toNatClampNeg) (fl t.toNatClampNeg) (fr t.toNatClampNeg) tk i).2.2.1)], aZ G ztm 8 md, aJ G ztr 8 re, aJ G ztl 8 fl, aJ G ztf 8 fr, ob ztd 4 [.ref ztdq, .long ((dk (re t.toNatClampNeg) (fl t.toNatClampNeg) (fr t.toNatClampNeg) tk i).2.2.2)], aJ G ztdq 16 (rkF ((dk (re t.toNatClampNeg) (fl t.toNatClampNeg) (fr t.toNatClampNeg) tk i).2.2.2))]) (fun i => [(4, .int (bI i)), (2, .long ((dk (re t.toNatClampNeg) (fl t.toNatClampNeg) (fr t.toNatClampNeg) tk i).1)), (0, .ref zt), (1, .int t)]) 0 (by omega) trivial (fun hI_i => ?_) (fun i h_i hI_i ih_i => ?_)
  · skip
    refine pv_iload X 0 d_T_deriveCurrentKey_30 rfl ?_
    refine pv_if_lt X 112 d_T_deriveCurrentKey_32 rfl (fun _ => ?_) (fun h => absurd (by decide) h)
    exact pv_vret X hr hlk () trivial rfl d_T_deriveCurrentKey_112
  · skip
    refine pv_iload X 0 d_T_deriveCurrentKey_30 rfl ?_
    refine pv_if_lt X 112 d_T_deriveCurrentKey_32 rfl (fun h => absurd h (bI_nn i h_i)) (fun _ => ?_)
    refine pv_lconst X 1 d_T_deriveCurrentKey_35 (by decide) ?_
    refine pv_iload X 0 d_T_deriveCurrentKey_36 rfl ?_
    refine pv_lshl X d_T_deriveCurrentKey_38 ?_
    refine pv_lstore (ll2 := [(5, .long ((1 : Int64) <<< ((bI i).toInt64 &&& 63))), (4, .int (bI i)), (2, .long ((dk (re t.toNatClampNeg) (fl t.toNatClampNeg) (fr t.toNatClampNeg) tk i).1)), (0, .ref zt), (1, .int t)]) X d_T_deriveCurrentKey_39 (by decide) rfl ?_
    refine pv_aload_n X 3 d_T_deriveCurrentKey_41 rfl ?_
    refine pv_get X 0 1 u_T_in m_75 rfl rfl (by decide) ⟨rfl, rfl, rfl⟩ rfl d_T_deriveCurrentKey_42 ?_
    refine pv_iload_n X 4 d_T_deriveCurrentKey_45 rfl ?_
    refine pv_lald X 2 rfl ht d_T_deriveCurrentKey_46 ?_
    refine pv_lload X 0 d_T_deriveCurrentKey_47 rfl ?_
    refine pv_land X d_T_deriveCurrentKey_49 ?_
    refine pv_lconst X 0 d_T_deriveCurrentKey_50 (by decide) ?_
    refine pv_lcmp X d_T_deriveCurrentKey_51 ?_
    refine pv_if_eq X 106 d_T_deriveCurrentKey_52 rfl (fun h2 => ?_) (fun h2n => ?_)
    · skip
      refine pv_lpick (ll2 := [(4, .int (bI i)), (2, .long ((dk (re t.toNatClampNeg) (fl t.toNatClampNeg) (fr t.toNatClampNeg) tk i).1)), (0, .ref zt), (1, .int t)]) [1, 2, 3, 4] rfl ?_
      refine pv_eql (ll2 := [(4, .int (bI i)), (2, .long ((dk (re t.toNatClampNeg) (fl t.toNatClampNeg) (fr t.toNatClampNeg) tk (i + 1)).1)), (0, .ref zt), (1, .int t)]) (by simp only [dk, if_pos h2]) ?_
      refine pv_eqw (ws2 := [ob zt 2 [.ref ztm, .ref ztr, .ref ztl, .ref ztf, .ref ztd, .long ((dk (re t.toNatClampNeg) (fl t.toNatClampNeg) (fr t.toNatClampNeg) tk (i + 1)).2.1), .long ((dk (re t.toNatClampNeg) (fl t.toNatClampNeg) (fr t.toNatClampNeg) tk (i + 1)).2.2.1)], aZ G ztm 8 md, aJ G ztr 8 re, aJ G ztl 8 fl, aJ G ztf 8 fr, ob ztd 4 [.ref ztdq, .long ((dk (re t.toNatClampNeg) (fl t.toNatClampNeg) (fr t.toNatClampNeg) tk (i + 1)).2.2.2)], aJ G ztdq 16 (rkF ((dk (re t.toNatClampNeg) (fl t.toNatClampNeg) (fr t.toNatClampNeg) tk (i + 1)).2.2.2))]) (by simp only [dk, if_pos h2]) ?_
      refine pv_iinc (ll2 := [(4, .int (bI (i + 1))), (2, .long ((dk (re t.toNatClampNeg) (fl t.toNatClampNeg) (fr t.toNatClampNeg) tk (i + 1)).1)), (0, .ref zt), (1, .int t)]) X 0 (bI (i + 1)) d_T_deriveCurrentKey_106 rfl (bI_s i h_i) (by decide) rfl ?_
      refine pv_goto X 30 d_T_deriveCurrentKey_109 rfl ?_
      refine pv_lpick (ll2 := [(4, .int (bI (i + 1))), (2, .long ((dk (re t.toNatClampNeg) (fl t.toNatClampNeg) (fr t.toNatClampNeg) tk (i + 1)).1)), (0, .ref zt), (1, .int t)]) [0, 1, 2, 3] rfl ?_
      refine pv_eqw (ws2 := [ob zt 2 [.ref ztm, .ref ztr, .ref ztl, .ref ztf, .ref ztd, .long ((dk (re t.toNatClampNeg) (fl t.toNatClampNeg) (fr t.toNatClampNeg) tk (i + 1)).2.1), .long ((dk (re t.toNatClampNeg) (fl t.toNatClampNeg) (fr t.toNatClampNeg) tk (i + 1)).2.2.1)], aZ G ztm 8 md, aJ G ztr 8 re, aJ G ztl 8 fl, aJ G ztf 8 fr, ob ztd 4 [.ref ztdq, .long ((dk (re t.toNatClampNeg) (fl t.toNatClampNeg) (fr t.toNatClampNeg) tk (i + 1)).2.2.2)], aJ G ztdq 16 (rkF ((dk (re t.toNatClampNeg) (fl t.toNatClampNeg) (fr t.toNatClampNeg) tk (i + 1)).2.2.2))]) rfl ?_
      exact ih_i trivial
    · skip
      refine pv_lload_n X 2 d_T_deriveCurrentKey_55 rfl ?_
      refine pv_lload X 0 d_T_deriveCurrentKey_56 rfl ?_
      refine pv_lor X d_T_deriveCurrentKey_58 ?_
      refine pv_lstore_n (ll2 := [(2, .long (((dk (re t.toNatClampNeg) (fl t.toNatClampNeg) (fr t.toNatClampNeg) tk i).1) ||| ((1 : Int64) <<< ((bI i).toInt64 &&& 63)))), (5, .long ((1 : Int64) <<< ((bI i).toInt64 &&& 63))), (4, .int (bI i)), (0, .ref zt), (1, .int t)]) X d_T_deriveCurrentKey_59 (by decide) rfl ?_
      refine pv_aload_n X 3 d_T_deriveCurrentKey_60 rfl ?_
      refine pv_lload_n X 0 d_T_deriveCurrentKey_61 rfl ?_
      refine pv_aload_n X 3 d_T_deriveCurrentKey_62 rfl ?_
      refine pv_get X 0 5 u_T_in m_79 rfl rfl (by decide) ⟨rfl, rfl, rfl⟩ rfl d_T_deriveCurrentKey_63 ?_
      refine pv_aload_n X 3 d_T_deriveCurrentKey_66 rfl ?_
      refine pv_get X 0 6 u_T_in m_81 rfl rfl (by decide) ⟨rfl, rfl, rfl⟩ rfl d_T_deriveCurrentKey_67 ?_
      refine pv_calllE X (Cut.all _) (rn_V X (c_T_derivedHalf l G zt ztm ztr ztl ztf ztd ztdq md re fl fr ((dk (re t.toNatClampNeg) (fl t.toNatClampNeg) (fr t.toNatClampNeg) tk i).2.2.2) ((dk (re t.toNatClampNeg) (fl t.toNatClampNeg) (fr t.toNatClampNeg) tk i).2.1) ((dk (re t.toNatClampNeg) (fl t.toNatClampNeg) (fr t.toNatClampNeg) tk i).2.2.1) (((dk (re t.toNatClampNeg) (fl t.toNatClampNeg) (fr t.toNatClampNeg) tk i).1) ||| ((1 : Int64) <<< ((bI i).toInt64 &&& 63))) ((dk (re t.toNatClampNeg) (fl t.toNatClampNeg) (fr t.toNatClampNeg) tk i).2.1) ((dk (re t.toNatClampNeg) (fl t.toNatClampNeg) (fr t.toNatClampNeg) tk i).2.2.1)) hE mf_T_derivedHalf m_355 m_357 ms_6 rfl 0 rfl rfl rfl (by decide) (by decide) rfl (Nat.le_of_ble_eq_true rfl) d_T_deriveCurrentKey_70) (fun x3 => ?_)
      refine pv_eqw (ws2 := [ob zt 2 [.ref ztm, .ref ztr, .ref ztl, .ref ztf, .ref ztd, .long ((dk (re t.toNatClampNeg) (fl t.toNatClampNeg) (fr t.toNatClampNeg) tk i).2.1), .long ((dk (re t.toNatClampNeg) (fl t.toNatClampNeg) (fr t.toNatClampNeg) tk i).2.2.1)], aZ G ztm 8 md, aJ G ztr 8 re, aJ G ztl 8 fl, aJ G ztf 8 fr, ob ztd 4 [.ref ztdq, .long ((dk (re t.toNatClampNeg) (fl t.toNatClampNeg) (fr t.toNatClampNeg) tk i).2.1)], aJ G ztdq 16 (rkF ((dk (re t.toNatClampNeg) (fl t.toNatClampNeg) (fr t.toNatClampNeg) tk i).2.1))]) rfl ?_
      refine pv_lstore (ll2 := [(7, .long (enc ((dk (re t.toNatClampNeg) (fl t.toNatClampNeg) (fr t.toNatClampNeg) tk i).2.1) ((((dk (re t.toNatClampNeg) (fl t.toNatClampNeg) (fr t.toNatClampNeg) tk i).1) ||| ((1 : Int64) <<< ((bI i).toInt64 &&& 63))) ^^^ ((dk (re t.toNatClampNeg) (fl t.toNatClampNeg) (fr t.toNatClampNeg) tk i).2.2.1)) ^^^ ((dk (re t.toNatClampNeg) (fl t.toNatClampNeg) (fr t.toNatClampNeg) tk i).2.2.1))), (2, .long (((dk (re t.toNatClampNeg) (fl t.toNatClampNeg) (fr t.toNatClampNeg) tk i).1) ||| ((1 : Int64) <<< ((bI i).toInt64 &&& 63)))), (5, .long ((1 : Int64) <<< ((bI i).toInt64 &&& 63))), (4, .int (bI i)), (0, .ref zt), (1, .int t)]) X d_T_deriveCurrentKey_73 (by decide) rfl ?_
      refine pv_aload_n X 4 d_T_deriveCurrentKey_75 rfl ?_
      refine pv_aload_n X 4 d_T_deriveCurrentKey_76 rfl ?_
      refine pv_lload_n X 1 d_T_deriveCurrentKey_77 rfl ?_
      refine pv_aload_n X 4 d_T_deriveCurrentKey_78 rfl ?_
      refine pv_get X 0 5 u_T_in m_79 rfl rfl (by decide) ⟨rfl, rfl, rfl⟩ rfl d_T_deriveCurrentKey_79 ?_
      refine pv_ldc2_w X m_301 d_T_deriveCurrentKey_82 ?_
      refine pv_lxor X d_T_deriveCurrentKey_85 ?_
      refine pv_aload_n X 4 d_T_deriveCurrentKey_86 rfl ?_
      refine pv_get X 0 6 u_T_in m_81 rfl rfl (by decide) ⟨rfl, rfl, rfl⟩ rfl d_T_deriveCurrentKey_87 ?_
      refine pv_ldc2_w X m_301 d_T_deriveCurrentKey_90 ?_
      refine pv_lxor X d_T_deriveCurrentKey_93 ?_
      refine pv_calllE X (Cut.all _) (rn_V X (c_T_derivedHalf l G zt ztm ztr ztl ztf ztd ztdq md re fl fr ((dk (re t.toNatClampNeg) (fl t.toNatClampNeg) (fr t.toNatClampNeg) tk i).2.1) ((dk (re t.toNatClampNeg) (fl t.toNatClampNeg) (fr t.toNatClampNeg) tk i).2.1) ((dk (re t.toNatClampNeg) (fl t.toNatClampNeg) (fr t.toNatClampNeg) tk i).2.2.1) (((dk (re t.toNatClampNeg) (fl t.toNatClampNeg) (fr t.toNatClampNeg) tk i).1) ||| ((1 : Int64) <<< ((bI i).toInt64 &&& 63))) (((dk (re t.toNatClampNeg) (fl t.toNatClampNeg) (fr t.toNatClampNeg) tk i).2.1) ^^^ (-4557430892032688128 : Int64)) (((dk (re t.toNatClampNeg) (fl t.toNatClampNeg) (fr t.toNatClampNeg) tk i).2.2.1) ^^^ (-4557430892032688128 : Int64))) hE mf_T_derivedHalf m_355 m_357 ms_6 rfl 0 rfl rfl rfl (by decide) (by decide) rfl (Nat.le_of_ble_eq_true rfl) d_T_deriveCurrentKey_94) (fun x4 => ?_)
      refine pv_eqw (ws2 := [ob zt 2 [.ref ztm, .ref ztr, .ref ztl, .ref ztf, .ref ztd, .long ((dk (re t.toNatClampNeg) (fl t.toNatClampNeg) (fr t.toNatClampNeg) tk i).2.1), .long ((dk (re t.toNatClampNeg) (fl t.toNatClampNeg) (fr t.toNatClampNeg) tk i).2.2.1)], aZ G ztm 8 md, aJ G ztr 8 re, aJ G ztl 8 fl, aJ G ztf 8 fr, ob ztd 4 [.ref ztdq, .long (((dk (re t.toNatClampNeg) (fl t.toNatClampNeg) (fr t.toNatClampNeg) tk i).2.1) ^^^ (-4557430892032688128 : Int64))], aJ G ztdq 16 (rkF (((dk (re t.toNatClampNeg) (fl t.toNatClampNeg) (fr t.toNatClampNeg) tk i).2.1) ^^^ (-4557430892032688128 : Int64)))]) rfl ?_
      refine pv_put X (ty := .long) (ws2 := [ob zt 2 [.ref ztm, .ref ztr, .ref ztl, .ref ztf, .ref ztd, .long (enc (((dk (re t.toNatClampNeg) (fl t.toNatClampNeg) (fr t.toNatClampNeg) tk i).2.1) ^^^ (-4557430892032688128 : Int64)) ((((dk (re t.toNatClampNeg) (fl t.toNatClampNeg) (fr t.toNatClampNeg) tk i).1) ||| ((1 : Int64) <<< ((bI i).toInt64 &&& 63))) ^^^ (((dk (re t.toNatClampNeg) (fl t.toNatClampNeg) (fr t.toNatClampNeg) tk i).2.2.1) ^^^ (-4557430892032688128 : Int64))) ^^^ (((dk (re t.toNatClampNeg) (fl t.toNatClampNeg) (fr t.toNatClampNeg) tk i).2.2.1) ^^^ (-4557430892032688128 : Int64))), .long ((dk (re t.toNatClampNeg) (fl t.toNatClampNeg) (fr t.toNatClampNeg) tk i).2.2.1)], aZ G ztm 8 md, aJ G ztr 8 re, aJ G ztl 8 fl, aJ G ztf 8 fr, ob ztd 4 [.ref ztdq, .long (((dk (re t.toNatClampNeg) (fl t.toNatClampNeg) (fr t.toNatClampNeg) tk i).2.1) ^^^ (-4557430892032688128 : Int64))], aJ G ztdq 16 (rkF (((dk (re t.toNatClampNeg) (fl t.toNatClampNeg) (fr t.toNatClampNeg) tk i).2.1) ^^^ (-4557430892032688128 : Int64)))]) 0 5 ty_T ty_T_ok n_T u_T_in m_79 rfl rfl (by decide) ⟨rfl, rfl, rfl⟩ rfl (by decide +kernel) rfl rfl (Nat.le_of_ble_eq_true rfl) rfl d_T_deriveCurrentKey_97 ?_
      refine pv_aload_n X 4 d_T_deriveCurrentKey_100 rfl ?_
      refine pv_lload X 0 d_T_deriveCurrentKey_101 rfl ?_
      refine pv_put X (ty := .long) (ws2 := [ob zt 2 [.ref ztm, .ref ztr, .ref ztl, .ref ztf, .ref ztd, .long (enc (((dk (re t.toNatClampNeg) (fl t.toNatClampNeg) (fr t.toNatClampNeg) tk i).2.1) ^^^ (-4557430892032688128 : Int64)) ((((dk (re t.toNatClampNeg) (fl t.toNatClampNeg) (fr t.toNatClampNeg) tk i).1) ||| ((1 : Int64) <<< ((bI i).toInt64 &&& 63))) ^^^ (((dk (re t.toNatClampNeg) (fl t.toNatClampNeg) (fr t.toNatClampNeg) tk i).2.2.1) ^^^ (-4557430892032688128 : Int64))) ^^^ (((dk (re t.toNatClampNeg) (fl t.toNatClampNeg) (fr t.toNatClampNeg) tk i).2.2.1) ^^^ (-4557430892032688128 : Int64))), .long (enc ((dk (re t.toNatClampNeg) (fl t.toNatClampNeg) (fr t.toNatClampNeg) tk i).2.1) ((((dk (re t.toNatClampNeg) (fl t.toNatClampNeg) (fr t.toNatClampNeg) tk i).1) ||| ((1 : Int64) <<< ((bI i).toInt64 &&& 63))) ^^^ ((dk (re t.toNatClampNeg) (fl t.toNatClampNeg) (fr t.toNatClampNeg) tk i).2.2.1)) ^^^ ((dk (re t.toNatClampNeg) (fl t.toNatClampNeg) (fr t.toNatClampNeg) tk i).2.2.1))], aZ G ztm 8 md, aJ G ztr 8 re, aJ G ztl 8 fl, aJ G ztf 8 fr, ob ztd 4 [.ref ztdq, .long (((dk (re t.toNatClampNeg) (fl t.toNatClampNeg) (fr t.toNatClampNeg) tk i).2.1) ^^^ (-4557430892032688128 : Int64))], aJ G ztdq 16 (rkF (((dk (re t.toNatClampNeg) (fl t.toNatClampNeg) (fr t.toNatClampNeg) tk i).2.1) ^^^ (-4557430892032688128 : Int64)))]) 0 6 ty_T ty_T_ok n_T u_T_in m_81 rfl rfl (by decide) ⟨rfl, rfl, rfl⟩ rfl (by decide +kernel) rfl rfl (Nat.le_of_ble_eq_true rfl) rfl d_T_deriveCurrentKey_103 ?_
      refine pv_lpick (ll2 := [(4, .int (bI i)), (2, .long (((dk (re t.toNatClampNeg) (fl t.toNatClampNeg) (fr t.toNatClampNeg) tk i).1) ||| ((1 : Int64) <<< ((bI i).toInt64 &&& 63)))), (0, .ref zt), (1, .int t)]) [3, 1, 4, 5] rfl ?_
      refine pv_eql (ll2 := [(4, .int (bI i)), (2, .long ((dk (re t.toNatClampNeg) (fl t.toNatClampNeg) (fr t.toNatClampNeg) tk (i + 1)).1)), (0, .ref zt), (1, .int t)]) (by simp only [dk, if_neg h2n]) ?_
      refine pv_eqw (ws2 := [ob zt 2 [.ref ztm, .ref ztr, .ref ztl, .ref ztf, .ref ztd, .long ((dk (re t.toNatClampNeg) (fl t.toNatClampNeg) (fr t.toNatClampNeg) tk (i + 1)).2.1), .long ((dk (re t.toNatClampNeg) (fl t.toNatClampNeg) (fr t.toNatClampNeg) tk (i + 1)).2.2.1)], aZ G ztm 8 md, aJ G ztr 8 re, aJ G ztl 8 fl, aJ G ztf 8 fr, ob ztd 4 [.ref ztdq, .long ((dk (re t.toNatClampNeg) (fl t.toNatClampNeg) (fr t.toNatClampNeg) tk (i + 1)).2.2.2)], aJ G ztdq 16 (rkF ((dk (re t.toNatClampNeg) (fl t.toNatClampNeg) (fr t.toNatClampNeg) tk (i + 1)).2.2.2))]) (by simp only [dk, if_neg h2n]) ?_
      refine pv_iinc (ll2 := [(4, .int (bI (i + 1))), (2, .long ((dk (re t.toNatClampNeg) (fl t.toNatClampNeg) (fr t.toNatClampNeg) tk (i + 1)).1)), (0, .ref zt), (1, .int t)]) X 0 (bI (i + 1)) d_T_deriveCurrentKey_106 rfl (bI_s i h_i) (by decide) rfl ?_
      refine pv_goto X 30 d_T_deriveCurrentKey_109 rfl ?_
      refine pv_lpick (ll2 := [(4, .int (bI (i + 1))), (2, .long ((dk (re t.toNatClampNeg) (fl t.toNatClampNeg) (fr t.toNatClampNeg) tk (i + 1)).1)), (0, .ref zt), (1, .int t)]) [0, 1, 2, 3] rfl ?_
      refine pv_eqw (ws2 := [ob zt 2 [.ref ztm, .ref ztr, .ref ztl, .ref ztf, .ref ztd, .long ((dk (re t.toNatClampNeg) (fl t.toNatClampNeg) (fr t.toNatClampNeg) tk (i + 1)).2.1), .long ((dk (re t.toNatClampNeg) (fl t.toNatClampNeg) (fr t.toNatClampNeg) tk (i + 1)).2.2.1)], aZ G ztm 8 md, aJ G ztr 8 re, aJ G ztl 8 fl, aJ G ztf 8 fr, ob ztd 4 [.ref ztdq, .long ((dk (re t.toNatClampNeg) (fl t.toNatClampNeg) (fr t.toNatClampNeg) tk (i + 1)).2.2.2)], aJ G ztdq 16 (rkF ((dk (re t.toNatClampNeg) (fl t.toNatClampNeg) (fr t.toNatClampNeg) tk (i + 1)).2.2.2))]) rfl ?_
      exact ih_i trivial
abbrev mkG (v : Int64) : Int64 := v <<< ((21 : Int32).toInt64 &&& 63)
abbrev mkF (v : Int64) : Int64 := (-281474976710656) ||| ((mkG v).toUInt64 >>> ((16 : Int32).toInt64.toUInt64 &&& Int64.toUInt64 63)).toInt64
abbrev rm_T_make : Room := { frames := 4, cells := 0, slots := 0, locals := 100 }
theorem mf_T_make : MF y_T_make b_T_make 11 none 5 := ⟨m_297, m_3, by decide, by decide, by decide +kernel⟩
theorem d_T_make_0 : decode b_T_make 0 = .ok (.aload_n 0, 1) := by decide +kernel
theorem d_T_make_1 : decode b_T_make 1 = .ok (.getfield 11, 3) := by decide +kernel
theorem d_T_make_4 : decode b_T_make 4 = .ok (.iload_n 1, 1) := by decide +kernel
theorem d_T_make_5 : decode b_T_make 5 = .ok (.iconst 1, 1) := by decide +kernel
theorem d_T_make_6 : decode b_T_make 6 = .ok (.bastore, 1) := by decide +kernel
theorem d_T_make_7 : decode b_T_make 7 = .ok (.aload_n 0, 1) := by decide +kernel
theorem d_T_make_8 : decode b_T_make 8 = .ok (.getfield 15, 3) := by decide +kernel
theorem d_T_make_11 : decode b_T_make 11 = .ok (.iload_n 1, 1) := by decide +kernel
theorem d_T_make_12 : decode b_T_make 12 = .ok (.lload_n 2, 1) := by decide +kernel
theorem d_T_make_13 : decode b_T_make 13 = .ok (.bipush 21, 2) := by decide +kernel
theorem d_T_make_15 : decode b_T_make 15 = .ok (.lshl, 1) := by decide +kernel
theorem d_T_make_16 : decode b_T_make 16 = .ok (.lastore, 1) := by decide +kernel
theorem d_T_make_17 : decode b_T_make 17 = .ok (.ldc2_w 34, 3) := by decide +kernel
theorem d_T_make_20 : decode b_T_make 20 = .ok (.aload_n 0, 1) := by decide +kernel
theorem d_T_make_21 : decode b_T_make 21 = .ok (.getfield 15, 3) := by decide +kernel
theorem d_T_make_24 : decode b_T_make 24 = .ok (.iload_n 1, 1) := by decide +kernel
theorem d_T_make_25 : decode b_T_make 25 = .ok (.laload, 1) := by decide +kernel
theorem d_T_make_26 : decode b_T_make 26 = .ok (.bipush 16, 2) := by decide +kernel
theorem d_T_make_28 : decode b_T_make 28 = .ok (.lushr, 1) := by decide +kernel
theorem d_T_make_29 : decode b_T_make 29 = .ok (.lor, 1) := by decide +kernel
theorem d_T_make_30 : decode b_T_make 30 = .ok (.lstore 9, 2) := by decide +kernel
theorem d_T_make_32 : decode b_T_make 32 = .ok (.aload 8, 2) := by decide +kernel
theorem d_T_make_34 : decode b_T_make 34 = .ok (.lload 4, 2) := by decide +kernel
theorem d_T_make_36 : decode b_T_make 36 = .ok (.lload 6, 2) := by decide +kernel
theorem d_T_make_38 : decode b_T_make 38 = .ok (.invokevirtual 36, 3) := by decide +kernel
theorem d_T_make_41 : decode b_T_make 41 = .ok (.aload_n 0, 1) := by decide +kernel
theorem d_T_make_42 : decode b_T_make 42 = .ok (.getfield 19, 3) := by decide +kernel
theorem d_T_make_45 : decode b_T_make 45 = .ok (.iload_n 1, 1) := by decide +kernel
theorem d_T_make_46 : decode b_T_make 46 = .ok (.aload 8, 2) := by decide +kernel
theorem d_T_make_48 : decode b_T_make 48 = .ok (.lload 9, 2) := by decide +kernel
theorem d_T_make_50 : decode b_T_make 50 = .ok (.invokevirtual 42, 3) := by decide +kernel
theorem d_T_make_53 : decode b_T_make 53 = .ok (.lastore, 1) := by decide +kernel
theorem d_T_make_54 : decode b_T_make 54 = .ok (.aload 8, 2) := by decide +kernel
theorem d_T_make_56 : decode b_T_make 56 = .ok (.lload 4, 2) := by decide +kernel
theorem d_T_make_58 : decode b_T_make 58 = .ok (.ldc2_w 46, 3) := by decide +kernel
theorem d_T_make_61 : decode b_T_make 61 = .ok (.lxor, 1) := by decide +kernel
theorem d_T_make_62 : decode b_T_make 62 = .ok (.lload 6, 2) := by decide +kernel
theorem d_T_make_64 : decode b_T_make 64 = .ok (.ldc2_w 46, 3) := by decide +kernel
theorem d_T_make_67 : decode b_T_make 67 = .ok (.lxor, 1) := by decide +kernel
theorem d_T_make_68 : decode b_T_make 68 = .ok (.invokevirtual 36, 3) := by decide +kernel
theorem d_T_make_71 : decode b_T_make 71 = .ok (.aload_n 0, 1) := by decide +kernel
theorem d_T_make_72 : decode b_T_make 72 = .ok (.getfield 22, 3) := by decide +kernel
theorem d_T_make_75 : decode b_T_make 75 = .ok (.iload_n 1, 1) := by decide +kernel
theorem d_T_make_76 : decode b_T_make 76 = .ok (.aload 8, 2) := by decide +kernel
theorem d_T_make_78 : decode b_T_make 78 = .ok (.lload 9, 2) := by decide +kernel
theorem d_T_make_80 : decode b_T_make 80 = .ok (.invokevirtual 42, 3) := by decide +kernel
theorem d_T_make_83 : decode b_T_make 83 = .ok (.lastore, 1) := by decide +kernel
theorem d_T_make_84 : decode b_T_make 84 = .ok (.return_, 1) := by decide +kernel
set_option maxRecDepth 100000 in
set_option maxHeartbeats 4000000 in
theorem c_T_make (l : Launch) (G : Gt) (zt ztm ztr ztl ztf ztd ztdq : Nat) (md : Nat → Int32) (re fl fr : Nat → Int64) (tk cu cv : Int64) (zc zcl zclq zcr zcrq : Nat) (kl kr : Int64) (t : Int32) (v a b : Int64) (ht : vp_in t 8) : CtV l G y_T_make b_T_make 11 none rm_T_make Sx [.ref zt, .int t, .long v, .long a, .long b, .ref zc] [ob zt 2 [.ref ztm, .ref ztr, .ref ztl, .ref ztf, .ref ztd, .long cu, .long cv], aZ G ztm 8 md, aJ G ztr 8 re, aJ G ztl 8 fl, aJ G ztf 8 fr, ob ztd 4 [.ref ztdq, .long tk], aJ G ztdq 16 (rkF tk), ob zc 3 [.ref zcl, .ref zcr], ob zcl 4 [.ref zclq, .long kl], aJ G zclq 16 (rkF kl), ob zcr 4 [.ref zcrq, .long kr], aJ G zcrq 16 (rkF kr)] (fun (_ : Unit) => True) (fun _ => [ob zt 2 [.ref ztm, .ref ztr, .ref ztl, .ref ztf, .ref ztd, .long cu, .long cv], aZ G ztm 8 (upd md t.toNatClampNeg 1), aJ G ztr 8 (vp_updL re t.toNatClampNeg (mkG v)), aJ G ztl 8 (vp_updL fl t.toNatClampNeg (sealB a b (mkF v))), aJ G ztf 8 (vp_updL fr t.toNatClampNeg (sealB (a ^^^ dkV) (b ^^^ dkV) (mkF v))), ob ztd 4 [.ref ztdq, .long tk], aJ G ztdq 16 (rkF tk), ob zc 3 [.ref zcl, .ref zcr], ob zcl 4 [.ref zclq, .long (a ^^^ dkV)], aJ G zclq 16 (rkF (a ^^^ dkV)), ob zcr 4 [.ref zcrq, .long (b ^^^ dkV)], aJ G zcrq 16 (rkF (b ^^^ dkV))]) 0 0 := by
  refine Ct.of (Qp := fun A => va_Qv _ (qB G A _) A) Sx_stb (by decide) (Nat.le_of_ble_eq_true rfl) ?_
  intro p e s m args below meth c A X hE hr hlk hini
  refine pv_eql (ll2 := [(0, .ref zt), (1, .int t), (2, .long v), (4, .long a), (6, .long b), (8, .ref zc)]) rfl ?_
  refine pv_aload_n X 0 d_T_make_0 rfl ?_
  refine pv_get X 0 0 u_T_in m_73 rfl rfl (by decide) ⟨rfl, rfl, rfl⟩ rfl d_T_make_1 ?_
  refine pv_iload_n X 1 d_T_make_4 rfl ?_
  refine pv_iconst X 1 d_T_make_5 (by decide) ?_
  refine pv_zast (ws2 := [ob zt 2 [.ref ztm, .ref ztr, .ref ztl, .ref ztf, .ref ztd, .long cu, .long cv], aZ G ztm 8 (upd md t.toNatClampNeg 1), aJ G ztr 8 re, aJ G ztl 8 fl, aJ G ztf 8 fr, ob ztd 4 [.ref ztdq, .long tk], aJ G ztdq 16 (rkF tk), ob zc 3 [.ref zcl, .ref zcr], ob zcl 4 [.ref zclq, .long kl], aJ G zclq 16 (rkF kl), ob zcr 4 [.ref zcrq, .long kr], aJ G zcrq 16 (rkF kr)]) X 1 rfl ht rfl d_T_make_6 ?_
  refine pv_aload_n X 0 d_T_make_7 rfl ?_
  refine pv_get X 0 1 u_T_in m_75 rfl rfl (by decide) ⟨rfl, rfl, rfl⟩ rfl d_T_make_8 ?_
  refine pv_iload_n X 1 d_T_make_11 rfl ?_
  refine pv_lload_n X 2 d_T_make_12 rfl ?_
  refine pv_bipush X 21 d_T_make_13 (by decide) ?_
  refine pv_lshl X d_T_make_15 ?_
  refine pv_last (ws2 := [ob zt 2 [.ref ztm, .ref ztr, .ref ztl, .ref ztf, .ref ztd, .long cu, .long cv], aZ G ztm 8 (upd md t.toNatClampNeg 1), aJ G ztr 8 (vp_updL re t.toNatClampNeg (v <<< ((21 : Int32).toInt64 &&& 63))), aJ G ztl 8 fl, aJ G ztf 8 fr, ob ztd 4 [.ref ztdq, .long tk], aJ G ztdq 16 (rkF tk), ob zc 3 [.ref zcl, .ref zcr], ob zcl 4 [.ref zclq, .long kl], aJ G zclq 16 (rkF kl), ob zcr 4 [.ref zcrq, .long kr], aJ G zcrq 16 (rkF kr)]) X 2 rfl ht rfl d_T_make_16 ?_
  refine pv_ldc2_w X m_298 d_T_make_17 ?_
  refine pv_aload_n X 0 d_T_make_20 rfl ?_
  refine pv_get X 0 1 u_T_in m_75 rfl rfl (by decide) ⟨rfl, rfl, rfl⟩ rfl d_T_make_21 ?_
  refine pv_iload_n X 1 d_T_make_24 rfl ?_
  refine pv_lald X 2 rfl ht d_T_make_25 ?_
  refine pv_topl (mkG v) pk_uLs ?_
  refine pv_bipush X 16 d_T_make_26 (by decide) ?_
  refine pv_lushr X d_T_make_28 ?_
  refine pv_lor X d_T_make_29 ?_
  refine pv_topl (mkF v) rfl ?_
  refine pv_lstore (ll2 := [(9, .long (mkF v)), (0, .ref zt), (1, .int t), (2, .long v), (4, .long a), (6, .long b), (8, .ref zc)]) X d_T_make_30 (by decide) rfl ?_
  refine pv_aload X 6 d_T_make_32 rfl ?_
  refine pv_lload X 4 d_T_make_34 rfl ?_
  refine pv_lload X 5 d_T_make_36 rfl ?_
  refine pv_callv X (Cut.mk (w0 := [ob zc 3 [.ref zcl, .ref zcr], ob zcl 4 [.ref zclq, .long kl], aJ G zclq 16 (rkF kl), ob zcr 4 [.ref zcrq, .long kr], aJ G zcrq 16 (rkF kr)]) (wr := [ob zt 2 [.ref ztm, .ref ztr, .ref ztl, .ref ztf, .ref ztd, .long cu, .long cv], aZ G ztm 8 (upd md t.toNatClampNeg 1), aJ G ztr 8 (vp_updL re t.toNatClampNeg (v <<< ((21 : Int32).toInt64 &&& 63))), aJ G ztl 8 fl, aJ G ztf 8 fr, ob ztd 4 [.ref ztdq, .long tk], aJ G ztdq 16 (rkF tk)]) [7, 8, 9, 10, 11] [0, 1, 2, 3, 4, 5, 6] rfl rfl rfl rfl rfl) (rn_V X (c_C_take l G zc zcl zclq zcr zcrq kl kr a b) hE mf_C_take m_299 m_168 m_169 rfl 0 rfl rfl rfl (by decide) (by decide) rfl (Nat.le_of_ble_eq_true rfl) d_T_make_38) (fun x1 e1 => ?_)
  refine pv_eqw (ws2 := [ob zt 2 [.ref ztm, .ref ztr, .ref ztl, .ref ztf, .ref ztd, .long cu, .long cv], aZ G ztm 8 (upd md t.toNatClampNeg 1), aJ G ztr 8 (vp_updL re t.toNatClampNeg (v <<< ((21 : Int32).toInt64 &&& 63))), aJ G ztl 8 fl, aJ G ztf 8 fr, ob ztd 4 [.ref ztdq, .long tk], aJ G ztdq 16 (rkF tk), ob zc 3 [.ref zcl, .ref zcr], ob zcl 4 [.ref zclq, .long a], aJ G zclq 16 (rkF a), ob zcr 4 [.ref zcrq, .long b], aJ G zcrq 16 (rkF b)]) rfl ?_
  refine pv_aload_n X 1 d_T_make_41 rfl ?_
  refine pv_get X 0 2 u_T_in m_76 rfl rfl (by decide) ⟨rfl, rfl, rfl⟩ rfl d_T_make_42 ?_
  refine pv_iload_n X 2 d_T_make_45 rfl ?_
  refine pv_aload X 6 d_T_make_46 rfl ?_
  refine pv_lload X 0 d_T_make_48 rfl ?_
  refine pv_calllE X (Cut.mk (w0 := [ob zc 3 [.ref zcl, .ref zcr], ob zcl 4 [.ref zclq, .long a], aJ G zclq 16 (rkF a), ob zcr 4 [.ref zcrq, .long b], aJ G zcrq 16 (rkF b)]) (wr := [ob zt 2 [.ref ztm, .ref ztr, .ref ztl, .ref ztf, .ref ztd, .long cu, .long cv], aZ G ztm 8 (upd md t.toNatClampNeg 1), aJ G ztr 8 (vp_updL re t.toNatClampNeg (v <<< ((21 : Int32).toInt64 &&& 63))), aJ G ztl 8 fl, aJ G ztf 8 fr, ob ztd 4 [.ref ztdq, .long tk], aJ G ztdq 16 (rkF tk)]) [7, 8, 9, 10, 11] [0, 1, 2, 3, 4, 5, 6] rfl rfl rfl rfl rfl) (rn_V X (c_C_sealBlock l G zc zcl zclq zcr zcrq a b (mkF v)) hE mf_C_sealBlock m_300 m_193 m_194 rfl 0 rfl rfl rfl (by decide) (by decide) rfl (Nat.le_of_ble_eq_true rfl) d_T_make_50) (fun x2 => ?_)
  refine pv_eqw (ws2 := [ob zt 2 [.ref ztm, .ref ztr, .ref ztl, .ref ztf, .ref ztd, .long cu, .long cv], aZ G ztm 8 (upd md t.toNatClampNeg 1), aJ G ztr 8 (vp_updL re t.toNatClampNeg (v <<< ((21 : Int32).toInt64 &&& 63))), aJ G ztl 8 fl, aJ G ztf 8 fr, ob ztd 4 [.ref ztdq, .long tk], aJ G ztdq 16 (rkF tk), ob zc 3 [.ref zcl, .ref zcr], ob zcl 4 [.ref zclq, .long a], aJ G zclq 16 (rkF a), ob zcr 4 [.ref zcrq, .long b], aJ G zcrq 16 (rkF b)]) rfl ?_
  refine pv_last (ws2 := [ob zt 2 [.ref ztm, .ref ztr, .ref ztl, .ref ztf, .ref ztd, .long cu, .long cv], aZ G ztm 8 (upd md t.toNatClampNeg 1), aJ G ztr 8 (vp_updL re t.toNatClampNeg (v <<< ((21 : Int32).toInt64 &&& 63))), aJ G ztl 8 (vp_updL fl t.toNatClampNeg (sealB a b (mkF v))), aJ G ztf 8 fr, ob ztd 4 [.ref ztdq, .long tk], aJ G ztdq 16 (rkF tk), ob zc 3 [.ref zcl, .ref zcr], ob zcl 4 [.ref zclq, .long a], aJ G zclq 16 (rkF a), ob zcr 4 [.ref zcrq, .long b], aJ G zcrq 16 (rkF b)]) X 3 rfl ht rfl d_T_make_53 ?_
  refine pv_aload X 6 d_T_make_54 rfl ?_
  refine pv_lload X 4 d_T_make_56 rfl ?_
  refine pv_ldc2_w X m_301 d_T_make_58 ?_
  refine pv_lxor X d_T_make_61 ?_
  refine pv_lload X 5 d_T_make_62 rfl ?_
  refine pv_ldc2_w X m_301 d_T_make_64 ?_
  refine pv_lxor X d_T_make_67 ?_
  refine pv_callv X (Cut.mk (w0 := [ob zc 3 [.ref zcl, .ref zcr], ob zcl 4 [.ref zclq, .long a], aJ G zclq 16 (rkF a), ob zcr 4 [.ref zcrq, .long b], aJ G zcrq 16 (rkF b)]) (wr := [ob zt 2 [.ref ztm, .ref ztr, .ref ztl, .ref ztf, .ref ztd, .long cu, .long cv], aZ G ztm 8 (upd md t.toNatClampNeg 1), aJ G ztr 8 (vp_updL re t.toNatClampNeg (v <<< ((21 : Int32).toInt64 &&& 63))), aJ G ztl 8 (vp_updL fl t.toNatClampNeg (sealB a b (mkF v))), aJ G ztf 8 fr, ob ztd 4 [.ref ztdq, .long tk], aJ G ztdq 16 (rkF tk)]) [7, 8, 9, 10, 11] [0, 1, 2, 3, 4, 5, 6] rfl rfl rfl rfl rfl) (rn_V X (c_C_take l G zc zcl zclq zcr zcrq a b (a ^^^ (-4557430892032688128 : Int64)) (b ^^^ (-4557430892032688128 : Int64))) hE mf_C_take m_299 m_168 m_169 rfl 0 rfl rfl rfl (by decide) (by decide) rfl (Nat.le_of_ble_eq_true rfl) d_T_make_68) (fun x3 e3 => ?_)
  refine pv_eqw (ws2 := [ob zt 2 [.ref ztm, .ref ztr, .ref ztl, .ref ztf, .ref ztd, .long cu, .long cv], aZ G ztm 8 (upd md t.toNatClampNeg 1), aJ G ztr 8 (vp_updL re t.toNatClampNeg (v <<< ((21 : Int32).toInt64 &&& 63))), aJ G ztl 8 (vp_updL fl t.toNatClampNeg (sealB a b (mkF v))), aJ G ztf 8 fr, ob ztd 4 [.ref ztdq, .long tk], aJ G ztdq 16 (rkF tk), ob zc 3 [.ref zcl, .ref zcr], ob zcl 4 [.ref zclq, .long (a ^^^ (-4557430892032688128 : Int64))], aJ G zclq 16 (rkF (a ^^^ (-4557430892032688128 : Int64))), ob zcr 4 [.ref zcrq, .long (b ^^^ (-4557430892032688128 : Int64))], aJ G zcrq 16 (rkF (b ^^^ (-4557430892032688128 : Int64)))]) rfl ?_
  refine pv_aload_n X 1 d_T_make_71 rfl ?_
  refine pv_get X 0 3 u_T_in m_77 rfl rfl (by decide) ⟨rfl, rfl, rfl⟩ rfl d_T_make_72 ?_
  refine pv_iload_n X 2 d_T_make_75 rfl ?_
  refine pv_aload X 6 d_T_make_76 rfl ?_
  refine pv_lload X 0 d_T_make_78 rfl ?_
  refine pv_calllE X (Cut.mk (w0 := [ob zc 3 [.ref zcl, .ref zcr], ob zcl 4 [.ref zclq, .long (a ^^^ (-4557430892032688128 : Int64))], aJ G zclq 16 (rkF (a ^^^ (-4557430892032688128 : Int64))), ob zcr 4 [.ref zcrq, .long (b ^^^ (-4557430892032688128 : Int64))], aJ G zcrq 16 (rkF (b ^^^ (-4557430892032688128 : Int64)))]) (wr := [ob zt 2 [.ref ztm, .ref ztr, .ref ztl, .ref ztf, .ref ztd, .long cu, .long cv], aZ G ztm 8 (upd md t.toNatClampNeg 1), aJ G ztr 8 (vp_updL re t.toNatClampNeg (v <<< ((21 : Int32).toInt64 &&& 63))), aJ G ztl 8 (vp_updL fl t.toNatClampNeg (sealB a b (mkF v))), aJ G ztf 8 fr, ob ztd 4 [.ref ztdq, .long tk], aJ G ztdq 16 (rkF tk)]) [7, 8, 9, 10, 11] [0, 1, 2, 3, 4, 5, 6] rfl rfl rfl rfl rfl) (rn_V X (c_C_sealBlock l G zc zcl zclq zcr zcrq (a ^^^ (-4557430892032688128 : Int64)) (b ^^^ (-4557430892032688128 : Int64)) (mkF v)) hE mf_C_sealBlock m_300 m_193 m_194 rfl 0 rfl rfl rfl (by decide) (by decide) rfl (Nat.le_of_ble_eq_true rfl) d_T_make_80) (fun x4 => ?_)
  refine pv_eqw (ws2 := [ob zt 2 [.ref ztm, .ref ztr, .ref ztl, .ref ztf, .ref ztd, .long cu, .long cv], aZ G ztm 8 (upd md t.toNatClampNeg 1), aJ G ztr 8 (vp_updL re t.toNatClampNeg (v <<< ((21 : Int32).toInt64 &&& 63))), aJ G ztl 8 (vp_updL fl t.toNatClampNeg (sealB a b (mkF v))), aJ G ztf 8 fr, ob ztd 4 [.ref ztdq, .long tk], aJ G ztdq 16 (rkF tk), ob zc 3 [.ref zcl, .ref zcr], ob zcl 4 [.ref zclq, .long (a ^^^ (-4557430892032688128 : Int64))], aJ G zclq 16 (rkF (a ^^^ (-4557430892032688128 : Int64))), ob zcr 4 [.ref zcrq, .long (b ^^^ (-4557430892032688128 : Int64))], aJ G zcrq 16 (rkF (b ^^^ (-4557430892032688128 : Int64)))]) rfl ?_
  refine pv_last (ws2 := [ob zt 2 [.ref ztm, .ref ztr, .ref ztl, .ref ztf, .ref ztd, .long cu, .long cv], aZ G ztm 8 (upd md t.toNatClampNeg 1), aJ G ztr 8 (vp_updL re t.toNatClampNeg (v <<< ((21 : Int32).toInt64 &&& 63))), aJ G ztl 8 (vp_updL fl t.toNatClampNeg (sealB a b (mkF v))), aJ G ztf 8 (vp_updL fr t.toNatClampNeg (sealB (a ^^^ (-4557430892032688128 : Int64)) (b ^^^ (-4557430892032688128 : Int64)) (mkF v))), ob ztd 4 [.ref ztdq, .long tk], aJ G ztdq 16 (rkF tk), ob zc 3 [.ref zcl, .ref zcr], ob zcl 4 [.ref zclq, .long (a ^^^ (-4557430892032688128 : Int64))], aJ G zclq 16 (rkF (a ^^^ (-4557430892032688128 : Int64))), ob zcr 4 [.ref zcrq, .long (b ^^^ (-4557430892032688128 : Int64))], aJ G zcrq 16 (rkF (b ^^^ (-4557430892032688128 : Int64)))]) X 4 rfl ht rfl d_T_make_83 ?_
  exact pv_vret X hr hlk () trivial rfl d_T_make_84
