def SlotR (f u x : Int32) (l r : Int64) (yu ye : Int32) (ya yb : Int64) : Prop := (f = 0 ∧ yu = -1) ∨ (f = 1 ∧ yu = u ∧ ye = x ∧ ya = l ∧ yb = r)
def TermR (re fl fr yc yd yi : Int64) (yo : Int32) : Prop := re = mkG yi ||| yo.toInt64 ∧ fl = sealB yc yd (mkF yi) ∧ fr = sealB (yc ^^^ dkV) (yd ^^^ dkV) (mkF yi)
def R2 (hm : Int32) (fi us ex : Nat → Int32) (lf rg : Nat → Int64) (md : Nat → Int32) (re fl fr : Nat → Int64) (yu ye : Nat → Int32) (ya yb yc yd yi : Nat → Int64) (yo : Nat → Int32) : Prop :=
  Bo hm ∧ (∀ j, Bo (fi j)) ∧ (∀ j, vp_in (us j) 4) ∧ (∀ j, j < 16 → SlotR (fi j) (us j) (ex j) (lf j) (rg j) (yu j) (ye j) (ya j) (yb j)) ∧ (∀ j, Bo (md j)) ∧ (∀ j, ∃ c, c < 2097152 ∧ yo j = nI c) ∧ (∀ j, md j = 1 → TermR (re j) (fl j) (fr j) (yc j) (yd j) (yi j) (yo j))
theorem if2 {α β : Type} {c : Prop} [Decidable c] {a A b B : α} {x X y Y : β} (h1 : c → a = b ∧ x = y) (h2 : ¬ c → A = B ∧ X = Y) : (if c then a else A) = (if c then b else B) ∧ (if c then x else X) = (if c then y else Y) := by
  by_cases h : c
  · rw [if_pos h, if_pos h, if_pos h, if_pos h]; exact h1 h
  · rw [if_neg h, if_neg h, if_neg h, if_neg h]; exact h2 h
theorem if1 {α : Type} {c : Prop} [Decidable c] {a A b B : α} (h1 : c → a = b) (h2 : ¬ c → A = B) : (if c then a else A) = (if c then b else B) := by
  by_cases h : c
  · rw [if_pos h, if_pos h]; exact h1 h
  · rw [if_neg h, if_neg h]; exact h2 h
theorem us_nI {u : Int32} (h : vp_in u 4) : ∃ m, m < 4 ∧ u = nI m := by
  have h1 : ¬ u < 0 := fun hh => h (Or.inl hh)
  obtain ⟨m, hm, e⟩ := nI_of h1
  refine ⟨m, ?_, e⟩
  subst e
  apply Nat.lt_of_not_le
  intro hh
  exact h (Or.inr (by rw [nI_clamp hm]; exact hh))
theorem uh_in (h : Int64) : ¬ f_K_usageOfHeader h < 0 → vp_in (f_K_usageOfHeader h) 4 := by
  unfold f_K_usageOfHeader
  intro hx
  by_cases h0 : lg_cmp h (K_hd 0) = 0
  · rw [if_pos h0]; exact vp_in_nI (n := 0) (by omega) (by omega)
  · rw [if_neg h0] at hx ⊢
    by_cases h1 : lg_cmp h (K_hd 1) = 0
    · rw [if_pos h1]; exact vp_in_nI (n := 1) (by omega) (by omega)
    · rw [if_neg h1] at hx ⊢
      by_cases h2 : lg_cmp h (K_hd 2) = 0
      · rw [if_pos h2]; exact vp_in_nI (n := 2) (by omega) (by omega)
      · rw [if_neg h2] at hx ⊢
        by_cases h3 : lg_cmp h (K_hd 3) = 0
        · rw [if_pos h3]; exact vp_in_nI (n := 3) (by omega) (by omega)
        · rw [if_neg h3] at hx; exact absurd (by decide) hx
theorem nn_of1 {n : Int32} (h : ¬ n < 1) : ¬ n < 0 := by
  rw [Int32.lt_iff_toInt_lt] at h ⊢
  have e0 : (0 : Int32).toInt = 0 := by decide
  have e1 : (1 : Int32).toInt = 1 := by decide
  omega
theorem shr_n16 (y : Int64) : (lg_cmp ((y.toUInt64 >>> ((4 * nI 4).toInt64.toUInt64 &&& Int64.toUInt64 63)).toInt64) 0 = 0) = ¬ f_M_in y 0 65535 = 0 := by
  apply propext
  rw [lg_cmp_0, in_eq]
  have hN : ((y.toUInt64 >>> ((4 * nI 4).toInt64.toUInt64 &&& Int64.toUInt64 63)).toInt64).toBitVec.toNat = y.toBitVec.toNat / 65536 := by
    show ((y.toUInt64 >>> ((4 * nI 4).toInt64.toUInt64 &&& Int64.toUInt64 63)).toBitVec).toNat = _
    rw [UInt64.toBitVec_shiftRight]
    have h : (((4 * nI 4).toInt64.toUInt64 &&& Int64.toUInt64 63).toBitVec % 64).toNat = 16 := by decide +kernel
    rw [BitVec.ushiftRight_eq', h, BitVec.toNat_ushiftRight, Nat.shiftRight_eq_div_pow]
    rfl
  have hZ : ((y.toUInt64 >>> ((4 * nI 4).toInt64.toUInt64 &&& Int64.toUInt64 63)).toInt64 = 0) ↔ y.toBitVec.toNat / 65536 = 0 := by
    rw [← hN]
    constructor
    · intro h; rw [h]; rfl
    · intro h; exact Int64.toBitVec_inj.mp (BitVec.eq_of_toNat_eq h)
  rw [hZ]
  have hT : y.toInt = if 2 * y.toBitVec.toNat < 2 ^ 64 then (y.toBitVec.toNat : Int) else (y.toBitVec.toNat : Int) - (2 ^ 64 : Nat) := BitVec.toInt_eq_toNat_cond y.toBitVec
  have hL := y.toBitVec.isLt
  have e0 : (0 : Int64).toInt = 0 := by decide
  have e1 : (65535 : Int64).toInt = 65535 := by decide
  simp only [Int64.lt_iff_toInt_lt, e0, e1]
  by_cases h1 : y.toInt < 0
  · rw [if_pos h1]
    constructor
    · intro h; split at hT <;> omega
    · intro h; exact absurd rfl h
  · rw [if_neg h1]
    by_cases h2 : 65535 < y.toInt
    · rw [if_pos h2]
      constructor
      · intro h; split at hT <;> omega
      · intro h; exact absurd rfl h
    · rw [if_neg h2]
      constructor
      · intro _; decide
      · intro _; split at hT <;> omega
section RX
variable {hm : Int32} {fi us ex : Nat → Int32} {lf rg : Nat → Int64} {md : Nat → Int32} {re fl fr : Nat → Int64} {yu ye : Nat → Int32} {ya yb yc yd yi : Nat → Int64} {yo : Nat → Int32}
theorem sl_iff (hR : R2 hm fi us ex lf rg md re fl fr yu ye ya yb yc yd yi yo) {j : Nat} (hj : j < 16) : (yu j < 0 ↔ fi j = 0) ∧ ((0 : Int32) ≤ yu j ↔ ¬ fi j = 0) ∧ (¬ fi j = 0 → yu j = us j ∧ ye j = ex j ∧ ya j = lf j ∧ yb j = rg j) := by
  rcases hR.2.2.2.1 j hj with ⟨h1, h2⟩ | ⟨h1, h2, h3, h4, h5⟩
  · rw [h1, h2]; exact ⟨by decide, by decide, fun h => absurd rfl h⟩
  · obtain ⟨m, hm, e⟩ := us_nI (hR.2.2.1 j)
    rw [h1, h2]
    refine ⟨⟨fun h => ?_, fun h => absurd h (by decide)⟩, ⟨fun _ => by decide, fun _ => ?_⟩, fun _ => ⟨rfl, h3, h4, h5⟩⟩
    · rw [e] at h; exact absurd h (nI_pos (by omega))
    · rw [e]; exact nI_pos' (by omega)
theorem R2_set (hR : R2 hm fi us ex lf rg md re fl fr yu ye ya yb yc yd yi yo) {j : Nat} (hj : j < 16) {f u x yu2 ye2 : Int32} {l r ya2 yb2 : Int64} (hf : Bo f) (hu : vp_in u 4) (hs : SlotR f u x l r yu2 ye2 ya2 yb2) : R2 hm (upd fi j f) (upd us j u) (upd ex j x) (vp_updL lf j l) (vp_updL rg j r) md re fl fr (upd yu j yu2) (upd ye j ye2) (vp_updL ya j ya2) (vp_updL yb j yb2) yc yd yi yo := by
  obtain ⟨h1, h2, h3, h4, h5, h6, h7⟩ := hR
  refine ⟨h1, ?_, ?_, ?_, h5, h6, h7⟩
  · intro i; unfold upd; by_cases h : i = j <;> simp only [h, if_true, if_false] <;> first | exact hf | exact h2 i
  · intro i; unfold upd; by_cases h : i = j <;> simp only [h, if_true, if_false] <;> first | exact hu | exact h3 i
  · intro i hi; unfold upd vp_updL; by_cases h : i = j <;> simp only [h, if_true, if_false] <;> first | exact hs | exact h4 i hi
theorem R2_clr (hR : R2 hm fi us ex lf rg md re fl fr yu ye ya yb yc yd yi yo) {j : Nat} (hj : j < 16) : R2 hm (upd fi j 0) (upd us j 0) (upd ex j 0) (vp_updL lf j 0) (vp_updL rg j 0) md re fl fr (upd yu j (-1)) ye ya yb yc yd yi yo := by
  obtain ⟨h1, h2, h3, h4, h5, h6, h7⟩ := hR
  refine ⟨h1, ?_, ?_, ?_, h5, h6, h7⟩
  · intro i; unfold upd; by_cases h : i = j <;> simp only [h, if_true, if_false] <;> first | exact Or.inl rfl | exact h2 i
  · intro i; unfold upd; by_cases h : i = j <;> simp only [h, if_true, if_false] <;> first | exact (show ¬ ((0 : Int32) < 0 ∨ 4 ≤ (0 : Int32).toNatClampNeg) by decide) | exact h3 i
  · intro i hi; unfold upd vp_updL; by_cases h : i = j <;> simp only [h, if_true, if_false] <;> first | exact Or.inl ⟨rfl, rfl⟩ | exact h4 i hi
theorem R2_m (hR : R2 hm fi us ex lf rg md re fl fr yu ye ya yb yc yd yi yo) {hm2 : Int32} (h : Bo hm2) : R2 hm2 fi us ex lf rg md re fl fr yu ye ya yb yc yd yi yo := ⟨h, hR.2⟩
theorem R2_trm (hR : R2 hm fi us ex lf rg md re fl fr yu ye ya yb yc yd yi yo) (t : Nat) (a b v : Int64) : R2 hm fi us ex lf rg (upd md t 1) (vp_updL re t (mkG v)) (vp_updL fl t (sealB a b (mkF v))) (vp_updL fr t (sealB (a ^^^ dkV) (b ^^^ dkV) (mkF v))) yu ye ya yb (vp_updL yc t a) (vp_updL yd t b) (vp_updL yi t v) (upd yo t 0) := by
  obtain ⟨h1, h2, h3, h4, h5, h6, h7⟩ := hR
  refine ⟨h1, h2, h3, h4, ?_, ?_, ?_⟩
  · intro i; unfold upd; by_cases h : i = t <;> simp only [h, if_true, if_false] <;> first | exact Or.inr rfl | exact h5 i
  · intro i; unfold upd; by_cases h : i = t <;> simp only [h, if_true, if_false] <;> first | exact ⟨0, by decide, by decide⟩ | exact h6 i
  · intro i; unfold upd vp_updL; by_cases h : i = t <;> simp only [h, if_true, if_false]
    · intro _
      refine ⟨?_, rfl, rfl⟩
      rw [show (0 : Int32).toInt64 = (0 : Int64) from by decide, Int64.or_zero]
    · exact h7 i
theorem R2_cnt (hR : R2 hm fi us ex lf rg md re fl fr yu ye ya yb yc yd yi yo) (t : Nat) {c : Nat} (hc : c < 2097152) (hmd : md t = 1) : R2 hm fi us ex lf rg md (vp_updL re t (wctr (re t) ||| (nI c).toInt64)) fl fr yu ye ya yb yc yd yi (upd yo t (nI c)) := by
  obtain ⟨h1, h2, h3, h4, h5, h6, h7⟩ := hR
  refine ⟨h1, h2, h3, h4, h5, ?_, ?_⟩
  · intro i; unfold upd; by_cases h : i = t <;> simp only [h, if_true, if_false] <;> first | exact ⟨c, hc, rfl⟩ | exact h6 i
  · intro i; unfold upd vp_updL; by_cases h : i = t
    · subst h
      simp only [if_true]
      intro _
      obtain ⟨e1, e2, e3⟩ := h7 i hmd
      obtain ⟨c0, hc0, ec0⟩ := h6 i
      refine ⟨?_, e2, e3⟩
      rw [e1, ec0, wctr_of _ hc0]
    · simp only [h, if_false]; exact h7 i
theorem md_1 (hR : R2 hm fi us ex lf rg md re fl fr yu ye ya yb yc yd yi yo) {t : Nat} (h : ¬ md t = 0) : md t = 1 := by
  rcases hR.2.2.2.2.1 t with e | e
  · exact absurd e h
  · exact e
theorem cur_eq (hR : R2 hm fi us ex lf rg md re fl fr yu ye ya yb yc yd yi yo) (t : Int32) (h : ¬ md t.toNatClampNeg = 0) (tk : Int64) (yn : Nat → Int64) : g_M_current_zm_22 yc yd yi yo yn t = (dk (re t.toNatClampNeg) (fl t.toNatClampNeg) (fr t.toNatClampNeg) tk 21).2.1 ∧ g_M_current_zm_23 yc yd yi yo yn t = (dk (re t.toNatClampNeg) (fl t.toNatClampNeg) (fr t.toNatClampNeg) tk 21).2.2.1 := by
  have h1 := md_1 hR h
  obtain ⟨e1, e2, e3⟩ := hR.2.2.2.2.2.2 _ h1
  obtain ⟨c, hc, ec⟩ := hR.2.2.2.2.2.1 t.toNatClampNeg
  unfold g_M_current_zm_22 g_M_current_zm_23
  rw [e1, e2, e3, ec, eq_sealB, eq_sealB]
  generalize (g_M_sealBlock_zmn (g_M_sealBlock_zmn yn (yc t.toNatClampNeg) (yd t.toNatClampNeg)) ((yc t.toNatClampNeg) ^^^ (-4557430892032688128 : Int64)) ((yd t.toNatClampNeg) ^^^ (-4557430892032688128 : Int64))) = nn
  exact ⟨(eq_dk _ _ _ _ nn hc 21 (by omega)).2.1.symm, (eq_dk _ _ _ _ nn hc 21 (by omega)).2.2.symm⟩
theorem k15 (k : Int32) : (15 < k) = (16 ≤ k) := i32_nx (show (16 : Int32).toInt = (15 : Int32).toInt + 1 by decide)
theorem lo_16 {k : Int32} (hk : ¬ f_P_isKeyNumber k = 0) (h : ¬ 16 ≤ k) : k.toNatClampNeg < 16 := by
  obtain ⟨j, hj, e⟩ := num_24 hk
  subst e
  rw [nI_clamp (by omega)]
  exact Nat.lt_of_not_le (fun hh => h (nI_le (a := 16) hh (by omega)))
theorem there_eq (hR : R2 hm fi us ex lf rg md re fl fr yu ye ya yb yc yd yi yo) {k : Int32} (hk : ¬ f_P_isKeyNumber k = 0) : f_M_isThere yu md k = f_P_hasKey fi md k := by
  unfold f_M_isThere f_P_hasKey
  refine if1 (fun _ => rfl) (fun h => ?_)
  have hs := sl_iff hR (lo_16 hk h)
  rcases hR.2.1 k.toNatClampNeg with e | e
  · rw [if_pos (hs.1.mpr e), e]
  · rw [if_neg (fun hh => absurd (hs.1.mp hh) (by rw [e]; decide)), e]
theorem pink_eq (hR : R2 hm fi us ex lf rg md re fl fr yu ye ya yb yc yd yi yo) {k : Int32} (hk : ¬ f_P_isKeyNumber k = 0) (hh : ¬ f_P_hasKey fi md k = 0) : f_M_isPinKey yu k = f_P_isPinKey us k := by
  unfold f_M_isPinKey f_P_isPinKey
  simp only [k15]
  refine if1 (fun _ => rfl) (fun h => ?_)
  unfold f_P_hasKey at hh
  rw [if_neg h] at hh
  rw [((sl_iff hR (lo_16 hk h)).2.2 hh).1]
theorem pkey_eq (hR : R2 hm fi us ex lf rg md re fl fr yu ye ya yb yc yd yi yo) {k : Int32} (hk : ¬ f_P_isKeyNumber k = 0) (hh : ¬ f_P_hasKey fi md k = 0) (tk : Int64) (yn : Nat → Int64) : g_M_pinKey_zm_22 ya yc yd yi yo yn k = g_P_takeKey_zcl_1 lf re fl fr tk k 255 ∧ g_M_pinKey_zm_23 yb yc yd yi yo yn k = g_P_takeKey_zcr_1 rg re fl fr tk k 255 := by
  unfold g_M_pinKey_zm_22 g_M_pinKey_zm_23 g_P_takeKey_zcl_1 g_P_takeKey_zcr_1
  unfold f_P_hasKey at hh
  refine if2 (fun h => ?_) (fun h => ?_)
  · rw [if_pos h] at hh
    obtain ⟨e1, e2⟩ := cur_eq hR (k - 16) hh tk yn
    rw [e1, e2]; exact ⟨rfl, rfl⟩
  · rw [if_neg h] at hh
    obtain ⟨_, _, e3, e4⟩ := (sl_iff hR (lo_16 hk h)).2.2 hh
    exact ⟨e3, e4⟩
theorem may3 (f : Int32) (z : Int64) (n : Int32) : (f_B_mayFill f z n = 0) = (f = 3 ∧ f_B_areAtLeast 10 z n = 0) := by
  unfold f_B_mayFill
  by_cases h : f = 3
  · by_cases h2 : f_B_areAtLeast 10 z n = 0 <;> simp [h, h2]
  · simp [h]
theorem eq_codeB (ml mr : Int64) (F : Nat → Int64) : f_P_codeOfKeyBlock ml mr F = f_M_codeOfBlock ml mr F := by
  unfold f_P_codeOfKeyBlock f_M_codeOfBlock
  rw [eq_sealB, eq_sealB, eq_sealB, eq_sealB, Int64.xor_comm (F 3) _, Int64.xor_comm (F 2) _, Int64.xor_comm (F 1) _, Int64.xor_comm (F 0) _]
end RX
theorem sim_component {hm : Int32} {fi us ex : Nat → Int32} {lf rg : Nat → Int64} {md : Nat → Int32} {re fl fr : Nat → Int64} {yu ye : Nat → Int32} {ya yb yc yd yi : Nat → Int64} {yo : Nat → Int32} {ml mr tk cu cv kl kr : Int64} {hv : Nat → Int64} {ht : Nat → Int32} {bf mg lo : Nat → Int64} {th : Int32} {yn : Nat → Int64} {yp yq : Int64} {yw : Int32} {yx : Int64} (k h : Int32) (v : Int64) (hR : R2 hm fi us ex lf rg md re fl fr yu ye ya yb yc yd yi yo)  : (g_M_component_zm_4 hm k h = lc_r hm k h) ∧ (g_M_component_zmh hm hv k h v = lc_v hv hm k h v) ∧ (g_M_component_zmt hm ht k h = lc_t ht hm k h) := by
  unfold g_M_component_zm_4 g_M_component_zmh g_M_component_zmt lc_v lc_t lc_r
  rw [eq_2, eq_1]
  by_cases h1 : k < 0
  · simp [h1, g_M_throwing_zm_4]
  · by_cases h2 : (3 : Int32) ≤ k
    · simp [h1, h2, g_M_throwing_zm_4]
    · by_cases h3 : h < 0
      · simp [h1, h2, h3, g_M_throwing_zm_4]
      · by_cases h4 : h ≤ 1
        · by_cases h5 : hm = 0 <;> simp [h1, h2, h3, h4, h5, g_M_throwing_zm_4]
        · simp [h1, h2, h3, h4, g_M_throwing_zm_4]
theorem sim_poke {hm : Int32} {fi us ex : Nat → Int32} {lf rg : Nat → Int64} {md : Nat → Int32} {re fl fr : Nat → Int64} {yu ye : Nat → Int32} {ya yb yc yd yi : Nat → Int64} {yo : Nat → Int32} {ml mr tk cu cv kl kr : Int64} {hv : Nat → Int64} {ht : Nat → Int32} {bf mg lo : Nat → Int64} {th : Int32} {yn : Nat → Int64} {yp yq : Int64} {yw : Int32} {yx : Int64} (k : Int32) (v : Int64) (hR : R2 hm fi us ex lf rg md re fl fr yu ye ya yb yc yd yi yo)  : (g_M_poke_zm_4 k = lk_poke k) ∧ (g_M_poke_zmf bf k v = lk_poke_f bf k v) := by
  unfold g_M_poke_zm_4 g_M_poke_zmf lk_poke_f lk_poke
  rw [eq_4]
  by_cases h1 : k < 0
  · simp [h1, g_M_throwing_zm_4]
  · by_cases h2 : k < 5 <;> simp [h1, h2, g_M_throwing_zm_4]
theorem sim_message {hm : Int32} {fi us ex : Nat → Int32} {lf rg : Nat → Int64} {md : Nat → Int32} {re fl fr : Nat → Int64} {yu ye : Nat → Int32} {ya yb yc yd yi : Nat → Int64} {yo : Nat → Int32} {ml mr tk cu cv kl kr : Int64} {hv : Nat → Int64} {ht : Nat → Int32} {bf mg lo : Nat → Int64} {th : Int32} {yn : Nat → Int64} {yp yq : Int64} {yw : Int32} {yx : Int64} (k : Int32) (v : Int64) (hR : R2 hm fi us ex lf rg md re fl fr yu ye ya yb yc yd yi yo)  : (g_M_message_zm_4 k = lk_message k) ∧ (g_M_message_zmg mg k v = lk_message_f mg k v) := by
  unfold g_M_message_zm_4 g_M_message_zmg lk_message_f lk_message
  rw [eq_7]
  by_cases h1 : k < 0
  · simp [h1, g_M_throwing_zm_4]
  · by_cases h2 : k < 8 <;> simp [h1, h2, g_M_throwing_zm_4]
theorem sim_peek {hm : Int32} {fi us ex : Nat → Int32} {lf rg : Nat → Int64} {md : Nat → Int32} {re fl fr : Nat → Int64} {yu ye : Nat → Int32} {ya yb yc yd yi : Nat → Int64} {yo : Nat → Int32} {ml mr tk cu cv kl kr : Int64} {hv : Nat → Int64} {ht : Nat → Int32} {bf mg lo : Nat → Int64} {th : Int32} {yn : Nat → Int64} {yp yq : Int64} {yw : Int32} {yx : Int64} (k : Int32) (hR : R2 hm fi us ex lf rg md re fl fr yu ye ya yb yc yd yi yo)  : (g_M_peek_zm_4 k = lk_peek k) ∧ (lk_peek k = 0 → lk_peek_o bf lo k 0 = f_M_peek bf k) := by
  unfold g_M_peek_zm_4 lk_peek_o f_M_peek lk_peek
  rw [eq_4]
  by_cases h1 : k < 0
  · simp [h1, g_M_throwing_zm_4]
  · by_cases h2 : k < 5 <;> simp [h1, h2, g_M_throwing_zm_4, vp_updL]
theorem sim_seal {hm : Int32} {fi us ex : Nat → Int32} {lf rg : Nat → Int64} {md : Nat → Int32} {re fl fr : Nat → Int64} {yu ye : Nat → Int32} {ya yb yc yd yi : Nat → Int64} {yo : Nat → Int32} {ml mr tk cu cv kl kr : Int64} {hv : Nat → Int64} {ht : Nat → Int32} {bf mg lo : Nat → Int64} {th : Int32} {yn : Nat → Int64} {yp yq : Int64} {yw : Int32} {yx : Int64}  (hR : R2 hm fi us ex lf rg md re fl fr yu ye ya yb yc yd yi yo)  : (g_M_seal_zm_4 hm ht = ls_r hm ht) ∧ (ls_r hm ht = 0 → ls_o hm ht hv lo 0 = (f_M_seal hm hv ht).toInt64) ∧ (g_M_seal_zm_7 hm ht = ls_m hm ht) ∧ (g_M_seal_zm_8 hm ml hv ht = ls_l hm ht hv ml) ∧ (g_M_seal_zm_9 hm mr hv ht = ls_q hm ht hv mr) ∧ (R2 (ls_m hm ht) fi us ex lf rg md re fl fr yu ye ya yb yc yd yi yo) := by
  have hB : Bo (ls_m hm ht) := by
    unfold ls_m
    by_cases h : ls_r hm ht = 0
    · rw [if_pos h]; exact Or.inr rfl
    · rw [if_neg h]; exact hR.1
  have hR2 := R2_m hR hB
  have e1 : f_P_seal hv = f_M_checkOf (f_M_odd (((hv 0) ^^^ (hv 2)) ^^^ (hv 4))) (f_M_odd (((hv 1) ^^^ (hv 3)) ^^^ (hv 5))) := by
    unfold f_P_seal; rw [eq_chk, eq_odd, eq_odd]
  have e2 : g_P_seal_zp_3 hv = f_M_odd (((hv 0) ^^^ (hv 2)) ^^^ (hv 4)) := by unfold g_P_seal_zp_3; rw [eq_odd]
  have e3 : g_P_seal_zp_4 hv = f_M_odd (((hv 1) ^^^ (hv 3)) ^^^ (hv 5)) := by unfold g_P_seal_zp_4; rw [eq_odd]
  suffices hx : (g_M_seal_zm_4 hm ht = ls_r hm ht) ∧ (ls_r hm ht = 0 → ls_o hm ht hv lo 0 = (f_M_seal hm hv ht).toInt64) ∧ (g_M_seal_zm_7 hm ht = ls_m hm ht) ∧ (g_M_seal_zm_8 hm ml hv ht = ls_l hm ht hv ml) ∧ (g_M_seal_zm_9 hm mr hv ht = ls_q hm ht hv mr) from ⟨hx.1, hx.2.1, hx.2.2.1, hx.2.2.2.1, hx.2.2.2.2, hR2⟩
  unfold ls_o ls_l ls_q ls_m
  rw [e1, e2, e3]
  clear hB hR2 e1 e2 e3 hR
  unfold g_M_seal_zm_4 f_M_seal g_M_seal_zm_7 g_M_seal_zm_8 g_M_seal_zm_9 ls_r f_P_allHalvesTold g_M_throwing_zm_4
  by_cases h0 : ht 0 = 0
  · by_cases hz : hm = 0 <;> simp [hz, h0]
  by_cases h1 : ht 1 = 0
  · by_cases hz : hm = 0 <;> simp [hz, h0, h1]
  by_cases h2 : ht 2 = 0
  · by_cases hz : hm = 0 <;> simp [hz, h0, h1, h2]
  by_cases h3 : ht 3 = 0
  · by_cases hz : hm = 0 <;> simp [hz, h0, h1, h2, h3]
  by_cases h4 : ht 4 = 0
  · by_cases hz : hm = 0 <;> simp [hz, h0, h1, h2, h3, h4]
  by_cases h5 : ht 5 = 0
  · by_cases hz : hm = 0 <;> simp [hz, h0, h1, h2, h3, h4, h5]
  by_cases hz : hm = 0 <;> simp [hz, h0, h1, h2, h3, h4, h5, vp_updL]
theorem sim_load {hm : Int32} {fi us ex : Nat → Int32} {lf rg : Nat → Int64} {md : Nat → Int32} {re fl fr : Nat → Int64} {yu ye : Nat → Int32} {ya yb yc yd yi : Nat → Int64} {yo : Nat → Int32} {ml mr tk cu cv kl kr : Int64} {hv : Nat → Int64} {ht : Nat → Int32} {bf mg lo : Nat → Int64} {th : Int32} {yn : Nat → Int64} {yp yq : Int64} {yw : Int32} {yx : Int64} (k u w : Int32) (hR : R2 hm fi us ex lf rg md re fl fr yu ye ya yb yc yd yi yo) (hx : Bo w) : (f_P_load hm fi bf k u = f_M_load hm yu bf k u) ∧ (R2 hm (g_P_load_zsf hm fi k u) (g_P_load_zsu hm fi us k u) (g_P_load_zse hm fi ex k u w) (g_P_load_zsl hm fi lf bf k u) (g_P_load_zsr hm fi rg bf k u) md re fl fr (g_M_load_zmu hm yu k u) (g_M_load_zme hm yu ye k u w) (g_M_load_zma hm yu ya bf k u) (g_M_load_zmb hm yu yb bf k u) yc yd yi yo) := by
  unfold f_P_load f_M_load g_P_load_zsf g_P_load_zsu g_P_load_zse g_P_load_zsl g_P_load_zsr g_M_load_zmu g_M_load_zme g_M_load_zma g_M_load_zmb
  rw [eq_slot, eq_use]
  by_cases h0 : hm = 0
  · simp only [if_pos h0]; exact ⟨trivial, hR⟩
  · simp only [if_neg h0]
    by_cases h1 : f_S_isNumber k = 0
    · simp only [if_pos h1]; exact ⟨trivial, hR⟩
    · simp only [if_neg h1]
      by_cases h2 : u < 0
      · simp only [if_pos h2, if_true]; exact ⟨trivial, hR⟩
      · simp only [if_neg h2]
        by_cases h3 : u ≤ 3
        · simp only [if_pos h3, show ¬ (1 : Int32) = 0 by decide, if_false]
          obtain ⟨j, hj, ek⟩ := num_16 h1
          subst ek
          rw [nI_clamp (by omega)]
          have hs := sl_iff hR hj
          by_cases h4 : fi j = 0
          · simp only [if_pos h4, if_pos (hs.1.mpr h4)]
            refine ⟨by rw [eq_chk, eq_odd, eq_odd], ?_⟩
            unfold g_M_fill_zmu g_M_fill_zme g_M_fill_zma g_M_fill_zmb
            rw [nI_clamp (by omega), eq_odd, eq_odd]
            obtain ⟨m, hm4, eu⟩ := nI_of2 (n := 3) (show (3 : Int32).toInt = ((3 : Nat) : Int) by decide) h2 h3
            exact R2_set hR hj (Or.inr rfl) (by rw [eu]; exact vp_in_nI (by omega) (by omega)) (Or.inr ⟨rfl, rfl, rfl, rfl, rfl⟩)
          · simp only [if_neg h4, if_neg (mt hs.1.mp h4)]; exact ⟨trivial, hR⟩
        · simp only [if_neg h3, if_true]; exact ⟨trivial, hR⟩
theorem sim_clear {hm : Int32} {fi us ex : Nat → Int32} {lf rg : Nat → Int64} {md : Nat → Int32} {re fl fr : Nat → Int64} {yu ye : Nat → Int32} {ya yb yc yd yi : Nat → Int64} {yo : Nat → Int32} {ml mr tk cu cv kl kr : Int64} {hv : Nat → Int64} {ht : Nat → Int32} {bf mg lo : Nat → Int64} {th : Int32} {yn : Nat → Int64} {yp yq : Int64} {yw : Int32} {yx : Int64} (k : Int32) (hR : R2 hm fi us ex lf rg md re fl fr yu ye ya yb yc yd yi yo)  : (f_P_clear hm fi k = f_M_clear hm yu k) ∧ (R2 hm (g_P_clear_zsf hm fi k) (g_P_clear_zsu hm fi us k) (g_P_clear_zse hm fi ex k) (g_P_clear_zsl hm fi lf k) (g_P_clear_zsr hm fi rg k) md re fl fr (g_M_clear_zmu hm yu k) ye ya yb yc yd yi yo) := by
  unfold f_P_clear f_M_clear g_P_clear_zsf g_P_clear_zsu g_P_clear_zse g_P_clear_zsl g_P_clear_zsr g_M_clear_zmu
  unfold f_P_refusalOfSlot
  rw [eq_slot]
  by_cases h0 : hm = 0
  · simp only [if_pos h0, show ¬ (-1 : Int32) = 0 by decide, if_false]; exact ⟨trivial, hR⟩
  · simp only [if_neg h0]
    by_cases h1 : f_S_isNumber k = 0
    · simp only [if_pos h1, show ¬ (-2 : Int32) = 0 by decide, if_false]; exact ⟨trivial, hR⟩
    · simp only [if_neg h1]
      obtain ⟨j, hj, ek⟩ := num_16 h1
      subst ek
      rw [nI_clamp (by omega)]
      have hs := sl_iff hR hj
      by_cases h4 : fi j = 0
      · simp only [if_pos h4, if_neg (show ¬ (0 : Int32) ≤ yu j from fun hh => hs.2.1.mp hh h4), show ¬ (-3 : Int32) = 0 by decide, if_false]; exact ⟨trivial, hR⟩
      · obtain ⟨s1, s2, s3, s4⟩ := hs.2.2 h4
        simp only [if_neg h4, if_pos (hs.2.1.mpr h4), if_true]
        exact ⟨trivial, R2_clr hR hj⟩
theorem sim_usage {hm : Int32} {fi us ex : Nat → Int32} {lf rg : Nat → Int64} {md : Nat → Int32} {re fl fr : Nat → Int64} {yu ye : Nat → Int32} {ya yb yc yd yi : Nat → Int64} {yo : Nat → Int32} {ml mr tk cu cv kl kr : Int64} {hv : Nat → Int64} {ht : Nat → Int32} {bf mg lo : Nat → Int64} {th : Int32} {yn : Nat → Int64} {yp yq : Int64} {yw : Int32} {yx : Int64} (k : Int32) (hR : R2 hm fi us ex lf rg md re fl fr yu ye ya yb yc yd yi yo)  : (f_P_usage hm fi us k = f_M_usage hm yu k) := by
  unfold f_P_usage f_M_usage
  unfold f_P_refusalOfSlot
  rw [eq_slot]
  by_cases h0 : hm = 0
  · simp only [if_pos h0, show ¬ (-1 : Int32) = 0 by decide, if_false]
  · simp only [if_neg h0]
    by_cases h1 : f_S_isNumber k = 0
    · simp only [if_pos h1, show ¬ (-2 : Int32) = 0 by decide, if_false]
    · simp only [if_neg h1]
      obtain ⟨j, hj, ek⟩ := num_16 h1
      subst ek
      rw [nI_clamp (by omega)]
      have hs := sl_iff hR hj
      by_cases h4 : fi j = 0
      · simp only [if_pos h4, if_neg (show ¬ (0 : Int32) ≤ yu j from fun hh => hs.2.1.mp hh h4), show ¬ (-3 : Int32) = 0 by decide, if_false]
      · obtain ⟨s1, s2, s3, s4⟩ := hs.2.2 h4
        simp only [if_neg h4, if_pos (hs.2.1.mpr h4), if_true]
        exact s1.symm
theorem sim_wrap {hm : Int32} {fi us ex : Nat → Int32} {lf rg : Nat → Int64} {md : Nat → Int32} {re fl fr : Nat → Int64} {yu ye : Nat → Int32} {ya yb yc yd yi : Nat → Int64} {yo : Nat → Int32} {ml mr tk cu cv kl kr : Int64} {hv : Nat → Int64} {ht : Nat → Int32} {bf mg lo : Nat → Int64} {th : Int32} {yn : Nat → Int64} {yp yq : Int64} {yw : Int32} {yx : Int64} (k : Int32) (hR : R2 hm fi us ex lf rg md re fl fr yu ye ya yb yc yd yi yo)  : (f_P_wrap hm fi ex k = f_M_wrap hm yu ye k) ∧ (g_M_wrap_zmf hm ml mr yu ye ya yb bf k = g_P_wrap_zpb hm ml mr fi us ex lf rg bf k) := by
  unfold f_P_wrap f_M_wrap g_M_wrap_zmf g_P_wrap_zpb
  unfold f_P_refusalOfSlot
  rw [eq_slot]
  by_cases h0 : hm = 0
  · simp only [if_pos h0, show ¬ (-1 : Int32) = 0 by decide, if_false]; exact ⟨trivial, trivial⟩
  · simp only [if_neg h0]
    by_cases h1 : f_S_isNumber k = 0
    · simp only [if_pos h1, show ¬ (-2 : Int32) = 0 by decide, if_false]; exact ⟨trivial, trivial⟩
    · simp only [if_neg h1]
      obtain ⟨j, hj, ek⟩ := num_16 h1
      subst ek
      rw [nI_clamp (by omega)]
      have hs := sl_iff hR hj
      by_cases h4 : fi j = 0
      · simp only [if_pos h4, if_neg (show ¬ (0 : Int32) ≤ yu j from fun hh => hs.2.1.mp hh h4), show ¬ (-3 : Int32) = 0 by decide, if_false]; exact ⟨trivial, trivial⟩
      · obtain ⟨s1, s2, s3, s4⟩ := hs.2.2 h4
        simp only [if_neg h4, if_pos (hs.2.1.mpr h4), if_true]
        rw [s1, s2, s3, s4]
        refine if2 (fun _ => ⟨rfl, rfl⟩) (fun _ => ⟨rfl, ?_⟩)
        obtain ⟨m, hm4, em⟩ := us_nI (hR.2.2.1 j)
        rw [em, nI_clamp (by omega), eq_hd m hm4]
        rw [← eq_codeB]
        unfold f_K_firstLong f_K_secondLong f_K_thirdLong
        simp only [eq_sealB]
        generalize f_M_header (nI m) = w0
        generalize f_M_sealBlock ml mr (((36028797018963968 : Int64) ||| (((lf j).toUInt64 >>> ((16 : Int32).toInt64.toUInt64 &&& Int64.toUInt64 63)).toInt64)) ^^^ w0) = w1
        generalize f_M_sealBlock ml mr ((((lf j) <<< ((48 : Int32).toInt64 &&& 63)) ||| (((rg j).toUInt64 >>> ((16 : Int32).toInt64.toUInt64 &&& Int64.toUInt64 63)).toInt64)) ^^^ w1) = w2
        generalize f_M_sealBlock ml mr (((rg j) <<< ((48 : Int32).toInt64 &&& 63)) ^^^ w2) = w3
        have hF : ∀ (v1 v2 v3 : Int64), vp_updL (vp_updL (vp_updL (vp_updL (vp_updL (vp_updL (vp_updL bf 0 w0) 1 v1) 2 v2) 3 v3) 1 w1) 2 w2) 3 w3 = vp_updL (vp_updL (vp_updL (vp_updL bf 0 w0) 1 w1) 2 w2) 3 w3 := by
          intro v1 v2 v3
          funext q
          unfold vp_updL
          by_cases q3 : q = 3
          · simp [q3]
          · by_cases q2 : q = 2
            · simp [q2]
            · by_cases q1 : q = 1
              · simp [q1]
              · simp [q1, q2, q3]
        rw [hF]
theorem sim_unwrap {hm : Int32} {fi us ex : Nat → Int32} {lf rg : Nat → Int64} {md : Nat → Int32} {re fl fr : Nat → Int64} {yu ye : Nat → Int32} {ya yb yc yd yi : Nat → Int64} {yo : Nat → Int32} {ml mr tk cu cv kl kr : Int64} {hv : Nat → Int64} {ht : Nat → Int32} {bf mg lo : Nat → Int64} {th : Int32} {yn : Nat → Int64} {yp yq : Int64} {yw : Int32} {yx : Int64} (k : Int32) (hR : R2 hm fi us ex lf rg md re fl fr yu ye ya yb yc yd yi yo)  : (f_P_unwrap hm ml mr fi bf k = f_M_unwrap hm ml mr yu bf k) ∧ (R2 hm (g_P_unwrap_zsf hm ml mr fi bf k) (g_P_unwrap_zsu hm ml mr fi us bf k) (g_P_unwrap_zse hm ml mr fi ex bf k) (g_P_unwrap_zsl hm ml mr fi lf bf k) (g_P_unwrap_zsr hm ml mr fi rg bf k) md re fl fr (g_M_unwrap_zmu hm ml mr yu bf k) (g_M_unwrap_zme hm ml mr yu ye bf k) (g_M_unwrap_zma hm ml mr yu ya bf k) (g_M_unwrap_zmb hm ml mr yu yb bf k) yc yd yi yo) := by
  unfold f_P_unwrap f_M_unwrap g_P_unwrap_zsf g_P_unwrap_zsu g_P_unwrap_zse g_P_unwrap_zsl g_P_unwrap_zsr g_M_unwrap_zmu g_M_unwrap_zme g_M_unwrap_zma g_M_unwrap_zmb
  rw [eq_slot, eq_uh, ← eq_codeB]
  unfold f_K_isFramed f_K_leftHalf f_K_rightHalf
  simp only [eq_openB, eq_odd, lg_cmp_0, eq_low48]
  generalize f_M_openBlock ml mr (bf 1) ^^^ bf 0 = x1
  generalize f_M_openBlock ml mr (bf 2) ^^^ bf 1 = x2
  generalize f_M_openBlock ml mr (bf 3) ^^^ bf 2 = x3
  generalize (x1 <<< ((16 : Int32).toInt64 &&& 63)) ||| ((x2.toUInt64 >>> ((48 : Int32).toInt64.toUInt64 &&& Int64.toUInt64 63)).toInt64) = yl
  generalize (x2 <<< ((16 : Int32).toInt64 &&& 63)) ||| ((x3.toUInt64 >>> ((48 : Int32).toInt64.toUInt64 &&& Int64.toUInt64 63)).toInt64) = yr
  by_cases h0 : hm = 0
  · simp only [if_pos h0]; exact ⟨trivial, hR⟩
  · simp only [if_neg h0]
    by_cases h1 : f_S_isNumber k = 0
    · simp only [if_pos h1]; exact ⟨trivial, hR⟩
    · simp only [if_neg h1]
      obtain ⟨j, hj, ek⟩ := num_16 h1
      subst ek
      rw [nI_clamp (by omega)]
      have hs := sl_iff hR hj
      by_cases h4 : fi j = 0
      · simp only [if_pos h4, if_pos (hs.1.mpr h4)]
        have hu := uh_in (bf 0)
        by_cases h5 : f_K_usageOfHeader (bf 0) < 0
        · simp only [if_pos h5, if_neg (show ¬ (0 : Int32) ≤ f_K_usageOfHeader (bf 0) from fun hh => absurd h5 (by rw [Int32.lt_iff_toInt_lt]; rw [Int32.le_iff_toInt_le] at hh; omega)), ite_self]; exact ⟨trivial, hR⟩
        · simp only [if_neg h5, if_pos (show (0 : Int32) ≤ f_K_usageOfHeader (bf 0) from by rw [Int32.lt_iff_toInt_lt] at h5; rw [Int32.le_iff_toInt_le]; omega)]
          by_cases h6 : bf 4 = f_P_codeOfKeyBlock ml mr bf
          · simp only [if_pos h6, if_pos h6.symm]
            by_cases h7 : (x1.toUInt64 >>> ((48 : Int32).toInt64.toUInt64 &&& Int64.toUInt64 63)).toInt64 = 128
            · simp only [if_pos h7]
              by_cases h8 : x3 &&& 281474976710655 = 0
              · simp only [if_pos h8, show ¬ (1 : Int32) = 0 by decide, if_false]
                by_cases h9 : yl = f_M_odd yl
                · simp only [if_pos h9, if_pos h9.symm]
                  by_cases h10 : yr = f_M_odd yr
                  · simp only [if_pos h10, if_pos h10.symm]
                    unfold g_M_fill_zmu g_M_fill_zme g_M_fill_zma g_M_fill_zmb
                    rw [nI_clamp (by omega)]
                    refine ⟨trivial, ?_⟩
                    exact R2_set hR hj (Or.inr rfl) (hu h5) (Or.inr ⟨rfl, rfl, rfl, rfl, rfl⟩)
                  · simp only [if_neg h10, if_neg (fun hh => h10 (Eq.symm hh))]; exact ⟨trivial, hR⟩
                · simp only [if_neg h9, if_neg (fun hh => h9 (Eq.symm hh))]; exact ⟨trivial, hR⟩
              · simp only [if_neg h8, if_true]; exact ⟨trivial, hR⟩
            · simp only [if_neg h7, if_true]; exact ⟨trivial, hR⟩
          · simp only [if_neg h6, if_neg (fun hh => h6 (Eq.symm hh))]; exact ⟨trivial, hR⟩
      · simp only [if_neg h4, if_neg (mt hs.1.mp h4)]; exact ⟨trivial, hR⟩
theorem sim_terminal {hm : Int32} {fi us ex : Nat → Int32} {lf rg : Nat → Int64} {md : Nat → Int32} {re fl fr : Nat → Int64} {yu ye : Nat → Int32} {ya yb yc yd yi : Nat → Int64} {yo : Nat → Int32} {ml mr tk cu cv kl kr : Int64} {hv : Nat → Int64} {ht : Nat → Int32} {bf mg lo : Nat → Int64} {th : Int32} {yn : Nat → Int64} {yp yq : Int64} {yw : Int32} {yx : Int64} (t k : Int32) (v : Int64) (hR : R2 hm fi us ex lf rg md re fl fr yu ye ya yb yc yd yi yo)  : (f_P_terminal hm fi us md t k v = f_M_terminal hm yu md t k v) ∧ (g_M_terminal_zmk hm yu md t k v = g_P_terminal_ztm hm fi us md t k v) ∧ (R2 hm fi us ex lf rg (g_P_terminal_ztm hm fi us md t k v) (g_P_terminal_ztr hm fi us md re t k v) (g_P_terminal_ztl hm fi us lf rg md fl t k v) (g_P_terminal_ztf hm fi us lf rg md fr t k v) yu ye ya yb (g_M_terminal_zmc hm yu ya md yc t k v) (g_M_terminal_zmd hm yu yb md yd t k v) (g_M_terminal_zmi hm yu md yi t k v) (g_M_terminal_zmo hm yu md yo t k v)) := by
  unfold f_P_terminal f_M_terminal g_M_terminal_zmk g_P_terminal_ztm g_P_terminal_ztr g_P_terminal_ztl g_P_terminal_ztf g_M_terminal_zmc g_M_terminal_zmd g_M_terminal_zmi g_M_terminal_zmo
  rw [eq_slot, eq_term, show f_M_in v 0 8796093022207 = f_T_isSerial v from rfl]
  by_cases h0 : hm = 0
  · simp only [if_pos h0]; exact ⟨trivial, trivial, hR⟩
  · simp only [if_neg h0]
    by_cases h1 : f_T_isNumber t = 0
    · simp only [if_pos h1]; exact ⟨trivial, trivial, hR⟩
    · simp only [if_neg h1]
      by_cases h2 : f_S_isNumber k = 0
      · simp only [if_pos h2]; exact ⟨trivial, trivial, hR⟩
      · simp only [if_neg h2]
        by_cases h3 : f_T_isSerial v = 0
        · simp only [if_pos h3]; exact ⟨trivial, trivial, hR⟩
        · simp only [if_neg h3]
          obtain ⟨j, hj, ek⟩ := num_16 h2
          subst ek
          rw [nI_clamp (by omega)]
          have hs := sl_iff hR hj
          by_cases h4 : fi j = 0
          · simp only [if_pos h4, if_pos (hs.1.mpr h4), ite_self]; exact ⟨trivial, trivial, hR⟩
          · obtain ⟨s1, s2, s3, s4⟩ := hs.2.2 h4
            simp only [if_neg h4, if_neg (mt hs.1.mp h4)]
            rw [s1, s3, s4]
            by_cases h5 : md t.toNatClampNeg = 0
            · simp only [if_pos h5]
              by_cases h6 : us j = 2
              · simp only [if_pos h6]; exact ⟨trivial, trivial, R2_trm hR _ _ _ _⟩
              · simp only [if_neg h6]; exact ⟨trivial, trivial, hR⟩
            · simp only [if_neg h5]; exact ⟨trivial, trivial, hR⟩
theorem sim_next {hm : Int32} {fi us ex : Nat → Int32} {lf rg : Nat → Int64} {md : Nat → Int32} {re fl fr : Nat → Int64} {yu ye : Nat → Int32} {ya yb yc yd yi : Nat → Int64} {yo : Nat → Int32} {ml mr tk cu cv kl kr : Int64} {hv : Nat → Int64} {ht : Nat → Int32} {bf mg lo : Nat → Int64} {th : Int32} {yn : Nat → Int64} {yp yq : Int64} {yw : Int32} {yx : Int64} (t : Int32) (hR : R2 hm fi us ex lf rg md re fl fr yu ye ya yb yc yd yi yo)  : (f_P_next hm md re t = f_M_next hm md yo t) ∧ (R2 hm fi us ex lf rg md (g_P_next_ztr hm md re t) fl fr yu ye ya yb yc yd yi (g_M_next_zmo hm md yo t)) := by
  unfold f_P_next f_M_next g_P_next_ztr g_M_next_zmo
  rw [eq_term]
  by_cases h0 : hm = 0
  · simp only [if_pos h0]; exact ⟨trivial, hR⟩
  · simp only [if_neg h0]
    by_cases h1 : f_T_isNumber t = 0
    · simp only [if_pos h1]; exact ⟨trivial, hR⟩
    · simp only [if_neg h1]
      by_cases h2 : md t.toNatClampNeg = 0
      · simp only [if_pos h2]; exact ⟨trivial, hR⟩
      · simp only [if_neg h2]
        have hmd := md_1 hR h2
        obtain ⟨e1, _, _⟩ := hR.2.2.2.2.2.2 _ hmd
        obtain ⟨c, hc, ec⟩ := hR.2.2.2.2.2.1 t.toNatClampNeg
        have hle := cfn_le (n := c + 1) (by omega)
        have hctr : ctr (re t.toNatClampNeg) = nI c := by rw [e1, ec, ctr_of _ hc]
        unfold advR advM
        rw [hctr, ec, nI_1, eq_la (by omega), nI_clamp (by omega)]
        by_cases h3 : cfn (c + 1) < 2097152
        · have h4 : nI (cfn (c + 1)) < 2097152 := nI_lt (b := 2097152) h3 (by omega)
          have h5 : ¬ (2097151 : Int32) < nI (cfn (c + 1)) := nI_nlt (b := cfn (c + 1)) (a := 2097151) (by omega) (by omega)
          have h6 : nI c ≤ nI (cfn (c + 1)) := nI_le (by omega) (by omega)
          simp only [if_pos h4, if_neg h5, if_pos h6]
          exact ⟨trivial, R2_cnt hR _ h3 hmd⟩
        · have h4 : ¬ nI (cfn (c + 1)) < 2097152 := nI_nlt (b := 2097152) (by omega) (by omega)
          have h5 : (2097151 : Int32) < nI (cfn (c + 1)) := nI_lt (a := 2097151) (by omega) (by omega)
          simp only [if_neg h4, if_pos h5]
          exact ⟨trivial, hR⟩
theorem sim_skip {hm : Int32} {fi us ex : Nat → Int32} {lf rg : Nat → Int64} {md : Nat → Int32} {re fl fr : Nat → Int64} {yu ye : Nat → Int32} {ya yb yc yd yi : Nat → Int64} {yo : Nat → Int32} {ml mr tk cu cv kl kr : Int64} {hv : Nat → Int64} {ht : Nat → Int32} {bf mg lo : Nat → Int64} {th : Int32} {yn : Nat → Int64} {yp yq : Int64} {yw : Int32} {yx : Int64} (t n : Int32) (hR : R2 hm fi us ex lf rg md re fl fr yu ye ya yb yc yd yi yo)  : (f_P_skip hm md re t n = f_M_skip hm md yo t n) ∧ (R2 hm fi us ex lf rg md (g_P_skip_ztr hm md re t n) fl fr yu ye ya yb yc yd yi (g_M_skip_zmo hm md yo t n)) := by
  unfold f_P_skip f_M_skip g_P_skip_ztr g_M_skip_zmo
  rw [eq_term, eq_cnt]
  by_cases h0 : hm = 0
  · simp only [if_pos h0]; exact ⟨trivial, hR⟩
  · simp only [if_neg h0]
    by_cases h1 : f_T_isNumber t = 0
    · simp only [if_pos h1]; exact ⟨trivial, hR⟩
    · simp only [if_neg h1]
      by_cases ha : n < 1
      · simp only [if_pos ha, if_true]; exact ⟨trivial, hR⟩
      · simp only [if_neg ha]
        by_cases hb : n ≤ 2097151
        · simp only [if_pos hb, show ¬ (1 : Int32) = 0 by decide, if_false]
          by_cases h2 : md t.toNatClampNeg = 0
          · simp only [if_pos h2]; exact ⟨trivial, hR⟩
          · simp only [if_neg h2]
            have hmd := md_1 hR h2
            obtain ⟨e1, _, _⟩ := hR.2.2.2.2.2.2 _ hmd
            obtain ⟨c, hc, ec⟩ := hR.2.2.2.2.2.1 t.toNatClampNeg
            obtain ⟨m, hm2, em⟩ := nI_of2 (n := 2097151) (show (2097151 : Int32).toInt = ((2097151 : Nat) : Int) by decide) (nn_of1 ha) hb
            subst em
            have hle := cfn_le (n := m) (by omega)
            have hctr : ctr (re t.toNatClampNeg) = nI c := by rw [e1, ec, ctr_of _ hc]
            unfold advR advM
            rw [hctr, ec, eq_la (by omega), nI_clamp (by omega)]
            by_cases h3 : cfn m < 2097152
            · have h4 : ¬ (2097152 : Int32) ≤ nI (cfn m) := nI_ge (b := 2097152) h3 (by omega)
              have h5 : ¬ (2097151 : Int32) < nI (cfn m) := nI_nlt (b := cfn m) (a := 2097151) (by omega) (by omega)
              simp only [if_neg h4, if_neg h5]
              by_cases h6 : nI c ≤ nI (cfn m)
              · simp only [if_pos h6]
                exact ⟨trivial, R2_cnt hR _ h3 hmd⟩
              · simp only [if_neg h6]
                exact ⟨trivial, hR⟩
            · have h4 : (2097152 : Int32) ≤ nI (cfn m) := nI_le (a := 2097152) (by omega) (by omega)
              have h5 : (2097151 : Int32) < nI (cfn m) := nI_lt (a := 2097151) (by omega) (by omega)
              simp only [if_pos h4, if_pos h5]
              exact ⟨trivial, hR⟩
        · simp only [if_neg hb, if_true]; exact ⟨trivial, hR⟩
theorem sim_check {hm : Int32} {fi us ex : Nat → Int32} {lf rg : Nat → Int64} {md : Nat → Int32} {re fl fr : Nat → Int64} {yu ye : Nat → Int32} {ya yb yc yd yi : Nat → Int64} {yo : Nat → Int32} {ml mr tk cu cv kl kr : Int64} {hv : Nat → Int64} {ht : Nat → Int32} {bf mg lo : Nat → Int64} {th : Int32} {yn : Nat → Int64} {yp yq : Int64} {yw : Int32} {yx : Int64} (k : Int32) (hR : R2 hm fi us ex lf rg md re fl fr yu ye ya yb yc yd yi yo)  : (f_P_check hm fi lf rg md re fl fr tk k = f_M_check hm yu ya yb md yc yd yi yo yn k) := by
  unfold f_P_check f_M_check
  rw [eq_key]
  refine if1 (fun _ => rfl) (fun _ => ?_)
  refine if1 (fun _ => rfl) (fun h1 => ?_)
  unfold f_P_hasKey g_P_takeKey_zcl_1 g_P_takeKey_zcr_1
  by_cases h : (16 : Int32) ≤ k
  · simp only [if_pos h, Int64.xor_zero]
    refine if1 (fun _ => rfl) (fun h2 => ?_)
    obtain ⟨e1, e2⟩ := cur_eq hR (k - 16) h2 tk yn
    rw [e1, e2, eq_chk]
  · simp only [if_neg h]
    have hs := sl_iff hR (lo_16 h1 h)
    by_cases h4 : fi k.toNatClampNeg = 0
    · rw [if_pos h4, if_neg (fun hh => hs.2.1.mp hh h4)]
    · rw [if_neg h4, if_pos (hs.2.1.mpr h4)]
      obtain ⟨s1, s2, s3, s4⟩ := hs.2.2 h4
      rw [s3, s4, eq_chk]
theorem sim_pin {hm : Int32} {fi us ex : Nat → Int32} {lf rg : Nat → Int64} {md : Nat → Int32} {re fl fr : Nat → Int64} {yu ye : Nat → Int32} {ya yb yc yd yi : Nat → Int64} {yo : Nat → Int32} {ml mr tk cu cv kl kr : Int64} {hv : Nat → Int64} {ht : Nat → Int32} {bf mg lo : Nat → Int64} {th : Int32} {yn : Nat → Int64} {yp yq : Int64} {yw : Int32} {yx : Int64} (k g : Int32) (a d z : Int64) (hR : R2 hm fi us ex lf rg md re fl fr yu ye ya yb yc yd yi yo)  : (f_P_pin hm fi us md k g a d z = f_M_pin hm yu md k g a d z) ∧ (g_M_pin_zmf hm yu ya yb md yc yd yi yo bf yn k g a d z = g_P_pin_zpb hm fi us lf rg md re fl fr tk bf k g a d z) := by
  obtain ⟨m, hm16, eg⟩ := pk_andE g (m := 15) 4 (by decide)
  unfold f_P_pin f_M_pin g_M_pin_zmf g_P_pin_zpb
  rw [eq_key, eq_fmt, eq_len, eq_acc, eg, eq_dig d (show m < 16 from hm16)]
  simp only [may3, f_B_fillCount]
  refine if2 (fun _ => ⟨rfl, rfl⟩) (fun _ => ?_)
  refine if2 (fun _ => ⟨rfl, rfl⟩) (fun h1 => ?_)
  refine if2 (fun _ => ⟨rfl, rfl⟩) (fun _ => ?_)
  refine if2 (fun _ => ⟨rfl, rfl⟩) (fun _ => ?_)
  refine if2 (fun _ => ⟨rfl, rfl⟩) (fun _ => ?_)
  have tail : (if f_P_hasKey fi md k = 0 then (-3 : Int32) else if f_P_isPinKey us k = 0 then (-4) else 0) = (if f_M_isThere yu md k = 0 then (-3) else if f_M_isPinKey yu k = 0 then (-4) else 0) ∧ (if f_M_isThere yu md k = 0 then bf else if f_M_isPinKey yu k = 0 then bf else vp_updL bf 0 (f_M_sealBlock (g_M_pinKey_zm_22 ya yc yd yi yo yn k) (g_M_pinKey_zm_23 yb yc yd yi yo yn k) (f_M_form (g >>> (4 &&& 31)) (nI m) d a z))) = (if f_P_hasKey fi md k = 0 then bf else if f_P_isPinKey us k = 0 then bf else vp_updL bf 0 (sealB (g_P_takeKey_zcl_1 lf re fl fr tk k (255 : Int64)) (g_P_takeKey_zcr_1 rg re fl fr tk k (255 : Int64)) (f_B_made (g >>> (4 &&& 31)) a (nI m) d z))) := by
    rw [there_eq hR h1]
    refine if2 (fun _ => ⟨rfl, rfl⟩) (fun h2 => ?_)
    rw [pink_eq hR h1 h2]
    refine if2 (fun _ => ⟨rfl, rfl⟩) (fun _ => ⟨rfl, ?_⟩)
    obtain ⟨e1, e2⟩ := pkey_eq hR h1 h2 tk yn
    rw [e1, e2, eq_sealB, eq_form]
  by_cases hz : lg_cmp ((d.toUInt64 >>> ((4 * nI m).toInt64.toUInt64 &&& Int64.toUInt64 63)).toInt64) 0 = 0
  · simp only [if_pos hz]
    refine if2 (fun _ => ⟨rfl, rfl⟩) (fun _ => ?_)
    by_cases h3 : g >>> (4 &&& 31) = 3
    · simp only [if_pos h3, h3, true_and]
      rw [eq_least10]
      rw [h3] at tail
      exact if2 (fun _ => ⟨rfl, rfl⟩) (fun _ => tail)
    · simp only [if_neg h3, h3, false_and, if_false]
      exact tail
  · simp only [if_neg hz, if_true]
    exact ⟨trivial, trivial⟩
theorem sim_translate {hm : Int32} {fi us ex : Nat → Int32} {lf rg : Nat → Int64} {md : Nat → Int32} {re fl fr : Nat → Int64} {yu ye : Nat → Int32} {ya yb yc yd yi : Nat → Int64} {yo : Nat → Int32} {ml mr tk cu cv kl kr : Int64} {hv : Nat → Int64} {ht : Nat → Int32} {bf mg lo : Nat → Int64} {th : Int32} {yn : Nat → Int64} {yp yq : Int64} {yw : Int32} {yx : Int64} (k k2 g : Int32) (a z : Int64) (hR : R2 hm fi us ex lf rg md re fl fr yu ye ya yb yc yd yi yo)  : (f_P_translate hm fi us lf rg md re fl fr tk bf k k2 g a z = f_M_translate hm yu ya yb md yc yd yi yo bf yn yw k k2 g a z) ∧ (g_M_translate_zmf hm yu ya yb md yc yd yi yo bf yn yw yx k k2 g a z = g_P_translate_zpb hm fi us lf rg md re fl fr tk bf k k2 g a z) := by
  unfold f_P_translate f_M_translate g_M_translate_zmf g_P_translate_zpb
  rw [eq_key, eq_key, eq_fmt, eq_fmt, eq_acc, show f_B_fillCount 4 = 10 from by decide]
  simp only [may3]
  refine if2 (fun _ => ⟨rfl, rfl⟩) (fun _ => ?_)
  refine if2 (fun _ => ⟨rfl, rfl⟩) (fun h1 => ?_)
  refine if2 (fun _ => ⟨rfl, rfl⟩) (fun h1b => ?_)
  refine if2 (fun _ => ⟨rfl, rfl⟩) (fun _ => ?_)
  refine if2 (fun _ => ⟨rfl, rfl⟩) (fun _ => ?_)
  refine if2 (fun _ => ⟨rfl, rfl⟩) (fun _ => ?_)
  have tail : (if f_P_hasKey fi md k = 0 then (-3 : Int32) else if f_P_hasKey fi md k2 = 0 then (-3) else if f_P_isPinKey us k = 0 then (-4) else if f_P_isPinKey us k2 = 0 then (-4) else if f_B_isOf (g >>> (4 &&& 31)) (f_P_openedPinBlock (g_P_takeKey_zcl_1 lf re fl fr tk k (255 : Int64)) (g_P_takeKey_zcr_1 rg re fl fr tk k (255 : Int64)) bf (g >>> (4 &&& 31)) a) = 0 then (-6) else f_B_lengthOf (f_P_openedPinBlock (g_P_takeKey_zcl_1 lf re fl fr tk k (255 : Int64)) (g_P_takeKey_zcr_1 rg re fl fr tk k (255 : Int64)) bf (g >>> (4 &&& 31)) a)) = (if f_M_isThere yu md k = 0 then (-3) else if f_M_isThere yu md k2 = 0 then (-3) else if f_M_isPinKey yu k = 0 then (-4) else if f_M_isPinKey yu k2 = 0 then (-4) else if f_M_reads (f_M_openBlock (g_M_pinKey_zm_22 ya yc yd yi yo yn k) (g_M_pinKey_zm_23 yb yc yd yi yo yn k) (bf 0)) (g >>> (4 &&& 31)) a = 0 then (-6) else g_M_reads_zm_24 yw (f_M_openBlock (g_M_pinKey_zm_22 ya yc yd yi yo yn k) (g_M_pinKey_zm_23 yb yc yd yi yo yn k) (bf 0)) (g >>> (4 &&& 31)) a) ∧ (if f_M_isThere yu md k = 0 then bf else if f_M_isThere yu md k2 = 0 then bf else if f_M_isPinKey yu k = 0 then bf else if f_M_isPinKey yu k2 = 0 then bf else if f_M_reads (f_M_openBlock (g_M_pinKey_zm_22 ya yc yd yi yo yn k) (g_M_pinKey_zm_23 yb yc yd yi yo yn k) (bf 0)) (g >>> (4 &&& 31)) a = 0 then bf else vp_updL bf 0 (f_M_sealBlock (g_M_pinKey_zm_22 ya yc yd yi yo (g_M_openBlock_zmn (g_M_pinKey_zmn yc yd yi yo yn k) (g_M_pinKey_zm_22 ya yc yd yi yo yn k) (g_M_pinKey_zm_23 yb yc yd yi yo yn k)) k2) (g_M_pinKey_zm_23 yb yc yd yi yo (g_M_openBlock_zmn (g_M_pinKey_zmn yc yd yi yo yn k) (g_M_pinKey_zm_22 ya yc yd yi yo yn k) (g_M_pinKey_zm_23 yb yc yd yi yo yn k)) k2) (f_M_form (g &&& 15) (g_M_reads_zm_24 yw (f_M_openBlock (g_M_pinKey_zm_22 ya yc yd yi yo yn k) (g_M_pinKey_zm_23 yb yc yd yi yo yn k) (bf 0)) (g >>> (4 &&& 31)) a) (g_M_reads_zm_25 yx (f_M_openBlock (g_M_pinKey_zm_22 ya yc yd yi yo yn k) (g_M_pinKey_zm_23 yb yc yd yi yo yn k) (bf 0)) (g >>> (4 &&& 31)) a) a z))) = (if f_P_hasKey fi md k = 0 then bf else if f_P_hasKey fi md k2 = 0 then bf else if f_P_isPinKey us k = 0 then bf else if f_P_isPinKey us k2 = 0 then bf else if f_B_isOf (g >>> (4 &&& 31)) (f_P_openedPinBlock (g_P_takeKey_zcl_1 lf re fl fr tk k (255 : Int64)) (g_P_takeKey_zcr_1 rg re fl fr tk k (255 : Int64)) bf (g >>> (4 &&& 31)) a) = 0 then bf else vp_updL bf 0 (sealB (g_P_takeKey_zcl_1 lf re fl fr (g_P_takeKey_ztd_1 re fl fr tk k) k2 (255 : Int64)) (g_P_takeKey_zcr_1 rg re fl fr (g_P_takeKey_ztd_1 re fl fr tk k) k2 (255 : Int64)) (f_B_made (g &&& 15) a (f_B_lengthOf (f_P_openedPinBlock (g_P_takeKey_zcl_1 lf re fl fr tk k (255 : Int64)) (g_P_takeKey_zcr_1 rg re fl fr tk k (255 : Int64)) bf (g >>> (4 &&& 31)) a)) (f_B_digitsOf (f_P_openedPinBlock (g_P_takeKey_zcl_1 lf re fl fr tk k (255 : Int64)) (g_P_takeKey_zcr_1 rg re fl fr tk k (255 : Int64)) bf (g >>> (4 &&& 31)) a) (f_B_lengthOf (f_P_openedPinBlock (g_P_takeKey_zcl_1 lf re fl fr tk k (255 : Int64)) (g_P_takeKey_zcr_1 rg re fl fr tk k (255 : Int64)) bf (g >>> (4 &&& 31)) a))) z))) := by
    rw [there_eq hR h1, there_eq hR h1b]
    refine if2 (fun _ => ⟨rfl, rfl⟩) (fun h2 => ?_)
    refine if2 (fun _ => ⟨rfl, rfl⟩) (fun h2b => ?_)
    rw [pink_eq hR h1 h2, pink_eq hR h1b h2b]
    refine if2 (fun _ => ⟨rfl, rfl⟩) (fun _ => ?_)
    refine if2 (fun _ => ⟨rfl, rfl⟩) (fun _ => ?_)
    obtain ⟨e1, e2⟩ := pkey_eq hR h1 h2 tk yn
    obtain ⟨e3, e4⟩ := pkey_eq hR h1b h2b (g_P_takeKey_ztd_1 re fl fr tk k) (g_M_openBlock_zmn (g_M_pinKey_zmn yc yd yi yo yn k) (g_M_pinKey_zm_22 ya yc yd yi yo yn k) (g_M_pinKey_zm_23 yb yc yd yi yo yn k))
    rw [e3, e4, e1, e2]
    unfold f_P_openedPinBlock
    rw [eq_openB, eq_mrb, eq_sealB]
    obtain ⟨r1, r2⟩ := eq_reads (f_M_openBlock (g_P_takeKey_zcl_1 lf re fl fr tk k (255 : Int64)) (g_P_takeKey_zcr_1 rg re fl fr tk k (255 : Int64)) (bf 0)) (g >>> (4 &&& 31)) a
    rw [r1]
    refine if2 (fun _ => ⟨rfl, rfl⟩) (fun h6 => ?_)
    obtain ⟨r3, r4⟩ := r2 h6
    rw [r3, r4, eq_form]
    exact ⟨rfl, rfl⟩
  by_cases h3 : g &&& 15 = 3
  · simp only [if_pos h3, h3, true_and]
    rw [eq_least10]
    rw [h3] at tail
    exact if2 (fun _ => ⟨rfl, rfl⟩) (fun _ => tail)
  · simp only [if_neg h3, h3, false_and, if_false]
    exact tail
theorem sim_verify {hm : Int32} {fi us ex : Nat → Int32} {lf rg : Nat → Int64} {md : Nat → Int32} {re fl fr : Nat → Int64} {yu ye : Nat → Int32} {ya yb yc yd yi : Nat → Int64} {yo : Nat → Int32} {ml mr tk cu cv kl kr : Int64} {hv : Nat → Int64} {ht : Nat → Int32} {bf mg lo : Nat → Int64} {th : Int32} {yn : Nat → Int64} {yp yq : Int64} {yw : Int32} {yx : Int64} (k g : Int32) (a : Int64) (o : Int32) (hR : R2 hm fi us ex lf rg md re fl fr yu ye ya yb yc yd yi yo)  : (f_P_verify hm fi us lf rg md re fl fr tk bf k g a o = f_M_verify hm yu ya yb md yc yd yi yo bf yn yw yx k g a o) := by
  unfold f_P_verify f_M_verify
  rw [eq_key, eq_slot, eq_fmt, eq_acc, show f_P_areDigits o.toInt64 4 = f_P_areDigits o.toInt64 (nI 4) from rfl, eq_dig o.toInt64 (show 4 < 16 by omega), show f_M_areDigits o.toInt64 0 (nI 4) 0 9 = f_M_areDigits o.toInt64 0 4 0 9 from rfl]
  simp only [shr_n16]
  refine if1 (fun _ => rfl) (fun _ => ?_)
  refine if1 (fun _ => rfl) (fun h1 => ?_)
  refine if1 (fun _ => rfl) (fun hs => ?_)
  refine if1 (fun _ => rfl) (fun _ => ?_)
  refine if1 (fun _ => rfl) (fun _ => ?_)
  by_cases ho : f_M_in o.toInt64 0 65535 = 0
  · rw [if_pos ho, if_neg (show ¬ ¬ f_M_in o.toInt64 0 65535 = 0 from fun hh => hh ho)]; exact if_pos rfl
  · rw [if_neg ho, if_pos ho]
    refine if1 (fun _ => rfl) (fun _ => ?_)
    rw [there_eq hR h1]
    refine if1 (fun _ => rfl) (fun h2 => ?_)
    obtain ⟨j, hj, ej⟩ := num_16 hs
    rw [ej, nI_clamp (by omega)]
    have hsl := sl_iff hR hj
    by_cases h4 : fi j = 0
    · rw [if_pos h4, if_neg (fun hh => hsl.2.1.mp hh h4)]
    · rw [if_neg h4, if_pos (hsl.2.1.mpr h4), pink_eq hR h1 h2]
      obtain ⟨s1, s2, s3, s4⟩ := hsl.2.2 h4
      rw [s1, s3, s4]
      refine if1 (fun _ => rfl) (fun _ => ?_)
      refine if1 (fun _ => ?_) (fun _ => rfl)
      obtain ⟨e1, e2⟩ := pkey_eq hR h1 h2 tk yn
      rw [e1, e2]
      unfold f_P_openedPinBlock
      rw [eq_openB, eq_mrb, eq_sealB]
      obtain ⟨r1, r2⟩ := eq_reads (f_M_openBlock (g_P_takeKey_zcl_1 lf re fl fr tk k (255 : Int64)) (g_P_takeKey_zcr_1 rg re fl fr tk k (255 : Int64)) (bf 0)) (g &&& 15) a
      rw [r1]
      refine if1 (fun _ => rfl) (fun h6 => ?_)
      obtain ⟨r3, r4⟩ := r2 h6
      rw [r3, r4, eq_right]
      refine if1 (fun h7 => ?_) (fun _ => rfl)
      rw [h7]
theorem sim_code {hm : Int32} {fi us ex : Nat → Int32} {lf rg : Nat → Int64} {md : Nat → Int32} {re fl fr : Nat → Int64} {yu ye : Nat → Int32} {ya yb yc yd yi : Nat → Int64} {yo : Nat → Int32} {ml mr tk cu cv kl kr : Int64} {hv : Nat → Int64} {ht : Nat → Int32} {bf mg lo : Nat → Int64} {th : Int32} {yn : Nat → Int64} {yp yq : Int64} {yw : Int32} {yx : Int64} (k n : Int32) (hR : R2 hm fi us ex lf rg md re fl fr yu ye ya yb yc yd yi yo)  : (f_P_code hm fi us k n = f_M_code hm yu k n) ∧ (g_M_code_zmf hm yu ya yb bf mg k n = g_P_code_zpb hm fi us lf rg bf mg k n) := by
  have hc : f_P_code hm fi us k n = f_M_code hm yu k n ∧ (f_P_code hm fi us k n = 0 → k.toNatClampNeg < 16 ∧ ¬ fi k.toNatClampNeg = 0 ∧ n.toNatClampNeg ≤ 64) := by
    unfold f_P_code f_M_code
    rw [eq_slot, eq_64]
    by_cases h0 : hm = 0
    · simp only [if_pos h0]; exact ⟨trivial, fun h => absurd h (by decide)⟩
    · simp only [if_neg h0]
      by_cases h1 : f_S_isNumber k = 0
      · simp only [if_pos h1]; exact ⟨trivial, fun h => absurd h (by decide)⟩
      · simp only [if_neg h1]
        by_cases h2 : n < 0
        · simp only [if_pos h2, if_true]; exact ⟨trivial, fun h => absurd h (by decide)⟩
        · simp only [if_neg h2]
          by_cases h3 : n ≤ 64
          · simp only [if_pos h3, show ¬ (1 : Int32) = 0 by decide, if_false]
            obtain ⟨j, hj, ek⟩ := num_16 h1
            subst ek
            rw [nI_clamp (by omega)]
            have hs := sl_iff hR hj
            by_cases h4 : fi j = 0
            · simp only [if_pos h4, if_neg (show ¬ (0 : Int32) ≤ yu j from fun hh => hs.2.1.mp hh h4)]; exact ⟨trivial, fun h => absurd h (by decide)⟩
            · simp only [if_neg h4, if_pos (hs.2.1.mpr h4)]
              rw [(hs.2.2 h4).1]
              refine ⟨rfl, fun _ => ⟨hj, h4, ?_⟩⟩
              obtain ⟨m, hm2, em⟩ := nI_of2 (n := 64) (show (64 : Int32).toInt = ((64 : Nat) : Int) by decide) h2 h3
              rw [em, nI_clamp (by omega)]; exact hm2
          · simp only [if_neg h3, if_true]; exact ⟨trivial, fun h => absurd h (by decide)⟩
  refine ⟨hc.1, ?_⟩
  unfold g_M_code_zmf g_P_code_zpb
  rw [← hc.1]
  refine if1 (fun h => ?_) (fun _ => rfl)
  obtain ⟨c1, c2, c3⟩ := hc.2 h
  obtain ⟨s1, s2, s3, s4⟩ := (sl_iff hR c1).2.2 c2
  rw [s3, s4, eq_cdc _ _ c3 _ (Nat.le_refl _), eq_enc, eq_dec]
