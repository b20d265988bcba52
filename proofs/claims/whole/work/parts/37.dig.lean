/-! ranges, digits, blocks -/
theorem lc_lt {x y : Int64} : lg_cmp x y < 0 ↔ x < y := by
  unfold lg_cmp
  by_cases h1 : y < x
  · simp [h1]; rw [Int64.lt_iff_toInt_lt] at h1; rw [Int64.le_iff_toInt_le]; omega
  · by_cases h2 : x = y
    · subst h2; simp
    · simp [h1, h2]; rw [Int64.lt_iff_toInt_lt] at h1 ⊢; have : x.toInt ≠ y.toInt := fun h => h2 (Int64.toInt_inj.mp h); omega
theorem lc_gt {x y : Int64} : 0 < lg_cmp x y ↔ y < x := by
  unfold lg_cmp
  by_cases h1 : y < x
  · simp [h1]
  · by_cases h2 : x = y
    · subst h2; simp
    · simp [h1, h2]
theorem i32_nl {x y : Int32} : x < y ↔ ¬ y ≤ x := by rw [Int32.lt_iff_toInt_lt, Int32.le_iff_toInt_le]; omega
theorem lc_le {x y : Int64} : lg_cmp x y ≤ 0 ↔ ¬ y < x := by
  rw [← lc_gt, i32_nl, Classical.not_not]
theorem lc_ge {x y : Int64} : 0 ≤ lg_cmp x y ↔ ¬ x < y := by
  rw [← lc_lt, i32_nl, Classical.not_not]
theorem in_eq (v lo hi : Int64) : f_M_in v lo hi = if v < lo then 0 else if hi < v then 0 else 1 := by
  unfold f_M_in; simp only [lc_lt, lc_gt]
theorem in_32 (k lo hi : Int32) : f_M_in k.toInt64 lo.toInt64 hi.toInt64 = if k < lo then 0 else if hi < k then 0 else 1 := by
  rw [in_eq]
  simp only [Int64.lt_iff_toInt_lt, Int32.toInt_toInt64, Int32.lt_iff_toInt_lt]
theorem i32_nx {k : Int32} {a b : Int32} (h : b.toInt = a.toInt + 1) : (a < k) = (b ≤ k) := by
  apply propext; rw [Int32.lt_iff_toInt_lt, Int32.le_iff_toInt_le]; omega
theorem eq_slot (k : Int32) : f_M_isSlot k = f_S_isNumber k := by
  show f_M_in k.toInt64 (0 : Int32).toInt64 (15 : Int32).toInt64 = _
  rw [in_32]; unfold f_S_isNumber
  simp only [i32_nx (show (16 : Int32).toInt = (15 : Int32).toInt + 1 by decide)]
theorem eq_term (k : Int32) : f_M_isTerminal k = f_T_isNumber k := by
  show f_M_in k.toInt64 (0 : Int32).toInt64 (7 : Int32).toInt64 = _
  rw [in_32]; unfold f_T_isNumber
  simp only [i32_nx (show (8 : Int32).toInt = (7 : Int32).toInt + 1 by decide)]
theorem eq_key (k : Int32) : f_M_in k.toInt64 (0 : Int64) (23 : Int64) = f_P_isKeyNumber k := by
  show f_M_in k.toInt64 (0 : Int32).toInt64 (23 : Int32).toInt64 = _
  rw [in_32]; unfold f_P_isKeyNumber
  simp only [i32_nx (show (24 : Int32).toInt = (23 : Int32).toInt + 1 by decide)]
theorem in_32' (k lo hi : Int32) : f_M_in k.toInt64 lo.toInt64 hi.toInt64 = if k < lo then 0 else if k ≤ hi then 1 else 0 := by
  rw [in_32]
  by_cases h : k ≤ hi
  · rw [if_neg (show ¬ hi < k by rw [i32_nl, Classical.not_not]; exact h), if_pos h]
  · rw [if_pos (show hi < k by rw [i32_nl]; exact h), if_neg h]
theorem eq_use (k : Int32) : f_M_in k.toInt64 (0 : Int64) (3 : Int64) = if k < 0 then 0 else if k ≤ 3 then 1 else 0 := in_32' k 0 3
theorem eq_cnt (k : Int32) : f_M_in k.toInt64 (1 : Int64) (2097151 : Int64) = if k < 1 then 0 else if k ≤ 2097151 then 1 else 0 := in_32' k 1 2097151
theorem eq_64 (k : Int32) : f_M_in k.toInt64 (0 : Int64) (64 : Int64) = if k < 0 then 0 else if k ≤ 64 then 1 else 0 := in_32' k 0 64
theorem i32_ny {k : Int32} {a b : Int32} (h : b.toInt = a.toInt + 1) : (k < b) = (k ≤ a) := by
  apply propext; rw [Int32.lt_iff_toInt_lt, Int32.le_iff_toInt_le]; omega
theorem eq_4 (k : Int32) : f_M_in k.toInt64 (0 : Int64) (4 : Int64) = if k < 0 then 0 else if k < 5 then 1 else 0 := by
  simp only [i32_ny (show (5 : Int32).toInt = (4 : Int32).toInt + 1 by decide)]; exact in_32' k 0 4
theorem eq_7 (k : Int32) : f_M_in k.toInt64 (0 : Int64) (7 : Int64) = if k < 0 then 0 else if k < 8 then 1 else 0 := by
  simp only [i32_ny (show (8 : Int32).toInt = (7 : Int32).toInt + 1 by decide)]; exact in_32' k 0 7
theorem eq_2 (k : Int32) : f_M_in k.toInt64 (0 : Int64) (2 : Int64) = if k < 0 then 0 else if 3 ≤ k then 0 else 1 := by
  show f_M_in k.toInt64 (0 : Int32).toInt64 (2 : Int32).toInt64 = _
  rw [in_32]
  simp only [i32_nx (show (3 : Int32).toInt = (2 : Int32).toInt + 1 by decide)]
theorem eq_1 (k : Int32) : f_M_in k.toInt64 (0 : Int64) (1 : Int64) = if k < 0 then 0 else if k ≤ 1 then 1 else 0 := in_32' k 0 1
theorem eq_len (k : Int32) : f_M_in k.toInt64 (4 : Int64) (12 : Int64) = f_B_isLength k := by
  show f_M_in k.toInt64 (4 : Int32).toInt64 (12 : Int32).toInt64 = _
  rw [in_32]; rfl
theorem eq_fmt (f : Int32) : f_M_isFormat f = f_B_isFormat f := rfl
theorem eq_form (f : Int32) (a : Int64) (n : Int32) (d z : Int64) : f_B_made f a n d z = f_M_form f n d a z := by
  unfold f_B_made f_M_form f_B_accountPart f_M_accountPart f_B_fillCount
  by_cases h0 : f = 0
  · subst h0; simp only [if_neg (show ¬ (0 : Int32) = 1 by decide), if_true, Int64.neg_one_and]
  · by_cases h1 : f = 1
    · subst h1; simp only [if_neg (show ¬ (1 : Int32) = 0 by decide), if_true, Int64.xor_zero]
    · simp only [if_neg h0, if_neg h1]
theorem ni_nat (x : Int64) : ∃ c, c < 16 ∧ x &&& 15 = Int64.ofNat c := by
  refine ⟨(x &&& 15).toBitVec.toNat, ?_, ?_⟩
  · rw [Int64.toBitVec_and, BitVec.toNat_and]
    exact Nat.lt_of_le_of_lt Nat.and_le_right (by decide)
  · apply Int64.toBitVec_inj.mp
    show _ = BitVec.ofNat 64 _
    rw [BitVec.ofNat_toNat, BitVec.setWidth_eq]
theorem mul4 (j : Nat) : (4 : Int32) * nI j = nI (4 * j) := pk_mul 4 j
abbrev nb (v : Int64) (j : Nat) : Int64 := (v.toUInt64 >>> ((4 * nI j).toInt64.toUInt64 &&& Int64.toUInt64 63)).toInt64 &&& 15
theorem bt_nb (v : Int64) {j : Nat} (hj : j < 16) (p : Nat) : bt (nb v j) p = (decide (p < 4) && bt v (p + 4 * j)) := by
  unfold nb
  rw [bt_and, bt_shr (4 * j) (mul4 j) (by omega)]
  by_cases hp : p < 64
  · rw [bt_15 p hp, Bool.and_comm]
  · rw [bt_hi (by omega)]; simp [show ¬ p < 4 by omega]
theorem c_n9 : ∀ c, c < 16 → (lg_cmp (Int64.ofNat c) 9 ≤ 0 ↔ f_M_in (Int64.ofNat c) (0 : Int32).toInt64 (9 : Int32).toInt64 ≠ 0) ∧ (lg_cmp (Int64.ofNat c) 0 ≤ 0 ↔ Int64.ofNat c = 0) ∧ (0 ≤ lg_cmp (Int64.ofNat c) (10 : Int32).toInt64 ↔ f_M_in (Int64.ofNat c) (10 : Int32).toInt64 (15 : Int32).toInt64 ≠ 0) ∧ (0 ≤ lg_cmp (Int64.ofNat c) (15 : Int32).toInt64 ↔ f_M_in (Int64.ofNat c) (15 : Int32).toInt64 (15 : Int32).toInt64 ≠ 0) ∧ (Int64.ofNat c = 0 → lg_cmp (Int64.ofNat c) 9 ≤ 0) := by decide +kernel
theorem mad_all (v : Int64) (lo hi : Int32) : ∀ n, mad v lo hi n = allQ (q_ar v lo hi) n
  | 0 => (if_pos (fun j hj => absurd hj (by omega))).symm
  | n + 1 => by
    show (if mad v lo hi n = 0 then 0 else if f_M_in (((v.toUInt64 >>> ((4 * nI n).toInt64.toUInt64 &&& Int64.toUInt64 63)).toInt64) &&& 15) lo.toInt64 hi.toInt64 = 0 then 0 else 1) = _
    rw [mad_all v lo hi n]
    unfold allQ
    by_cases h : ∀ j, j < n → q_ar v lo hi j
    · rw [if_pos h, if_neg (by decide)]
      by_cases h2 : f_M_in (((v.toUInt64 >>> ((4 * nI n).toInt64.toUInt64 &&& Int64.toUInt64 63)).toInt64) &&& 15) lo.toInt64 hi.toInt64 = 0
      · rw [if_pos h2, if_neg (fun hh => hh n (by omega) h2)]
      · rw [if_neg h2, if_pos]
        intro j hj
        by_cases hjn : j = n
        · subst hjn; exact h2
        · exact h j (by omega)
    · rw [if_neg h, if_pos rfl, if_neg (fun hh => h (fun j hj => hh j (by omega)))]
theorem allQ_congr {P Q : Nat → Prop} [DecidablePred P] [DecidablePred Q] {n : Nat} (h : ∀ j, j < n → (P j ↔ Q j)) : allQ P n = allQ Q n := by
  unfold allQ
  by_cases hp : ∀ j, j < n → P j
  · rw [if_pos hp, if_pos (fun j hj => (h j hj).mp (hp j hj))]
  · rw [if_neg hp, if_neg (fun hq => hp (fun j hj => (h j hj).mpr (hq j hj)))]
theorem eq_least10 (v : Int64) (n : Int32) : f_M_areDigits v 0 n 10 15 = f_B_areAtLeast 10 v n := by
  unfold f_M_areDigits f_B_areAtLeast
  rw [mad_all]
  apply allQ_congr
  intro j _
  obtain ⟨c, hc, ec⟩ := ni_nat ((v.toUInt64 >>> ((4 * nI j).toInt64.toUInt64 &&& Int64.toUInt64 63)).toInt64)
  unfold q_ar q_al
  rw [ec]
  exact (c_n9 c hc).2.2.1.symm
theorem eq_least15 (v : Int64) (n : Int32) : f_M_areDigits v 0 n 15 15 = f_B_areAtLeast 15 v n := by
  unfold f_M_areDigits f_B_areAtLeast
  rw [mad_all]
  apply allQ_congr
  intro j _
  obtain ⟨c, hc, ec⟩ := ni_nat ((v.toUInt64 >>> ((4 * nI j).toInt64.toUInt64 &&& Int64.toUInt64 63)).toInt64)
  unfold q_ar q_al
  rw [ec]
  exact (c_n9 c hc).2.2.2.1.symm
theorem allQ_0' {P : Nat → Prop} [DecidablePred P] {n : Nat} : allQ P n = 0 ↔ ¬ ∀ j, j < n → P j := by
  unfold allQ
  by_cases h : ∀ j, j < n → P j
  · rw [if_pos h]; exact ⟨fun h => absurd h (by decide), fun hh => absurd h hh⟩
  · rw [if_neg h]; exact ⟨fun _ => h, fun _ => rfl⟩
theorem shr_0 (v : Int64) {m : Nat} (hm : m < 16) : (v.toUInt64 >>> ((4 * nI m).toInt64.toUInt64 &&& Int64.toUInt64 63)).toInt64 = 0 ↔ ∀ j, m ≤ j → j < 16 → nb v j = 0 := by
  constructor
  · intro h j h1 h2
    apply bt_ext
    intro p hp
    rw [bt_nb v h2, bt_0]
    have := congrArg (fun x => bt x (p + 4 * j - 4 * m)) h
    simp only [bt_0] at this
    rw [bt_shr (4 * m) (mul4 m) (by omega), show p + 4 * j - 4 * m + 4 * m = p + 4 * j by omega] at this
    rw [this, Bool.and_false]
  · intro h
    apply bt_ext
    intro p hp
    rw [bt_shr (4 * m) (mul4 m) (by omega), bt_0]
    by_cases h64 : p + 4 * m < 64
    · have := congrArg (fun x => bt x ((p + 4 * m) % 4)) (h ((p + 4 * m) / 4) (by omega) (by omega))
      simp only [bt_0] at this
      rw [bt_nb v (by omega), show (p + 4 * m) % 4 + 4 * ((p + 4 * m) / 4) = p + 4 * m by omega] at this
      rw [decide_eq_true (show (p + 4 * m) % 4 < 4 by omega), Bool.true_and] at this
      exact this
    · exact bt_hi (by omega)
theorem eq_dig (v : Int64) {m : Nat} (hm : m < 16) : f_P_areDigits v (nI m) = if lg_cmp ((v.toUInt64 >>> ((4 * nI m).toInt64.toUInt64 &&& Int64.toUInt64 63)).toInt64) 0 = 0 then f_M_areDigits v 0 (nI m) 0 9 else 0 := by
  have hz := shr_0 v hm
  rw [← lg_cmp_0] at hz
  unfold f_P_areDigits f_M_areDigits
  rw [mad_all, nI_clamp (by omega)]
  by_cases h : lg_cmp ((v.toUInt64 >>> ((4 * nI m).toInt64.toUInt64 &&& Int64.toUInt64 63)).toInt64) 0 = 0
  · rw [if_pos h]
    have h2 := hz.mp h
    unfold allQ
    by_cases h3 : ∀ j, j < m → q_ar v 0 9 j
    · rw [if_pos h3, if_pos]
      intro j hj
      obtain ⟨c, hc, ec⟩ := ni_nat ((v.toUInt64 >>> ((4 * nI j).toInt64.toUInt64 &&& Int64.toUInt64 63)).toInt64)
      by_cases hjm : m ≤ j
      · have h4 := h2 j hjm hj
        unfold q_dg
        rw [if_pos (nI_le hjm (by omega)), show ((v.toUInt64 >>> ((4 * nI j).toInt64.toUInt64 &&& Int64.toUInt64 63)).toInt64) &&& 15 = 0 from h4]
        decide
      · have h4 := h3 j (by omega)
        unfold q_ar at h4
        unfold q_dg
        rw [if_neg (nI_ge (by omega) (by omega))]
        rw [ec] at h4 ⊢
        exact (c_n9 c hc).1.mpr h4
    · rw [if_neg h3, if_neg]
      intro hall
      apply h3
      intro j hj
      obtain ⟨c, hc, ec⟩ := ni_nat ((v.toUInt64 >>> ((4 * nI j).toInt64.toUInt64 &&& Int64.toUInt64 63)).toInt64)
      have h4 := hall j (by omega)
      unfold q_dg at h4
      rw [if_neg (nI_ge (by omega) (by omega))] at h4
      unfold q_ar
      rw [ec] at h4 ⊢
      exact (c_n9 c hc).1.mp h4
  · rw [if_neg h, allQ_0']
    intro hall
    apply h
    apply hz.mpr
    intro j h1 h2
    obtain ⟨c, hc, ec⟩ := ni_nat ((v.toUInt64 >>> ((4 * nI j).toInt64.toUInt64 &&& Int64.toUInt64 63)).toInt64)
    have h4 := hall j h2
    unfold q_dg at h4
    rw [if_pos (nI_le h1 (by omega)), ec] at h4
    have := (c_n9 c hc).2.1.mp h4
    show _ &&& _ = _
    rw [ec]; exact this
theorem eq_acc (a : Int64) : f_M_isAccount a = f_P_areDigits a 16 := by
  unfold f_M_isAccount f_M_areDigits f_P_areDigits
  rw [mad_all]
  show allQ _ 16 = _
  apply allQ_congr
  intro j hj
  obtain ⟨c, hc, ec⟩ := ni_nat ((a.toUInt64 >>> ((4 * nI j).toInt64.toUInt64 &&& Int64.toUInt64 63)).toInt64)
  unfold q_ar q_dg
  rw [if_neg (show ¬ (16 : Int32) ≤ nI j from nI_ge (b := 16) (by omega) (by omega)), ec]
  exact (c_n9 c hc).1.symm
theorem c_lenI : ∀ c, c < 16 → (Int64.ofNat c).toInt32 = nI c := by decide +kernel
theorem len_nI (v : Int64) : ∃ m, m < 16 ∧ f_B_lengthOf v = nI m := by
  obtain ⟨c, hc, ec⟩ := ni_nat ((v.toUInt64 >>> ((56 : Int32).toInt64.toUInt64 &&& Int64.toUInt64 63)).toInt64)
  refine ⟨c, hc, ?_⟩
  unfold f_B_lengthOf
  rw [ec, c_lenI c hc]
theorem c_isl : ∀ m, m < 16 → (f_B_isLength (nI m) = 0 ↔ ¬ (4 ≤ m ∧ m ≤ 12)) := by decide +kernel
theorem c_msk : ∀ m, m < 16 → 4 ≤ m ∧ m ≤ 12 → ∀ p, p < 64 → bt (((1 : Int64) <<< ((4 * nI m).toInt64 &&& 63)) - 1) p = decide (p < 4 * m) := by decide +kernel
theorem c_64 : ∀ m, m < 16 → (64 : Int32) - 4 * nI m = nI (64 - 4 * m) := by decide +kernel
theorem c_14 : ∀ m, m < 15 → (4 : Int32) * (14 - nI m) = nI (56 - 4 * m) := by decide +kernel
theorem bt_dig (v : Int64) {m : Nat} (h4 : 4 ≤ m ∧ m ≤ 12) {p : Nat} (hp : p < 64) : bt (f_B_digitsOf v (nI m)) p = (decide (p < 4 * m) && bt v (p + (56 - 4 * m))) := by
  unfold f_B_digitsOf
  rw [bt_shr _ (c_64 m (by omega)) (by omega)]
  by_cases h : p < 4 * m
  · rw [bt_shl (e := 8) 8 rfl (by decide), show p + (64 - 4 * m) - 8 = p + (56 - 4 * m) by omega]
    simp [h, show 8 ≤ p + (64 - 4 * m) by omega, show p + (64 - 4 * m) < 64 by omega]
  · rw [bt_hi (by omega)]; simp [h]
theorem eq_digits (v : Int64) {m : Nat} (h4 : 4 ≤ m ∧ m ≤ 12) : ((v.toUInt64 >>> ((4 * (14 - nI m)).toInt64.toUInt64 &&& Int64.toUInt64 63)).toInt64) &&& (((1 : Int64) <<< ((4 * nI m).toInt64 &&& 63)) - 1) = f_B_digitsOf v (nI m) := by
  apply bt_ext
  intro p hp
  rw [bt_dig v h4 hp, bt_and, bt_shr _ (c_14 m (by omega)) (by omega), c_msk m (by omega) h4 p hp, Bool.and_comm]
theorem dig_own (v : Int64) {m : Nat} (h4 : 4 ≤ m ∧ m ≤ 12) : f_P_areDigits (f_B_digitsOf v (nI m)) (nI m) = f_M_areDigits (f_B_digitsOf v (nI m)) 0 (nI m) 0 9 := by
  rw [eq_dig _ (by omega), if_pos]
  rw [lg_cmp_0]
  apply bt_ext
  intro p hp
  rw [bt_shr _ (mul4 m) (by omega), bt_0]
  by_cases h : p + 4 * m < 64
  · rw [bt_dig v h4 h, decide_eq_false (show ¬ p + 4 * m < 4 * m by omega), Bool.false_and]
  · exact bt_hi (by omega)
theorem bo01 {x : Int32} (h : Bo x) : (if x = 0 then (0 : Int32) else 1) = x := by
  rcases h with h | h <;> subst h <;> decide
theorem eq_reads (b : Int64) (f : Int32) (a : Int64) : f_M_reads b f a = f_B_isOf f (mrb f b a) ∧ (f_B_isOf f (mrb f b a) ≠ 0 → (∀ yw, g_M_reads_zm_24 yw b f a = f_B_lengthOf (mrb f b a)) ∧ ∀ yx, g_M_reads_zm_25 yx b f a = f_B_digitsOf (mrb f b a) (f_B_lengthOf (mrb f b a))) := by
  unfold f_M_reads f_B_isOf g_M_reads_zm_24 g_M_reads_zm_25
  generalize mrb f b a = v
  obtain ⟨m, hm, em⟩ := len_nI v
  have em2 : (((v.toUInt64 >>> ((56 : Int32).toInt64.toUInt64 &&& Int64.toUInt64 63)).toInt64) &&& (15 : Int64)).toInt32 = nI m := em
  rw [em, em2, eq_len]
  by_cases hf : lg_cmp ((v.toUInt64 >>> ((60 : Int32).toInt64.toUInt64 &&& Int64.toUInt64 63)).toInt64) f.toInt64 = 0
  · simp only [if_pos hf]
    by_cases hl : f_B_isLength (nI m) = 0
    · simp only [if_pos hl]
      exact ⟨by by_cases h1 : f = 1 <;> simp [h1], fun h => absurd rfl h⟩
    · simp only [if_neg hl]
      have h4 : 4 ≤ m ∧ m ≤ 12 := by
        have := mt (c_isl m hm).mpr hl
        exact Classical.not_not.mp this
      rw [eq_digits v h4, ← dig_own v h4]
      refine ⟨?_, fun _ => ⟨?_, ?_⟩⟩
      · by_cases hd : f_P_areDigits (f_B_digitsOf v (nI m)) (nI m) = 0
        · simp only [if_pos hd]; by_cases h1 : f = 1 <;> simp [h1]
        · simp only [if_neg hd]
          by_cases h1 : f = 1
          · simp only [if_pos h1]
          · simp only [if_neg h1]
            by_cases h0 : f = 0
            · simp only [if_pos h0, mlow]
              rw [eq_least15, bo01 (bo_B_areAtLeast _ _ _)]; rfl
            · simp only [if_neg h0, mlow]
              rw [eq_least10, bo01 (bo_B_areAtLeast _ _ _)]; rfl
      · intro yw; by_cases h1 : f = 1 <;> simp [h1]
      · intro yx; by_cases h1 : f = 1 <;> simp [h1]
  · simp only [if_neg hf]
    exact ⟨by by_cases h1 : f = 1 <;> simp [h1], fun h => absurd rfl h⟩
theorem eq_mrb (f : Int32) (b a : Int64) : b ^^^ f_B_accountPart f a = mrb f b a := by
  unfold mrb f_B_accountPart f_M_accountPart
  by_cases h : f = 1
  · simp only [if_pos h, Int64.xor_zero]
  · simp only [if_neg h]
theorem bt_sar {x : Int64} {e : Int32} (n : Nat) (he : e = nI n) (hn : n < 64) (p : Nat) (hp : p + n < 64) : bt (x >>> (e.toInt64 &&& 63)) p = bt x (p + n) := by
  subst he
  unfold bt
  rw [Int64.toBitVec_shiftRight, am_l n hn, BitVec.sshiftRight_eq', BitVec.toNat_ofNat, Nat.mod_eq_of_lt (show n < 2 ^ 64 by omega), BitVec.getLsbD_sshiftRight]
  simp [show ¬ 64 ≤ p by omega, show n + p < 64 by omega, Nat.add_comm]
theorem sar_nb (x : Int64) {j : Nat} (hj : j < 4) : (x >>> ((4 * nI j).toInt64 &&& 63)) &&& 15 = nd4 x j := by
  apply bt_ext
  intro p hp
  unfold nd4
  rw [bt_and, bt_and, bt_15 p hp, bt_shr (4 * j) rfl (by omega)]
  by_cases h : p < 4
  · rw [bt_sar (4 * j) (mul4 j) (by omega) p (by omega)]
  · simp [h]
theorem bi_sar {x e : Int32} (n : Nat) (he : e = nI n) (hn : n < 32) (p : Nat) (hp : p + n < 32) : bi (x >>> (e &&& 31)) p = bi x (p + n) := by
  subst he
  unfold bi
  rw [Int32.toBitVec_shiftRight, am_i n hn, BitVec.sshiftRight_eq', BitVec.toNat_ofNat, Nat.mod_eq_of_lt (show n < 2 ^ 32 by omega), BitVec.getLsbD_sshiftRight]
  simp [show ¬ 32 ≤ p by omega, show n + p < 32 by omega, Nat.add_comm]
theorem bi_15 : ∀ p, p < 32 → bi 15 p = decide (p < 4) := by decide +kernel
theorem sar_o (o : Int32) {j : Nat} (hj : j < 4) : (o >>> ((4 * nI j) &&& 31)) &&& 15 = (nd4 o.toInt64 j).toInt32 := by
  apply bi_ext
  intro p hp
  unfold nd4
  rw [bi_and, bi_of, bt_and, bi_15 p hp, bt_15 p (by omega), bt_shr (4 * j) rfl (by omega)]
  by_cases h : p < 4
  · rw [bi_sar (4 * j) (mul4 j) (by omega) p (by omega), bt_of]
    simp [h, show p + 4 * j < 64 by omega, show p + 4 * j < 32 by omega, hp]
  · simp [h]
def t10 (x : Int64) : Int64 := if lg_cmp x 10 < 0 then x else x - 10
def t9 (x : Int32) : Int32 := if x ≤ 9 then x else x - 10
theorem c_rp : ∀ a, a < 16 → ∀ b, b < 16 → (t10 (Int64.ofNat a) + Int64.ofNat b) - (t10 (Int64.ofNat a) + Int64.ofNat b) / 10 * 10 = ((t9 (Int64.ofNat a).toInt32 + (Int64.ofNat b).toInt32) - (t9 (Int64.ofNat a).toInt32 + (Int64.ofNat b).toInt32) / 10 * 10).toInt64 := by decide +kernel
theorem eq_rp (n : Int64) (o : Int32) (d : Int64) {j : Nat} (hj : j < 4) : q_rp d n o.toInt64 j ↔ lg_cmp ((mvs n o j - mvs n o j / 10 * 10).toInt64) ((d >>> ((4 * nI j).toInt64 &&& 63)) &&& 15) = 0 := by
  obtain ⟨a, ha, ea⟩ := ni_nat ((n.toUInt64 >>> ((nI (4 * j)).toInt64.toUInt64 &&& Int64.toUInt64 63)).toInt64)
  obtain ⟨b, hb, eb⟩ := ni_nat ((o.toInt64.toUInt64 >>> ((nI (4 * j)).toInt64.toUInt64 &&& Int64.toUInt64 63)).toInt64)
  have ea' : nd4 n j = Int64.ofNat a := ea
  have eb' : nd4 o.toInt64 j = Int64.ofNat b := eb
  have e1 : mvs n o j = t9 (Int64.ofNat a).toInt32 + (Int64.ofNat b).toInt32 := by
    unfold mvs mve mvd
    rw [sar_o o hj, sar_nb n hj, ea', eb']; rfl
  have e2 : ndg n j = t10 (Int64.ofNat a) := by unfold ndg; rw [ea']; rfl
  unfold q_rp
  rw [sar_nb d hj, e1, e2, eb', c_rp a ha b hb]
theorem eq_mvr (n : Int64) (o : Int32) (d : Int64) : ∀ k, k ≤ 4 → mvr n o d k = allQ (q_rp d n o.toInt64) k
  | 0, _ => (if_pos (fun j hj => absurd hj (by omega))).symm
  | k + 1, hk => by
    show (if mvr n o d k = 0 then 0 else if lg_cmp ((mvs n o k - mvs n o k / 10 * 10).toInt64) ((d >>> ((4 * nI k).toInt64 &&& 63)) &&& 15) = 0 then 1 else 0) = _
    rw [eq_mvr n o d k (by omega)]
    unfold allQ
    have hq := eq_rp n o d (j := k) (by omega)
    by_cases h : ∀ j, j < k → q_rp d n o.toInt64 j
    · rw [if_pos h, if_neg (by decide)]
      by_cases h2 : lg_cmp ((mvs n o k - mvs n o k / 10 * 10).toInt64) ((d >>> ((4 * nI k).toInt64 &&& 63)) &&& 15) = 0
      · rw [if_pos h2, if_pos]
        intro j hj
        by_cases hjn : j = k
        · subst hjn; exact hq.mpr h2
        · exact h j (by omega)
      · rw [if_neg h2, if_neg (fun hh => h2 (hq.mp (hh k (by omega))))]
    · rw [if_neg h, if_pos rfl, if_neg (fun hh => h (fun j hj => hh j (by omega)))]
theorem eq_right (n : Int64) (o : Int32) (d : Int64) : mvr n o d 4 = f_P_isRightPin d n o.toInt64 := eq_mvr n o d 4 (by omega)
theorem bt_m48 : ∀ p, p < 64 → bt 281474976710655 p = decide (p < 48) := by decide +kernel
theorem eq_low48 (b : Int64) : (b <<< ((16 : Int32).toInt64 &&& 63) = 0) = (b &&& 281474976710655 = 0) := by
  apply propext
  constructor
  · intro h
    apply bt_ext
    intro p hp
    rw [bt_and, bt_m48 p hp, bt_0]
    by_cases h48 : p < 48
    · have := congrArg (fun x => bt x (p + 16)) h
      simp only [bt_0] at this
      rw [bt_shl (e := 16) 16 rfl (by decide), show p + 16 - 16 = p by omega] at this
      simp [show p + 16 < 64 by omega] at this
      simp [this]
    · simp [h48]
  · intro h
    apply bt_ext
    intro p hp
    rw [bt_shl (e := 16) 16 rfl (by decide), bt_0]
    by_cases h16 : 16 ≤ p
    · have := congrArg (fun x => bt x (p - 16)) h
      simp only [bt_0] at this
      rw [bt_and, bt_m48 _ (by omega)] at this
      simp [show p - 16 < 48 by omega] at this
      simp [this]
    · simp [h16]
theorem eq_hd : ∀ u, u < 4 → K_hd u = f_M_header (nI u) := by decide +kernel
theorem eq_uh (h : Int64) : muh h 4 = f_K_usageOfHeader h := by
  unfold f_K_usageOfHeader
  simp only [muh]
  rw [← eq_hd 0 (by decide), ← eq_hd 1 (by decide), ← eq_hd 2 (by decide), ← eq_hd 3 (by decide)]
  simp only [lg_cmp_0]
  have n01 : K_hd 0 ≠ K_hd 1 := by decide +kernel
  have n02 : K_hd 0 ≠ K_hd 2 := by decide +kernel
  have n03 : K_hd 0 ≠ K_hd 3 := by decide +kernel
  have n12 : K_hd 1 ≠ K_hd 2 := by decide +kernel
  have n13 : K_hd 1 ≠ K_hd 3 := by decide +kernel
  have n23 : K_hd 2 ≠ K_hd 3 := by decide +kernel
  by_cases h0 : h = K_hd 0
  · subst h0; rw [if_neg n03, if_neg n02, if_neg n01, if_pos rfl, if_pos rfl]; rfl
  · by_cases h1 : h = K_hd 1
    · subst h1; rw [if_neg n13, if_neg n12, if_pos rfl, if_neg h0, if_pos rfl]; rfl
    · by_cases h2 : h = K_hd 2
      · subst h2; rw [if_neg n23, if_pos rfl, if_neg h0, if_neg h1, if_pos rfl]; rfl
      · by_cases h3 : h = K_hd 3
        · subst h3; rw [if_pos rfl, if_neg h0, if_neg h1, if_neg h2, if_pos rfl]; rfl
        · rw [if_neg h0, if_neg h1, if_neg h2, if_neg h3, if_neg h0, if_neg h1, if_neg h2, if_neg h3]
