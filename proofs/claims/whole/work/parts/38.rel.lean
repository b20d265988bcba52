/-! counters, derived keys, padding -/
theorem bt_cm : ∀ p, p < 64 → bt 2097151 p = decide (p < 21) := by decide +kernel
theorem bt_cn : ∀ p, p < 64 → bt (-2097152) p = decide (21 ≤ p) := by decide +kernel
theorem bi_nI (c p : Nat) : bi (nI c) p = (decide (p < 32) && c.testBit p) := by
  show (BitVec.ofNat 32 c).getLsbD p = _
  rw [BitVec.getLsbD_ofNat]
theorem cnt_hi {c p : Nat} (hc : c < 2097152) (hp : 21 ≤ p) : bi (nI c) p = false := by
  rw [bi_nI, Nat.testBit_lt_two_pow (Nat.lt_of_lt_of_le (show c < 2 ^ 21 from hc) (Nat.pow_le_pow_right (n := 2) (by omega) hp)), Bool.and_false]
theorem bt_cnt {c p : Nat} (hc : c < 2097152) (hp : p < 64) : bt (nI c).toInt64 p = bi (nI c) p := by
  rw [bt_of]
  by_cases h : p < 32
  · simp [h, hp]
  · rw [if_neg h, cnt_hi hc (show 21 ≤ 31 by omega), bi_hi (by omega), Bool.and_false]
theorem bt_mkG (v : Int64) {p : Nat} (hp : p < 64) : bt (mkG v) p = (decide (21 ≤ p) && bt v (p - 21)) := by
  show bt (v <<< ((21 : Int32).toInt64 &&& 63)) p = _
  rw [bt_shl (e := 21) 21 rfl (by decide)]
  simp [hp]
theorem ctr_of (v : Int64) {c : Nat} (hc : c < 2097152) : ctr (mkG v ||| (nI c).toInt64) = nI c := by
  apply bi_ext
  intro p hp
  show bi ((mkG v ||| (nI c).toInt64) &&& 2097151).toInt32 p = _
  rw [bi_of, bt_and, bt_or, bt_cm p (by omega), bt_mkG v (by omega), bt_cnt hc (by omega)]
  by_cases h : p < 21
  · simp [h, hp, show ¬ 21 ≤ p by omega]
  · rw [cnt_hi hc (by omega)]; simp [h]
theorem wctr_of (v : Int64) {c : Nat} (hc : c < 2097152) : wctr (mkG v ||| (nI c).toInt64) = mkG v := by
  apply bt_ext
  intro p hp
  show bt ((mkG v ||| (nI c).toInt64) &&& -2097152) p = _
  rw [bt_and, bt_or, bt_cn p hp, bt_mkG v hp, bt_cnt hc hp]
  by_cases h : 21 ≤ p
  · rw [cnt_hi hc h]; simp [h]
  · simp [h]
theorem c_bI : ∀ i, i < 21 → bI i = nI (20 - i) := by decide +kernel
theorem and_one (x : Int64) {n : Nat} (hn : n < 64) : x &&& ((1 : Int64) <<< ((nI n).toInt64 &&& 63)) = 0 ↔ bt x n = false := by
  constructor
  · intro h
    have := congrArg (fun y => bt y n) h
    simp only [bt_0] at this
    rw [bt_and, bt_one hn hn] at this
    simpa using this
  · intro h
    apply bt_ext
    intro p hp
    rw [bt_and, bt_one hn hp, bt_0]
    by_cases e : p = n
    · subst e; simp [h]
    · simp [e]
theorem bi_1 : ∀ p, p < 32 → bi 1 p = decide (p = 0) := by decide +kernel
theorem and_i1 (y : Int32) : y &&& 1 = 1 ↔ bi y 0 = true := by
  constructor
  · intro h
    have this : bi (y &&& 1) 0 = bi 1 0 := congrArg (fun y => bi y 0) h
    rw [bi_and, bi_1 0 (by omega)] at this
    simpa using this
  · intro h
    apply bi_ext
    intro p hp
    rw [bi_and, bi_1 p hp]
    by_cases e : p = 0
    · subst e; simp [h]
    · simp [e]
theorem dk_bit (v : Int64) {c i : Nat} (hc : c < 2097152) (hi : i < 21) : lg_cmp ((mkG v ||| (nI c).toInt64) &&& dkB i) 0 = 0 ↔ ¬ ((nI c >>> (bI i &&& 31)) &&& 1) = 1 := by
  rw [lg_cmp_0, and_i1]
  unfold dkB
  rw [c_bI i hi, and_one _ (by omega), bt_or, bt_mkG v (by omega), bt_cnt hc (by omega), bi_sar (20 - i) rfl (by omega) 0 (by omega), Nat.zero_add]
  simp [show ¬ 21 ≤ 20 - i by omega]
theorem eq_dk (v a b k : Int64) (n : Nat → Int64) {c : Nat} (hc : c < 2097152) : ∀ i, i ≤ 21 → (dk (mkG v ||| (nI c).toInt64) a b k i).1 = (ck (nI c) (mkG v) a b n i).1 ∧ (dk (mkG v ||| (nI c).toInt64) a b k i).2.1 = (ck (nI c) (mkG v) a b n i).2.1 ∧ (dk (mkG v ||| (nI c).toInt64) a b k i).2.2.1 = (ck (nI c) (mkG v) a b n i).2.2.1
  | 0, _ => ⟨wctr_of v hc, rfl, rfl⟩
  | i + 1, hi => by
    obtain ⟨e1, e2, e3⟩ := eq_dk v a b k n hc i (by omega)
    have hb := dk_bit v hc (show i < 21 by omega)
    unfold dk ck
    by_cases h : lg_cmp ((mkG v ||| (nI c).toInt64) &&& dkB i) 0 = 0
    · rw [if_pos h, if_neg (hb.mp h)]
      exact ⟨e1, e2, e3⟩
    · rw [if_neg h, if_pos (Classical.not_not.mp (mt hb.mpr h))]
      rw [e1, e2, e3, eq_enc, eq_enc]
      exact ⟨rfl, rfl, rfl⟩
theorem c_mth : ∀ n, n < 65 → ∀ k, k < 9 → 8 * k ≤ n → mth n k = nI (min 8 (n - 8 * k)) := by decide +kernel
theorem c_56 : ∀ r, r < 8 → (64 : Int32) - 8 * nI r = nI (64 - 8 * r) := by decide +kernel
theorem bt_m1 : ∀ p, p < 64 → bt (-1) p = true := by decide +kernel
theorem eq_pad (g : Nat → Int64) {n i : Nat} (hn : n ≤ 64) (hi : i ≤ n / 8) : mpw g n i = f_P_paddedLong g i n := by
  have hm := c_mth n (by omega) i (by omega) (by omega)
  unfold mpw mpv f_P_paddedLong
  rw [hm]
  by_cases hlt : i < n / 8
  · rw [if_neg (nI_ge hlt (by omega)), show min 8 (n - 8 * i) = 8 by omega, if_pos (show (8 : Int32) ≤ nI 8 by decide), if_neg (show ¬ nI 8 = 0 by decide)]
    apply bt_ext
    intro p hp
    rw [bt_shl (e := 64 - 8 * nI 8) 0 (by decide) (by omega), bt_shr (e := 64 - 8 * nI 8) 0 (by decide) (by omega)]
    simp [hp]
  · have he : i = n / 8 := by omega
    rw [if_pos (show nI (n / 8) ≤ nI i from nI_le (by omega) (by omega)), show min 8 (n - 8 * i) = n % 8 by omega, if_neg (show ¬ (8 : Int32) ≤ nI (n % 8) from nI_ge (b := 8) (by omega) (by omega))]
    by_cases h0 : nI (n % 8) = 0
    · rw [if_pos h0, if_pos h0, Int64.zero_or]
    · rw [if_neg h0, if_neg h0]
      congr 1
      have hr : n % 8 ≠ 0 := by intro e; rw [e] at h0; exact h0 (by decide)
      apply bt_ext
      intro p hp
      rw [bt_shl _ (c_56 (n % 8) (by omega)) (by omega), bt_shr _ (c_56 (n % 8) (by omega)) (by omega), bt_and, bt_shl _ (c_56 (n % 8) (by omega)) (by omega)]
      by_cases hp2 : 64 - 8 * (n % 8) ≤ p
      · rw [bt_m1 _ (by omega), show p - (64 - 8 * (n % 8)) + (64 - 8 * (n % 8)) = p by omega]
        simp [hp2, hp]
      · simp [hp2]
theorem eq_cdc (a : Int64) (g : Nat → Int64) {n : Nat} (hn : n ≤ 64) : ∀ i, i ≤ n / 8 + 1 → mcd a g n i = cdc a g n i
  | 0, _ => rfl
  | i + 1, h => by
    show menc a (mpw g n i ^^^ mcd a g n i) = enc a (cdc a g n i ^^^ f_P_paddedLong g i n)
    rw [eq_pad g hn (by omega), eq_cdc a g hn i (by omega), eq_enc, Int64.xor_comm]
theorem num_16 {k : Int32} (h : ¬ f_S_isNumber k = 0) : ∃ j, j < 16 ∧ k = nI j := by
  unfold f_S_isNumber at h
  by_cases h1 : k < 0
  · rw [if_pos h1] at h; exact absurd rfl h
  · rw [if_neg h1] at h
    by_cases h2 : (16 : Int32) ≤ k
    · rw [if_pos h2] at h; exact absurd rfl h
    · obtain ⟨j, hj, e⟩ := nI_of h1
      refine ⟨j, ?_, e⟩
      subst e
      exact Nat.lt_of_not_le (fun hh => h2 (nI_le (a := 16) hh hj))
theorem num_8 {k : Int32} (h : ¬ f_T_isNumber k = 0) : ∃ j, j < 8 ∧ k = nI j := by
  unfold f_T_isNumber at h
  by_cases h1 : k < 0
  · rw [if_pos h1] at h; exact absurd rfl h
  · rw [if_neg h1] at h
    by_cases h2 : (8 : Int32) ≤ k
    · rw [if_pos h2] at h; exact absurd rfl h
    · obtain ⟨j, hj, e⟩ := nI_of h1
      refine ⟨j, ?_, e⟩
      subst e
      exact Nat.lt_of_not_le (fun hh => h2 (nI_le (a := 8) hh hj))
theorem num_24 {k : Int32} (h : ¬ f_P_isKeyNumber k = 0) : ∃ j, j < 24 ∧ k = nI j := by
  unfold f_P_isKeyNumber at h
  by_cases h1 : k < 0
  · rw [if_pos h1] at h; exact absurd rfl h
  · rw [if_neg h1] at h
    by_cases h2 : (24 : Int32) ≤ k
    · rw [if_pos h2] at h; exact absurd rfl h
    · obtain ⟨j, hj, e⟩ := nI_of h1
      refine ⟨j, ?_, e⟩
      subst e
      exact Nat.lt_of_not_le (fun hh => h2 (nI_le (a := 24) hh hj))
