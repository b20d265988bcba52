/-! odd parity, ones, allowed counters -/
theorem by_nat (x : Int64) : ∃ c, c < 256 ∧ x &&& 255 = Int64.ofNat c := by
  refine ⟨(x &&& 255).toBitVec.toNat, ?_, ?_⟩
  · rw [Int64.toBitVec_and, BitVec.toNat_and]
    exact Nat.lt_of_le_of_lt Nat.and_le_right (by decide)
  · apply Int64.toBitVec_inj.mp
    show _ = BitVec.ofNat 64 _
    rw [BitVec.ofNat_toNat, BitVec.setWidth_eq]
theorem c_par : ∀ c, c < 256 → (decide (f_JL_bitCount (Int64.ofNat c) - f_JL_bitCount (Int64.ofNat c) / 2 * 2 = 0) ^^ bt (Int64.ofNat c) 0) = decide (oc (Int64.ofNat c) 7 - oc (Int64.ofNat c) 7 / 2 * 2 = 0) := by decide +kernel
theorem bt_one {n p : Nat} (hn : n < 64) (hp : p < 64) : bt ((1 : Int64) <<< ((nI n).toInt64 &&& 63)) p = decide (p = n) := by
  rw [bt_shl n rfl hn]
  by_cases h : n ≤ p
  · rw [bt_1 _ (by omega)]
    have : (p - n = 0) = (p = n) := by apply propext; omega
    simp [h, hp, this]
  · simp [h, show ¬ p = n by omega]
theorem bt_wop (h : Int64) : ∀ n, n ≤ 8 → ∀ p, p < 64 → bt (wop h n) p = if p % 8 = 0 ∧ p / 8 < n then (decide (f_JL_bitCount (by8 h (p / 8)) - f_JL_bitCount (by8 h (p / 8)) / 2 * 2 = 0) ^^ bt h p) else bt h p
  | 0, _, p, _ => by simp [wop]
  | n + 1, hn, p, hp => by
    have ih := bt_wop h n (by omega) p hp
    show bt (if f_JL_bitCount (by8 h n) - f_JL_bitCount (by8 h n) / 2 * 2 = 0 then wop h n ^^^ ((1 : Int64) <<< ((nI (8 * n)).toInt64 &&& 63)) else wop h n) p = _
    by_cases he : p = 8 * n
    · have e1 : p / 8 = n := by omega
      rw [if_neg (by omega)] at ih
      rw [if_pos (show p % 8 = 0 ∧ p / 8 < n + 1 by omega), e1]
      by_cases hc : f_JL_bitCount (by8 h n) - f_JL_bitCount (by8 h n) / 2 * 2 = 0
      · rw [if_pos hc, bt_xor, bt_one (by omega) hp, ih, decide_eq_true he, decide_eq_true hc, Bool.xor_comm]
      · rw [if_neg hc, ih, decide_eq_false hc, Bool.false_xor]
    · have e1 : (p % 8 = 0 ∧ p / 8 < n + 1) = (p % 8 = 0 ∧ p / 8 < n) := by apply propext; omega
      have e2 : bt (if f_JL_bitCount (by8 h n) - f_JL_bitCount (by8 h n) / 2 * 2 = 0 then wop h n ^^^ ((1 : Int64) <<< ((nI (8 * n)).toInt64 &&& 63)) else wop h n) p = bt (wop h n) p := by
        by_cases hc : f_JL_bitCount (by8 h n) - f_JL_bitCount (by8 h n) / 2 * 2 = 0
        · rw [if_pos hc, bt_xor, bt_one (by omega) hp, decide_eq_false he, Bool.xor_false]
        · rw [if_neg hc]
      rw [e2, ih]
      simp only [e1]
theorem bt_254 : ∀ p, p < 64 → bt 254 p = decide (1 ≤ p ∧ p < 8) := by decide +kernel
theorem bt_mod (v : Int64) : ∀ n, n ≤ 8 → ∀ p, p < 64 → bt (mod_ v n) p = (decide (p < 8 * n) && if p % 8 = 0 then decide (oc (mby v (n - 1 - p / 8)) 7 - oc (mby v (n - 1 - p / 8)) 7 / 2 * 2 = 0) else bt (mby v (n - 1 - p / 8)) (p % 8))
  | 0, _, p, _ => by simp [mod_, bt_0]
  | n + 1, hn, p, hp => by
    show bt (((mod_ v n <<< ((8 : Int32).toInt64 &&& 63)) ||| (mby v n &&& 254)) ||| (if oc (mby v n) 7 - oc (mby v n) 7 / 2 * 2 = 0 then (1 : Int64) else 0)) p = _
    have e0 : ∀ (P : Prop) [Decidable P], bt (if P then (1 : Int64) else 0) p = (decide P && decide (p = 0)) := by
      intro P _
      by_cases hP : P
      · rw [if_pos hP, bt_1 p hp]; simp [hP]
      · rw [if_neg hP, bt_0]; simp [hP]
    rw [bt_or, bt_or, bt_shl (e := 8) 8 rfl (by decide), bt_and, bt_254 p hp, e0]
    by_cases h8 : p < 8
    · have e1 : n + 1 - 1 - p / 8 = n := by omega
      have e2 : p % 8 = p := by omega
      rw [e1, e2]
      by_cases h0 : p = 0
      · subst h0; simp
      · simp [h0, h8, show ¬ 8 ≤ p by omega, show 1 ≤ p by omega, show p < 8 * (n + 1) by omega]
    · rw [bt_mod v n (by omega) (p - 8) (by omega)]
      have e1 : n + 1 - 1 - p / 8 = n - 1 - (p - 8) / 8 := by omega
      have e2 : (p - 8) % 8 = p % 8 := by omega
      have e3 : (p - 8 < 8 * n) = (p < 8 * (n + 1)) := by apply propext; omega
      rw [e1, e2]
      simp [show 8 ≤ p by omega, hp, h8, show ¬ p = 0 by omega, e3]
theorem c_kk : ∀ i, i < 8 → kk (7 - i) = nI (8 * i) := by decide +kernel
theorem eq_odd (v : Int64) : f_P_withOddParity v = f_M_odd v := by
  show wop v 8 = mod_ v 8
  apply bt_ext
  intro p hp
  rw [bt_wop v 8 (by omega) p hp, bt_mod v 8 (by omega) p hp]
  have e1 : mby v (8 - 1 - p / 8) = by8 v (p / 8) := by
    unfold mby by8
    rw [show 8 - 1 - p / 8 = 7 - p / 8 by omega, c_kk _ (by omega)]
  rw [e1]
  have e2 : bt (by8 v (p / 8)) (p % 8) = bt v p := by
    unfold by8
    rw [bt_and, bt_255 _ (by omega), bt_shr _ rfl (by omega), show p % 8 + 8 * (p / 8) = p by omega]
    simp [show p % 8 < 8 by omega]
  by_cases h0 : p % 8 = 0
  · rw [if_pos ⟨h0, by omega⟩, if_pos h0]
    rw [h0] at e2
    rw [← e2]
    obtain ⟨c, hc, ec⟩ := by_nat ((v.toUInt64 >>> ((nI (8 * (p / 8))).toInt64.toUInt64 &&& Int64.toUInt64 63)).toInt64)
    have e3 : by8 v (p / 8) = Int64.ofNat c := ec
    rw [e3, c_par c hc]
    simp [show p < 8 * 8 by omega]
  · rw [if_neg (by omega), if_neg h0, e2]
    simp [show p < 8 * 8 by omega]
def ns (y : Int32) : Nat := y.toBitVec.toNat
theorem ns_inj {a b : Int32} (h : ns a = ns b) : a = b := Int32.toBitVec_inj.mp (BitVec.eq_of_toNat_eq h)
theorem ns_nI {n : Nat} (h : n < 2 ^ 32) : ns (nI n) = n := by show (BitVec.ofNat 32 n).toNat = n; rw [BitVec.toNat_ofNat]; exact Nat.mod_eq_of_lt h
theorem ns_add {a b : Int32} (h : ns a + ns b < 2 ^ 32) : ns (a + b) = ns a + ns b := by
  unfold ns at h ⊢
  rw [Int32.toBitVec_add, BitVec.toNat_add]; exact Nat.mod_eq_of_lt h
theorem ns_sub {a b : Int32} (h : ns b ≤ ns a) : ns (a - b) = ns a - ns b := by
  unfold ns at h ⊢
  rw [Int32.toBitVec_sub, BitVec.toNat_sub]
  have h1 := a.toBitVec.isLt
  have h2 := b.toBitVec.isLt
  omega
theorem ns_and (a b : Int32) : ns (a &&& b) = ns a &&& ns b := by unfold ns; rw [Int32.toBitVec_and, BitVec.toNat_and]
theorem ns_shr {x e : Int32} (n : Nat) (he : e = nI n) (hn : n < 32) : ns ((x.toUInt32 >>> (e.toUInt32 &&& Int32.toUInt32 31)).toInt32) = ns x / 2 ^ n := by
  subst he
  unfold ns
  show ((x.toUInt32 >>> ((nI n).toUInt32 &&& Int32.toUInt32 31)).toBitVec).toNat = _
  rw [UInt32.toBitVec_shiftRight]
  have h : (((nI n).toUInt32 &&& Int32.toUInt32 31).toBitVec % 32).toNat = n := by
    rw [BitVec.toNat_umod]; exact am_j n hn
  rw [BitVec.ushiftRight_eq', h, BitVec.toNat_ushiftRight, Nat.shiftRight_eq_div_pow]
  rfl
theorem land16 {a m : Nat} (ha : a < 16) (hm : m < 16) (y M : Nat) : (a + 16 * y) &&& (m + 16 * M) = (a &&& m) + 16 * (y &&& M) := by
  have h1 : ((a + 16 * y) &&& (m + 16 * M)) % 2 ^ 4 = a &&& m := by
    rw [Nat.and_mod_two_pow, show (a + 16 * y) % 2 ^ 4 = a by omega, show (m + 16 * M) % 2 ^ 4 = m by omega]
  have h2 : ((a + 16 * y) &&& (m + 16 * M)) / 2 ^ 4 = y &&& M := by
    rw [Nat.and_div_two_pow, show (a + 16 * y) / 2 ^ 4 = y by omega, show (m + 16 * M) / 2 ^ 4 = M by omega]
  omega
def lin6 (a b c d e f : Nat) : Nat := a + 16 * (b + 16 * (c + 16 * (d + 16 * (e + 16 * f))))
theorem land_6 {a b c d e f m M : Nat} (ha : a < 16) (hb : b < 16) (hc : c < 16) (hd : d < 16) (he : e < 16) (hf : f < 16) (m0 m1 m2 m3 m4 m5 : Nat) (h0 : m0 < 16) (h1 : m1 < 16) (h2 : m2 < 16) (h3 : m3 < 16) (h4 : m4 < 16) (h5 : m5 < 16) (hm : m = m0 + 16 * (m1 + 16 * (m2 + 16 * (m3 + 16 * (m4 + 16 * (m5 + 16 * M)))))) : lin6 a b c d e f &&& m = lin6 (a &&& m0) (b &&& m1) (c &&& m2) (d &&& m3) (e &&& m4) (f &&& m5) := by
  subst hm
  unfold lin6
  rw [land16 ha h0, land16 hb h1, land16 hc h2, land16 hd h3, land16 he h4]
  have := land16 hf h5 0 M
  rw [Nat.mul_zero, Nat.add_zero, Nat.zero_and, Nat.mul_zero, Nat.add_zero] at this
  rw [this]
def g4 (d : Nat) : Nat := d % 2 + (d / 2 % 2 + (d / 4 % 2 + d / 8 % 2))
theorem c_g1 : ∀ d, d < 16 → ∀ r, r < 2 → (d / 2 + 8 * r) &&& 5 = (d / 2) &&& 5 ∧ (d / 2) &&& 5 ≤ d ∧ d / 2 + 8 * r < 16 := by decide +kernel
theorem c_g2 : ∀ d, d < 16 → ∀ r, r < 4 → ((d - (d / 2 &&& 5)) / 4 + 4 * r) &&& 3 = (d - (d / 2 &&& 5)) / 4 ∧ (d - (d / 2 &&& 5)) / 4 + 4 * r < 16 ∧ (d - (d / 2 &&& 5)) < 16 ∧ ((d - (d / 2 &&& 5)) &&& 3) + (d - (d / 2 &&& 5)) / 4 = g4 d ∧ g4 d ≤ 4 := by decide +kernel
theorem pcf_split : ∀ i k n, pcf (i + k) n = pcf i (n % 2 ^ i) + pcf k (n / 2 ^ i)
  | 0, k, n => by simp [pcf]
  | i + 1, k, n => by
    rw [show i + 1 + k = (i + k) + 1 by omega]
    show n % 2 + pcf (i + k) (n / 2) = (n % 2 ^ (i + 1) % 2 + pcf i (n % 2 ^ (i + 1) / 2)) + pcf k (n / 2 ^ (i + 1))
    rw [pcf_split i k (n / 2), Nat.div_div_eq_div_mul, Nat.pow_succ]
    have e1 : n % (2 ^ i * 2) % 2 = n % 2 := Nat.mod_mul_left_mod n (2 ^ i) 2
    have e2 : n % (2 ^ i * 2) / 2 = n / 2 % 2 ^ i := by rw [Nat.mul_comm]; exact Nat.mod_mul_right_div_self n 2 (2 ^ i)
    rw [e1, e2, Nat.mul_comm 2 (2 ^ i)]; omega
theorem pcf_le : ∀ k n, pcf k n ≤ k
  | 0, _ => Nat.le_refl 0
  | k + 1, n => by show n % 2 + pcf k (n / 2) ≤ k + 1; have := pcf_le k (n / 2); omega
theorem pcf_4 (k n : Nat) : pcf (4 + k) n = g4 (n % 16) + pcf k (n / 16) := by
  rw [pcf_split 4 k n]
  show pcf 4 (n % 16) + pcf k (n / 16) = _
  rw [(show ∀ d, d < 16 → pcf 4 d = g4 d by decide +kernel) (n % 16) (by omega)]
theorem land_15 : ∀ x, x < 16 → x &&& 15 = x := by decide +kernel
theorem ones_nI {n : Nat} (h : n < 2 ^ 24) : f_JI_bitCount (nI n) = nI (pcn n) := by
  obtain ⟨d0, d1, d2, d3, d4, d5, k0, k1, k2, k3, k4, k5, hn⟩ : ∃ d0 d1 d2 d3 d4 d5, d0 < 16 ∧ d1 < 16 ∧ d2 < 16 ∧ d3 < 16 ∧ d4 < 16 ∧ d5 < 16 ∧ n = lin6 d0 d1 d2 d3 d4 d5 :=
    ⟨n % 16, n / 16 % 16, n / 256 % 16, n / 4096 % 16, n / 65536 % 16, n / 1048576, by omega, by omega, by omega, by omega, by omega, by omega, by unfold lin6; omega⟩
  have hx : ns (nI n) = lin6 d0 d1 d2 d3 d4 d5 := by rw [ns_nI (by omega), hn]
  have hp : pcn n = g4 d0 + g4 d1 + g4 d2 + g4 d3 + g4 d4 + g4 d5 := by
    show pcf (4 + (4 + (4 + (4 + (4 + (4 + 8)))))) n = _
    unfold lin6 at hn
    rw [pcf_4, pcf_4, pcf_4, pcf_4, pcf_4, pcf_4, show n % 16 = d0 by omega, show n / 16 % 16 = d1 by omega, show n / 16 / 16 % 16 = d2 by omega, show n / 16 / 16 / 16 % 16 = d3 by omega, show n / 16 / 16 / 16 / 16 % 16 = d4 by omega, show n / 16 / 16 / 16 / 16 / 16 % 16 = d5 by omega, show n / 16 / 16 / 16 / 16 / 16 / 16 = 0 by omega, pcf_0]
    omega
  apply ns_inj
  rw [ns_nI (by have := pcf_le 32 n; show pcf 32 n < _; omega), hp]
  unfold f_JI_bitCount
  generalize nI n = x at hx
  have h1 : ns ((x.toUInt32 >>> ((1 : Int32).toUInt32 &&& Int32.toUInt32 31)).toInt32 &&& 1431655765) = lin6 (d0 / 2 &&& 5) (d1 / 2 &&& 5) (d2 / 2 &&& 5) (d3 / 2 &&& 5) (d4 / 2 &&& 5) (d5 / 2 &&& 5) := by
    have q0 := c_g1 d0 k0 (d1 % 2) (by omega)
    have q1 := c_g1 d1 k1 (d2 % 2) (by omega)
    have q2 := c_g1 d2 k2 (d3 % 2) (by omega)
    have q3 := c_g1 d3 k3 (d4 % 2) (by omega)
    have q4 := c_g1 d4 k4 (d5 % 2) (by omega)
    have q5 := c_g1 d5 k5 0 (by omega)
    rw [ns_and, ns_shr (e := 1) 1 rfl (by decide), hx, show lin6 d0 d1 d2 d3 d4 d5 / 2 ^ 1 = lin6 (d0 / 2 + 8 * (d1 % 2)) (d1 / 2 + 8 * (d2 % 2)) (d2 / 2 + 8 * (d3 % 2)) (d3 / 2 + 8 * (d4 % 2)) (d4 / 2 + 8 * (d5 % 2)) (d5 / 2 + 8 * 0) by unfold lin6; omega,
      land_6 (m := ns 1431655765) (M := 85) q0.2.2 q1.2.2 q2.2.2 q3.2.2 q4.2.2 q5.2.2 5 5 5 5 5 5 (by decide) (by decide) (by decide) (by decide) (by decide) (by decide) (by decide +kernel), q0.1, q1.1, q2.1, q3.1, q4.1, q5.1]
  have q0 := c_g1 d0 k0 0 (by omega)
  have q1 := c_g1 d1 k1 0 (by omega)
  have q2 := c_g1 d2 k2 0 (by omega)
  have q3 := c_g1 d3 k3 0 (by omega)
  have q4 := c_g1 d4 k4 0 (by omega)
  have q5 := c_g1 d5 k5 0 (by omega)
  have hA1 : ns (x - ((x.toUInt32 >>> ((1 : Int32).toUInt32 &&& Int32.toUInt32 31)).toInt32 &&& 1431655765)) = lin6 (d0 - (d0 / 2 &&& 5)) (d1 - (d1 / 2 &&& 5)) (d2 - (d2 / 2 &&& 5)) (d3 - (d3 / 2 &&& 5)) (d4 - (d4 / 2 &&& 5)) (d5 - (d5 / 2 &&& 5)) := by
    rw [ns_sub (by rw [h1, hx]; unfold lin6; omega), h1, hx]
    unfold lin6; omega
  clear h1 hx hp
  generalize (x - ((x.toUInt32 >>> ((1 : Int32).toUInt32 &&& Int32.toUInt32 31)).toInt32 &&& 1431655765)) = A1 at hA1 ⊢
  have r0 := c_g2 d0 k0 ((d1 - (d1 / 2 &&& 5)) % 4) (by omega)
  have r1 := c_g2 d1 k1 ((d2 - (d2 / 2 &&& 5)) % 4) (by omega)
  have r2 := c_g2 d2 k2 ((d3 - (d3 / 2 &&& 5)) % 4) (by omega)
  have r3 := c_g2 d3 k3 ((d4 - (d4 / 2 &&& 5)) % 4) (by omega)
  have r4 := c_g2 d4 k4 ((d5 - (d5 / 2 &&& 5)) % 4) (by omega)
  have r5 := c_g2 d5 k5 0 (by omega)
  clear q0 q1 q2 q3 q4 q5 hn h
  generalize d0 - (d0 / 2 &&& 5) = e0 at *
  generalize d1 - (d1 / 2 &&& 5) = e1 at *
  generalize d2 - (d2 / 2 &&& 5) = e2 at *
  generalize d3 - (d3 / 2 &&& 5) = e3 at *
  generalize d4 - (d4 / 2 &&& 5) = e4 at *
  generalize d5 - (d5 / 2 &&& 5) = e5 at *
  have h2 : ns (A1 &&& 858993459) = lin6 (e0 &&& 3) (e1 &&& 3) (e2 &&& 3) (e3 &&& 3) (e4 &&& 3) (e5 &&& 3) := by
    rw [ns_and, hA1, land_6 (m := ns 858993459) (M := 51) r0.2.2.1 r1.2.2.1 r2.2.2.1 r3.2.2.1 r4.2.2.1 r5.2.2.1 3 3 3 3 3 3 (by decide) (by decide) (by decide) (by decide) (by decide) (by decide) (by decide +kernel)]
  have h3 : ns ((A1.toUInt32 >>> ((2 : Int32).toUInt32 &&& Int32.toUInt32 31)).toInt32 &&& 858993459) = lin6 (e0 / 4) (e1 / 4) (e2 / 4) (e3 / 4) (e4 / 4) (e5 / 4) := by
    rw [ns_and, ns_shr (e := 2) 2 rfl (by decide), hA1, show lin6 e0 e1 e2 e3 e4 e5 / 2 ^ 2 = lin6 (e0 / 4 + 4 * (e1 % 4)) (e1 / 4 + 4 * (e2 % 4)) (e2 / 4 + 4 * (e3 % 4)) (e3 / 4 + 4 * (e4 % 4)) (e4 / 4 + 4 * (e5 % 4)) (e5 / 4 + 4 * 0) by unfold lin6; omega,
      land_6 (m := ns 858993459) (M := 51) r0.2.1 r1.2.1 r2.2.1 r3.2.1 r4.2.1 r5.2.1 3 3 3 3 3 3 (by decide) (by decide) (by decide) (by decide) (by decide) (by decide) (by decide +kernel), r0.1, r1.1, r2.1, r3.1, r4.1, r5.1]
  have hA2 : ns ((A1 &&& 858993459) + ((A1.toUInt32 >>> ((2 : Int32).toUInt32 &&& Int32.toUInt32 31)).toInt32 &&& 858993459)) = lin6 (g4 d0) (g4 d1) (g4 d2) (g4 d3) (g4 d4) (g4 d5) := by
    rw [ns_add (by rw [h2, h3]; unfold lin6; omega), h2, h3]
    unfold lin6; omega
  clear h2 h3 hA1
  generalize ((A1 &&& 858993459) + ((A1.toUInt32 >>> ((2 : Int32).toUInt32 &&& Int32.toUInt32 31)).toInt32 &&& 858993459)) = A2 at hA2 ⊢
  have t0 := r0.2.2.2.2
  have t1 := r1.2.2.2.2
  have t2 := r2.2.2.2.2
  have t3 := r3.2.2.2.2
  have t4 := r4.2.2.2.2
  have t5 := r5.2.2.2.2
  clear r0 r1 r2 r3 r4 r5
  generalize g4 d0 = g0 at *
  generalize g4 d1 = g1 at *
  generalize g4 d2 = g2 at *
  generalize g4 d3 = g3 at *
  generalize g4 d4 = g4' at *
  generalize g4 d5 = g5 at *
  have h4 : ns ((A2.toUInt32 >>> ((4 : Int32).toUInt32 &&& Int32.toUInt32 31)).toInt32) = lin6 g1 g2 g3 g4' g5 0 := by
    rw [ns_shr (e := 4) 4 rfl (by decide), hA2]; unfold lin6; omega
  have h5 : ns (A2 + (A2.toUInt32 >>> ((4 : Int32).toUInt32 &&& Int32.toUInt32 31)).toInt32) = lin6 (g0 + g1) (g1 + g2) (g2 + g3) (g3 + g4') (g4' + g5) g5 := by
    rw [ns_add (by rw [hA2, h4]; unfold lin6; omega), hA2, h4]; unfold lin6; omega
  have hA3 : ns ((A2 + (A2.toUInt32 >>> ((4 : Int32).toUInt32 &&& Int32.toUInt32 31)).toInt32) &&& 252645135) = (g0 + g1) + 256 * (g2 + g3) + 65536 * (g4' + g5) := by
    rw [ns_and, h5, land_6 (m := ns 252645135) (M := 15) (by omega) (by omega) (by omega) (by omega) (by omega) (by omega) 15 0 15 0 15 0 (by decide) (by decide) (by decide) (by decide) (by decide) (by decide) (by decide +kernel), land_15 _ (by omega), land_15 _ (by omega), land_15 _ (by omega), Nat.and_zero, Nat.and_zero, Nat.and_zero]
    unfold lin6; omega
  clear h4 h5 hA2
  generalize ((A2 + (A2.toUInt32 >>> ((4 : Int32).toUInt32 &&& Int32.toUInt32 31)).toInt32) &&& 252645135) = A3 at hA3 ⊢
  have h6 : ns ((A3.toUInt32 >>> ((8 : Int32).toUInt32 &&& Int32.toUInt32 31)).toInt32) = (g2 + g3) + 256 * (g4' + g5) := by
    rw [ns_shr (e := 8) 8 rfl (by decide), hA3]; omega
  have hA4 : ns (A3 + (A3.toUInt32 >>> ((8 : Int32).toUInt32 &&& Int32.toUInt32 31)).toInt32) = (g0 + g1 + g2 + g3) + 256 * (g2 + g3 + g4' + g5) + 65536 * (g4' + g5) := by
    rw [ns_add (by rw [hA3, h6]; omega), hA3, h6]; omega
  clear h6 hA3
  generalize (A3 + (A3.toUInt32 >>> ((8 : Int32).toUInt32 &&& Int32.toUInt32 31)).toInt32) = A4 at hA4 ⊢
  have h7 : ns ((A4.toUInt32 >>> ((16 : Int32).toUInt32 &&& Int32.toUInt32 31)).toInt32) = g4' + g5 := by
    rw [ns_shr (e := 16) 16 rfl (by decide), hA4]; omega
  rw [ns_and, ns_add (by rw [hA4, h7]; omega), hA4, h7]
  show _ &&& (2 ^ 6 - 1) = _
  rw [Nat.and_two_pow_sub_one_eq_mod]
  omega
theorem odd_part : ∀ a : Nat, 0 < a → ∃ i d, a = 2 ^ i * (2 * d + 1) := by
  intro a
  induction a using Nat.strongRecOn with
  | _ a ih =>
    intro h
    by_cases h2 : a % 2 = 1
    · exact ⟨0, a / 2, by rw [Nat.pow_zero]; omega⟩
    · obtain ⟨i, d, e⟩ := ih (a / 2) (by omega) (by omega)
      refine ⟨i + 1, d, ?_⟩
      rw [Nat.pow_succ, Nat.mul_comm (2 ^ i) 2, Nat.mul_assoc, ← e]; omega
theorem low_bit {i d : Nat} (h : 2 ^ i * (2 * d + 1) < 2 ^ 32) : nI (2 ^ i * (2 * d + 1)) &&& -nI (2 ^ i * (2 * d + 1)) = nI (2 ^ i) := by
  have hp : 0 < 2 ^ i := Nat.two_pow_pos i
  have hi : 2 ^ i ≤ 2 ^ i * (2 * d + 1) := Nat.le_mul_of_pos_right _ (by omega)
  apply ns_inj
  rw [ns_and, ns_nI h, ns_nI (by omega)]
  have e1 : ns (-nI (2 ^ i * (2 * d + 1))) = 2 ^ 32 - (2 ^ i * (2 * d) + (2 ^ i - 1) + 1) := by
    unfold ns
    rw [Int32.toBitVec_neg, BitVec.toNat_neg]
    show (2 ^ 32 - ns (nI (2 ^ i * (2 * d + 1)))) % 2 ^ 32 = _
    rw [ns_nI h, Nat.mul_add, Nat.mul_one]
    rw [Nat.mul_add, Nat.mul_one] at h
    omega
  rw [e1]
  have hb : 2 ^ i * (2 * d) + (2 ^ i - 1) < 2 ^ 32 := by rw [Nat.mul_add, Nat.mul_one] at h; omega
  apply Nat.eq_of_testBit_eq
  intro j
  rw [Nat.testBit_and, Nat.testBit_two_pow_sub_succ hb, Nat.testBit_two_pow_mul, Nat.testBit_two_pow_mul_add _ (by omega), Nat.testBit_two_pow]
  by_cases h1 : j < i
  · simp [show ¬ i ≤ j by omega, show ¬ i = j by omega]
  · by_cases h2 : j = i
    · subst h2
      have hj : j < 32 := (Nat.pow_lt_pow_iff_right (a := 2) (by omega)).mp (Nat.lt_of_le_of_lt hi h)
      simp [hj]
    · obtain ⟨t, ht⟩ : ∃ t, j - i = t + 1 := ⟨j - i - 1, by omega⟩
      have e3 : (2 * d + 1).testBit (t + 1) = (2 * d).testBit (t + 1) := by
        rw [Nat.testBit_succ, Nat.testBit_succ]; congr 1; omega
      rw [ht, e3]
      simp [h1, show ¬ i = j by omega]
      exact fun _ h _ => h
theorem cff_stop (k : Nat) {c : Nat} (h : nI (pcn c) ≤ 10) : cff k c = c := by
  cases k with
  | zero => rfl
  | succ k => show (if nI (pcn c) ≤ 10 then c else cff k (c + 1)) = c; rw [if_pos h]
theorem cff_skip : ∀ t a, a + t ≤ 2097152 → (∀ b, a ≤ b → b < a + t → ¬ nI (pcn b) ≤ 10) → cff (2097152 - a) a = cff (2097152 - (a + t)) (a + t)
  | 0, a, _, _ => rfl
  | t + 1, a, h, hb => by
    have e := cff_skip t (a + 1) (by omega) (fun b h1 h2 => hb b (by omega) (by omega))
    rw [show 2097152 - a = (2097152 - (a + 1)) + 1 by omega]
    show (if nI (pcn a) ≤ 10 then a else cff (2097152 - (a + 1)) (a + 1)) = _
    rw [if_neg (hb a (by omega) (by omega)), e, show a + 1 + t = a + (t + 1) by omega]
theorem la_ok : ∀ k j, j + k = 22 → ∀ c, 2 ^ j * c ≤ 2097152 → la k (nI (2 ^ j * c)) = nI (cfn (2 ^ j * c))
  | 0, j, hj, c, hc => by
    have : c = 0 := by
      rw [show j = 22 by omega] at hc
      omega
    subst this
    show nI (2 ^ j * 0) = nI (cff (2097152 - 2 ^ j * 0) (2 ^ j * 0))
    rw [cff_stop]
    rw [Nat.mul_zero]; decide
  | k + 1, j, hj, c, hc => by
    have hone := ones_nI (n := 2 ^ j * c) (by omega)
    show (if f_JI_bitCount (nI (2 ^ j * c)) ≤ 10 then nI (2 ^ j * c) else la k (nI (2 ^ j * c) + (nI (2 ^ j * c) &&& -nI (2 ^ j * c)))) = nI (cff (2097152 - 2 ^ j * c) (2 ^ j * c))
    rw [hone]
    by_cases h10 : nI (pcn (2 ^ j * c)) ≤ 10
    · rw [if_pos h10, cff_stop _ h10]
    · rw [if_neg h10]
      have h0 : 0 < 2 ^ j * c := by
        apply Nat.pos_of_ne_zero
        intro e; rw [e] at h10; exact h10 (by decide)
      have h21 : 2 ^ j * c ≠ 2097152 := by intro e; rw [e] at h10; exact h10 (by decide +kernel)
      obtain ⟨i, d, e⟩ := odd_part _ h0
      have hij : j ≤ i := by
        apply Nat.le_of_not_lt
        intro hlt
        obtain ⟨t, ht⟩ : ∃ t, j = i + (t + 1) := ⟨j - i - 1, by omega⟩
        rw [ht, Nat.pow_add, Nat.mul_assoc] at e
        have e2 := Nat.eq_of_mul_eq_mul_left (Nat.two_pow_pos i) e
        rw [Nat.pow_succ, Nat.mul_comm (2 ^ t) 2, Nat.mul_assoc] at e2
        omega
      have hi21 : i < 21 := by
        have h1 : 2 ^ i ≤ 2 ^ i * (2 * d + 1) := Nat.le_mul_of_pos_right _ (by omega)
        exact (Nat.pow_lt_pow_iff_right (a := 2) (by omega)).mp (show 2 ^ i < 2 ^ 21 by omega)
      have hle : 2 ^ i * (2 * d + 1) + 2 ^ i ≤ 2097152 := by
        have h1 : 2 ^ i * (2 * d + 1) < 2 ^ i * 2 ^ (21 - i) := by rw [← Nat.pow_add, show i + (21 - i) = 21 by omega, ← e]; omega
        have h2 := Nat.lt_of_mul_lt_mul_left h1
        have h3 : 2 ^ i * (2 * d + 1 + 1) ≤ 2 ^ i * 2 ^ (21 - i) := Nat.mul_le_mul_left _ h2
        rw [← Nat.pow_add, show i + (21 - i) = 21 by omega, Nat.mul_add, Nat.mul_one] at h3
        exact h3
      have hnext : 2 ^ i * (2 * d + 1) + 2 ^ i = 2 ^ (j + 1) * (2 ^ (i - j) * (d + 1)) := by
        rw [← Nat.mul_assoc, ← Nat.pow_add, show j + 1 + (i - j) = i + 1 by omega, Nat.pow_succ, Nat.mul_assoc, Nat.mul_add, Nat.mul_add, Nat.mul_one]
        rw [← Nat.mul_add_one]
        rw [← Nat.mul_add]
        congr 1
      rw [e, low_bit (by omega), nI_add]
      have ih := la_ok k (j + 1) (by omega) (2 ^ (i - j) * (d + 1)) (by rw [← hnext]; exact hle)
      rw [← hnext] at ih
      rw [ih]
      show nI (cff (2097152 - (2 ^ i * (2 * d + 1) + 2 ^ i)) (2 ^ i * (2 * d + 1) + 2 ^ i)) = _
      rw [cff_skip (2 ^ i) (2 ^ i * (2 * d + 1)) hle]
      intro b hb1 hb2
      obtain ⟨r, hr⟩ : ∃ r, b = 2 ^ i * (2 * d + 1) + r := ⟨b - 2 ^ i * (2 * d + 1), by omega⟩
      have hr2 : r < 2 ^ i := by omega
      have hpa : pcn (2 ^ i * (2 * d + 1)) = pcf (32 - i) (2 * d + 1) := by
        show pcf 32 _ = _
        rw [show 32 = i + (32 - i) by omega, pcf_split, Nat.mul_mod_right, pcf_0, Nat.mul_div_cancel_left _ (Nat.two_pow_pos i), show i + (32 - i) - i = 32 - i by omega]
        omega
      have hpb : pcn b = pcf i r + pcf (32 - i) (2 * d + 1) := by
        show pcf 32 b = _
        rw [show 32 = i + (32 - i) by omega, pcf_split, hr, Nat.mul_add_mod, Nat.mod_eq_of_lt hr2, Nat.mul_add_div (Nat.two_pow_pos i), Nat.div_eq_of_lt hr2, show i + (32 - i) - i = 32 - i by omega]
      rw [e] at h10
      have h32a := pcf_le 32 (2 ^ i * (2 * d + 1))
      have h32b := pcf_le 32 b
      intro hx
      apply h10
      have hx2 : pcn b ≤ 10 := (nI_leI (a := pcn b) (b := 10) (by show pcf 32 b < _; omega) (by decide)).mp hx
      exact (nI_leI (a := pcn (2 ^ i * (2 * d + 1))) (b := 10) (by show pcf 32 _ < _; omega) (by decide)).mpr (by omega)
theorem eq_la {n : Nat} (h : n ≤ 2097152) : la 22 (nI n) = nI (cfn n) := by
  have := la_ok 22 0 rfl n (by omega)
  rwa [Nat.pow_zero, Nat.one_mul] at this
theorem cff_ge : ∀ k c, c ≤ cff k c ∧ cff k c ≤ c + k
  | 0, c => ⟨Nat.le_refl c, Nat.le_refl c⟩
  | k + 1, c => by
    show c ≤ (if nI (pcn c) ≤ 10 then c else cff k (c + 1)) ∧ (if nI (pcn c) ≤ 10 then c else cff k (c + 1)) ≤ c + (k + 1)
    have := cff_ge k (c + 1)
    by_cases h : nI (pcn c) ≤ 10
    · rw [if_pos h]; omega
    · rw [if_neg h]; omega
theorem cfn_le {n : Nat} (h : n ≤ 2097152) : n ≤ cfn n ∧ cfn n ≤ 2097152 := by
  have := cff_ge (2097152 - n) n
  show n ≤ cff _ _ ∧ cff _ _ ≤ _
  omega
