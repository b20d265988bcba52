/-! the two DES are one -/
def cI (t : Nat → Int32) (b : Int32) (i : Nat) : Nat := (b - t i).toNatClampNeg
theorem c_ini : ∀ i, i < 64 → tb_INITIAL i = mini i := by decide +kernel
theorem c_fin : ∀ i, i < 64 → (64 : Int32) - tb_FINAL i = nI (cI tb_FINAL 64 i) ∧ cI tb_FINAL 64 i < 64 := by decide +kernel
theorem c_kc : ∀ i, i < 56 → tb_KEY_CHOICE i = tb_c1 i := by decide +kernel
theorem c_c1 : ∀ i, i < 56 → (64 : Int32) - tb_c1 i = nI (cI tb_c1 64 i) ∧ cI tb_c1 64 i < 64 := by decide +kernel
theorem c_rc : ∀ i, i < 48 → tb_ROUND_CHOICE i = tb_c2 i := by decide +kernel
theorem c_kt : ∀ i, i < 16 → tb_KEY_TURNS i = mturn i := by decide +kernel
theorem c_pm : ∀ i, i < 32 → (32 : Int32) - tb_perm i = nI (cI tb_perm 32 i) ∧ cI tb_perm 32 i < 64 := by decide +kernel
theorem c_mi : ∀ k, k < 64 → (64 : Int32) - mini k = nI (64 - mini k).toNatClampNeg ∧ (64 - mini k).toNatClampNeg < 64 := by decide +kernel
theorem c_iv : ∀ k, k < 64 → ∀ q, q < 64 → (decide ((64 - mini k).toNatClampNeg = q) = decide (63 - cI tb_FINAL 64 (63 - q) = k)) := by decide +kernel
theorem bt_mout (v : Int64) : ∀ n, n ≤ 64 → ∀ q, q < 64 → bt (mout v n) q = (decide (63 - cI tb_FINAL 64 (63 - q) < n) && bt v (63 - (63 - cI tb_FINAL 64 (63 - q))))
  | 0, _, q, hq => by simp [mout, bt_0]
  | n + 1, hn, q, hq => by
    show bt (mout v n ||| (f_M_bit v (nI n + 1) 64 <<< ((64 - mini n).toInt64 &&& 63))) q = _
    rw [bt_or, bt_mout v n (by omega) q hq, bt_shl _ (c_mi n (by omega)).1 (c_mi n (by omega)).2]
    have e1 : (64 : Int32) - (nI n + 1) = nI (63 - n) := (show ∀ n, n < 64 → (64 : Int32) - (nI n + 1) = nI (63 - n) by decide +kernel) n (by omega)
    unfold f_M_bit
    rw [bt_shr1, bt_shr (63 - n) e1 (by omega), Nat.zero_add]
    have e2 := c_iv n (by omega) q hq
    generalize (64 - mini n).toNatClampNeg = u at e2 ⊢
    generalize 63 - cI tb_FINAL 64 (63 - q) = w at e2 ⊢
    by_cases hw : w = n
    · have hu : u = q := by simpa [hw] using e2
      subst hw; subst hu
      simp [hq]
    · have hu : ¬ u = q := by intro h; rw [h] at e2; simp [hw] at e2
      have : ¬ (w < n + 1 ∧ ¬ w < n) := by omega
      by_cases h3 : w < n
      · have h4 : w < n + 1 := by omega
        have h5 : ¬ (u ≤ q ∧ q - u = 0) := by omega
        simp only [h3, h4, decide_true, Bool.true_and]
        by_cases h6 : u ≤ q <;> by_cases h7 : q - u = 0 <;> simp [h6, h7]
        exact absurd ⟨h6, h7⟩ h5
      · have h4 : ¬ w < n + 1 := by omega
        have h5 : ¬ (u ≤ q ∧ q - u = 0) := by omega
        simp only [h3, h4, decide_false, Bool.false_and, Bool.false_or]
        by_cases h6 : u ≤ q <;> by_cases h7 : q - u = 0 <;> simp [h6, h7]
        exact absurd ⟨h6, h7⟩ h5
theorem eq_out (v : Int64) : mout v 64 = pk v 64 tb_FINAL 64 := by
  apply bt_ext
  intro q hq
  rw [bt_mout v 64 (by omega) q hq, bt_pk v 64 tb_FINAL _ 64 (by omega) c_fin q hq]
  have h := (c_fin (63 - q) (by omega)).2
  have e1 : 63 - (63 - cI tb_FINAL 64 (63 - q)) = cI tb_FINAL 64 (63 - q) := by omega
  rw [e1]
  simp [hq, show 63 - cI tb_FINAL 64 (63 - q) < 64 by omega]
theorem eq_hi (k : Int64) : ∀ i, i ≤ 16 → khi k i = mhi k i
  | 0, _ => by
    show ((kch k).toUInt64 >>> ((28 : Int32).toInt64.toUInt64 &&& Int64.toUInt64 63)).toInt64 = pk k 64 tb_c1 28
    apply bt_ext
    intro p hp
    rw [bt_shr (e := 28) 28 rfl (by decide), bt_pk k 64 tb_c1 _ 28 (by omega) (fun i hi => c_c1 i (by omega)) p hp]
    unfold kch
    rw [pk_congr 56 c_kc]
    by_cases h : p + 28 < 64
    · rw [bt_pk k 64 tb_c1 _ 56 (by omega) c_c1 (p + 28) h]
      have e1 : 56 - 1 - (p + 28) = 28 - 1 - p := by omega
      have e2 : (p + 28 < 56) = (p < 28) := by apply propext; omega
      rw [e1]; simp [e2]
    · rw [bt_hi (by omega)]
      simp [show ¬ p < 28 by omega]
  | i + 1, h => by
    show f_D_turned (khi k i) (tb_KEY_TURNS i) = mrot (mhi k i) (mturn i)
    rw [eq_hi k i (by omega), c_kt i (by omega)]; rfl
theorem eq_lo (k : Int64) : ∀ i, i ≤ 16 → klo k i = mlo k i
  | 0, _ => by
    show (kch k) &&& 268435455 = pk k 64 (fun j => tb_c1 (28 + j)) 28
    apply bt_ext
    intro p hp
    rw [bt_and, bt_m28 p hp, bt_pk k 64 (fun j => tb_c1 (28 + j)) (fun j => cI tb_c1 64 (28 + j)) 28 (by omega) (fun i hi => c_c1 (28 + i) (by omega)) p hp]
    unfold kch
    rw [pk_congr 56 c_kc, bt_pk k 64 tb_c1 _ 56 (by omega) c_c1 p hp]
    by_cases h : p < 28
    · have e1 : 56 - 1 - p = 28 + (28 - 1 - p) := by omega
      rw [e1]; simp [h, show p < 56 by omega]
    · simp [h]
  | i + 1, h => by
    show f_D_turned (klo k i) (tb_KEY_TURNS i) = mrot (mlo k i) (mturn i)
    rw [eq_lo k i (by omega), c_kt i (by omega)]; rfl
theorem eq_rk (k : Int64) {i : Nat} (h : i < 16) : rkOf k i = mrk k i := by
  unfold rkOf mrk mbo
  rw [eq_hi k (i + 1) (by omega), eq_lo k (i + 1) (by omega)]
  exact pk_congr 48 c_rc
def Zx (h : Int32) (a : Int64) : Prop := ∀ p, bt a p = bi h p
theorem c_mf : ∀ s, s < 8 → ∀ k, k < 6 → (32 : Int32) - mfr s k = nI ((64 - 4 * s - k) % 32) := by decide +kernel
theorem c_kf : ∀ s, s < 8 → ∀ k, k < 6 → (48 : Int32) - (6 * nI s + nI k + 1) = nI (47 - 6 * s - k) := by decide +kernel
theorem bi_msx (a b : Int64) {s : Nat} (hs : s < 8) : ∀ n, n ≤ 6 → ∀ p, bi (msx a b s n) p = (decide (p < n) && (bt a ((64 - 4 * s - (n - 1 - p)) % 32) ^^ bt b (47 - 6 * s - (n - 1 - p))))
  | 0, _, p => by simp [msx, bi_0]
  | n + 1, hn, p => by
    by_cases hp : p < 32
    · show bi ((msx a b s n <<< (1 &&& 31)) ||| (f_M_bit a (mfr s n) 32 ^^^ f_M_bit b (6 * nI s + nI n + 1) 48).toInt32) p = _
      rw [bi_or, bi_shl (e := 1) 1 rfl (by decide), bi_of, bt_xor]
      unfold f_M_bit
      rw [bt_shr1, bt_shr1, bt_shr _ (c_mf s hs n (by omega)) (by omega), bt_shr _ (c_kf s hs n (by omega)) (by omega), Nat.zero_add, Nat.zero_add, bi_msx a b hs n (by omega) (p - 1)]
      by_cases h0 : p = 0
      · subst h0; simp
      · have e1 : n - 1 - (p - 1) = n + 1 - 1 - p := by omega
        rw [e1]
        have e2 : (p - 1 < n) = (p < n + 1) := by apply propext; omega
        have e3 : (1 ≤ p ∧ p < 32) := by omega
        simp [h0, e2, e3]
    · rw [bi_hi (by omega)]
      simp [show ¬ p < n + 1 by omega]
theorem c_r1 : ∀ s, s < 8 → (4 * nI s + 5) &&& 31 = nI ((4 * s + 5) % 32) &&& 31 := by decide +kernel
theorem c_r2 : ∀ s, s < 8 → (32 - (4 * nI s + 5)).toUInt32 &&& Int32.toUInt32 31 = (nI ((59 - 4 * s) % 32)).toUInt32 &&& Int32.toUInt32 31 := by decide +kernel
theorem c_r3 : ∀ s, s < 8 → (42 : Int32) - 6 * nI s = nI (42 - 6 * s) := by decide +kernel
theorem eq_ix {h : Int32} {a : Int64} (hz : Zx h a) (b : Int64) {s : Nat} (hs : s < 8) : (((h <<< ((4 * nI s + 5) &&& 31)) ||| (h.toUInt32 >>> ((32 - (4 * nI s + 5)).toUInt32 &&& Int32.toUInt32 31)).toInt32) &&& 63 ^^^ (((b.toUInt64 >>> ((42 - 6 * nI s).toInt64.toUInt64 &&& Int64.toUInt64 63)).toInt64.toInt32) &&& 63)) = msx a b s 6 := by
  apply bi_ext
  intro p hp
  rw [bi_msx a b hs 6 (by omega) p, bi_xor, bi_and, bi_and, bi_63 p hp, bi_or, bi_shl _ (c_r1 s hs) (by omega), bi_shr _ (c_r2 s hs) (by omega), bi_of, bt_shr _ (c_r3 s hs) (by omega)]
  by_cases h6 : p < 6
  · simp only [h6, hp, decide_true, Bool.and_true, Bool.true_and]
    rw [hz, show 47 - 6 * s - (6 - 1 - p) = p + (42 - 6 * s) by omega]
    congr 1
    by_cases h7 : (4 * s + 5) % 32 ≤ p
    · have e1 : p - (4 * s + 5) % 32 = (64 - 4 * s - (6 - 1 - p)) % 32 := by omega
      rw [e1]
      have e2 : ((4 * s + 5) % 32 ≤ p ∧ p < 32) := ⟨h7, hp⟩
      have e3 : bi h (p + (59 - 4 * s) % 32) = bi h ((64 - 4 * s - (6 - 1 - p)) % 32) ∨ bi h (p + (59 - 4 * s) % 32) = false := by
        by_cases h8 : 32 ≤ p + (59 - 4 * s) % 32
        · exact Or.inr (bi_hi h8)
        · exact Or.inl (congrArg (bi h) (by omega))
      rcases e3 with e3 | e3 <;> rw [e3] <;> simp [e2]
    · have e1 : p + (59 - 4 * s) % 32 = (64 - 4 * s - (6 - 1 - p)) % 32 := by omega
      rw [e1]
      simp [h7]
  · simp [h6]
def mP (q : Nat) : Nat := ([11, 17, 5, 27, 25, 10, 20, 0, 13, 21, 3, 28, 29, 7, 18, 24, 31, 22, 12, 6, 26, 2, 16, 8, 14, 30, 4, 19, 1, 9, 15, 23] : List Nat).getD q 0
def spb (s : Nat) (v : Nat) : Nat := (if v.testBit 0 then 2 ^ mP (28 - 4 * s) else 0) ||| (if v.testBit 1 then 2 ^ mP (29 - 4 * s) else 0) ||| (if v.testBit 2 then 2 ^ mP (30 - 4 * s) else 0) ||| (if v.testBit 3 then 2 ^ mP (31 - 4 * s) else 0)
def mixN (s x : Nat) : Nat := 64 * s + 16 * (x / 32 * 2 + x % 2) + x / 2 % 16
theorem c_bx : ∀ s, s < 8 → ∀ x, x < 64 → (tb_BOXES (64 * s + x)).toBitVec.toNat = spb s (tb_box (mixN s x)).toBitVec.toNat := by decide +kernel
theorem c_b16 : ∀ j, j < 512 → (tb_box j).toBitVec.toNat < 16 := by decide +kernel
theorem c_mx : ∀ s, s < 8 → ∀ x, x < 64 → (mix (nI x) s).toNatClampNeg = mixN s x ∧ (64 * nI s + nI x).toNatClampNeg = 64 * s + x ∧ mixN s x < 512 := by decide +kernel
theorem c_q : ∀ p, p < 32 → cI tb_perm 32 (31 - p) < 32 := by decide +kernel
theorem c_qm : ∀ p, p < 32 → ∀ q, q < 32 → decide (mP q = p) = decide (q = cI tb_perm 32 (31 - p)) := by decide +kernel
theorem bi_nat (x : Int32) (p : Nat) : bi x p = x.toBitVec.toNat.testBit p := rfl
theorem msx_6 (a b : Int64) {s : Nat} (hs : s < 8) : ∃ x, x < 64 ∧ msx a b s 6 = nI x := by
  refine ⟨(msx a b s 6).toBitVec.toNat, ?_, ?_⟩
  · apply Nat.lt_pow_two_of_testBit (n := 6)
    intro i hi
    rw [← bi_nat, bi_msx a b hs 6 (by omega) i]
    simp [show ¬ i < 6 by omega]
  · apply Int32.toBitVec_inj.mp
    show _ = BitVec.ofNat 32 _
    rw [BitVec.ofNat_toNat, BitVec.setWidth_eq]
def Bv (a b : Int64) (s : Nat) : Int32 := tb_box (mix (msx a b s 6) s).toNatClampNeg
theorem Bv_hi (a b : Int64) {s : Nat} (hs : s < 8) {p : Nat} (hp : 4 ≤ p) : bi (Bv a b s) p = false := by
  obtain ⟨x, hx, ex⟩ := msx_6 a b hs
  have h := c_mx s hs x hx
  unfold Bv
  rw [ex, h.1, bi_nat]
  exact Nat.testBit_lt_two_pow (Nat.lt_of_lt_of_le (c_b16 _ h.2.2) (Nat.pow_le_pow_right (n := 2) (by omega) hp))
theorem bt_mou (a b : Int64) : ∀ n, n ≤ 8 → ∀ q, q < 64 → bt (mou a b n) q = (decide (q < 4 * n) && bi (Bv a b (n - 1 - q / 4)) (q % 4))
  | 0, _, q, hq => by simp [mou, bt_0]
  | n + 1, hn, q, hq => by
    show bt ((mou a b n <<< ((4 : Int32).toInt64 &&& 63)) ||| (Bv a b n).toInt64) q = _
    rw [bt_or, bt_shl (e := 4) 4 rfl (by decide), bt_of]
    by_cases h4 : q < 4
    · have e1 : n + 1 - 1 - q / 4 = n := by omega
      rw [e1, Nat.mod_eq_of_lt h4]
      simp [show ¬ 4 ≤ q by omega, hq, show q < 32 by omega, show q < 4 * (n + 1) by omega]
    · rw [bt_mou a b n (by omega) (q - 4) (by omega)]
      have e1 : n + 1 - 1 - q / 4 = n - 1 - (q - 4) / 4 := by omega
      have e2 : (q - 4) % 4 = q % 4 := by omega
      have e3 : (q - 4 < 4 * n) = (q < 4 * (n + 1)) := by apply propext; omega
      rw [e1, e2, Bv_hi a b (by omega) (show 4 ≤ 31 by omega), Bv_hi a b (by omega) (show 4 ≤ q by omega)]
      simp [show 4 ≤ q by omega, hq, e3]
theorem bx_bit {h : Int32} {a : Int64} (hz : Zx h a) (b : Int64) {s p : Nat} (hs : s < 8) (hp : p < 32) : bi (tb_BOXES (bxi h b s).toNatClampNeg) p = (decide (7 - cI tb_perm 32 (31 - p) / 4 = s) && bi (Bv a b s) (cI tb_perm 32 (31 - p) % 4)) := by
  obtain ⟨x, hx, ex⟩ := msx_6 a b hs
  have hm := c_mx s hs x hx
  have e0 : bxi h b s = 64 * nI s + nI x := by
    unfold bxi
    rw [eq_ix hz b hs, ex]
  have hq := c_q p hp
  have hqm := c_qm p hp
  rw [e0, hm.2.1, bi_nat, c_bx s hs x hx]
  unfold Bv
  rw [ex, hm.1, bi_nat]
  generalize (tb_box (mixN s x)).toBitVec.toNat = v
  generalize cI tb_perm 32 (31 - p) = q at hq hqm ⊢
  have one : ∀ (c : Bool) (m : Nat), (if c = true then 2 ^ m else 0).testBit p = (c && decide (m = p)) := by
    intro c m
    cases c
    · simp
    · simp [Nat.testBit_two_pow]
  unfold spb
  rw [Nat.testBit_or, Nat.testBit_or, Nat.testBit_or, one, one, one, one, hqm _ (by omega), hqm _ (by omega), hqm _ (by omega), hqm _ (by omega)]
  by_cases h7 : 7 - q / 4 = s
  · have hr : q % 4 = 0 ∨ q % 4 = 1 ∨ q % 4 = 2 ∨ q % 4 = 3 := by omega
    rcases hr with hr | hr | hr | hr
    · rw [hr]; simp [h7, show 28 - 4 * s = q by omega, show ¬ 29 - 4 * s = q by omega, show ¬ 30 - 4 * s = q by omega, show ¬ 31 - 4 * s = q by omega]
    · rw [hr]; simp [h7, show ¬ 28 - 4 * s = q by omega, show 29 - 4 * s = q by omega, show ¬ 30 - 4 * s = q by omega, show ¬ 31 - 4 * s = q by omega]
    · rw [hr]; simp [h7, show ¬ 28 - 4 * s = q by omega, show ¬ 29 - 4 * s = q by omega, show 30 - 4 * s = q by omega, show ¬ 31 - 4 * s = q by omega]
    · rw [hr]; simp [h7, show ¬ 28 - 4 * s = q by omega, show ¬ 29 - 4 * s = q by omega, show ¬ 30 - 4 * s = q by omega, show 31 - 4 * s = q by omega]
  · simp [h7, show ¬ 28 - 4 * s = q by omega, show ¬ 29 - 4 * s = q by omega, show ¬ 30 - 4 * s = q by omega, show ¬ 31 - 4 * s = q by omega]
theorem eq_boxed {h : Int32} {a : Int64} (hz : Zx h a) (b : Int64) : Zx (f_D_boxed h b) (mang a b) := by
  intro p
  by_cases hp : p < 32
  · have hq := c_q p hp
    unfold mang
    rw [bt_pk (mou a b 8) 32 tb_perm _ 32 (by omega) c_pm p (by omega)]
    have e1 : 32 - 1 - p = 31 - p := by omega
    rw [e1, bt_mou a b 8 (by omega) _ (by omega)]
    show _ = bi (bxd h b 8) p
    simp only [bxd, bi_or, bi_0]
    rw [bx_bit hz b (show 0 < 8 by omega) hp, bx_bit hz b (show 1 < 8 by omega) hp, bx_bit hz b (show 2 < 8 by omega) hp, bx_bit hz b (show 3 < 8 by omega) hp, bx_bit hz b (show 4 < 8 by omega) hp, bx_bit hz b (show 5 < 8 by omega) hp, bx_bit hz b (show 6 < 8 by omega) hp, bx_bit hz b (show 7 < 8 by omega) hp]
    generalize cI tb_perm 32 (31 - p) = q at hq ⊢
    simp only [hp, show q < 4 * 8 by omega, decide_true, Bool.true_and, show 8 - 1 - q / 4 = 7 - q / 4 by omega]
    have h8 : 7 - q / 4 = 0 ∨ 7 - q / 4 = 1 ∨ 7 - q / 4 = 2 ∨ 7 - q / 4 = 3 ∨ 7 - q / 4 = 4 ∨ 7 - q / 4 = 5 ∨ 7 - q / 4 = 6 ∨ 7 - q / 4 = 7 := by omega
    rcases h8 with h8 | h8 | h8 | h8 | h8 | h8 | h8 | h8 <;> rw [h8] <;> simp
  · rw [bi_hi (by omega)]
    unfold mang
    by_cases h64 : p < 64
    · rw [bt_pk (mou a b 8) 32 tb_perm _ 32 (by omega) c_pm p h64]; simp [hp]
    · exact bt_hi (by omega)
theorem eq_dp (k : Int64) (ix : Nat → Nat) (hix : ∀ i, i < 16 → ix i < 16) (m : Int64) : ∀ i, i ≤ 16 → Zx (dnp k ix m i).1 (mdp k ix m i).1 ∧ Zx (dnp k ix m i).2 (mdp k ix m i).2
  | 0, _ => by
    constructor
    · intro p
      show bt ((m.toUInt64 >>> ((32 : Int32).toInt64.toUInt64 &&& Int64.toUInt64 63)).toInt64) p = bi (((m.toUInt64 >>> ((32 : Int32).toInt64.toUInt64 &&& Int64.toUInt64 63)).toInt64).toInt32) p
      rw [bi_of, bt_shr (e := 32) 32 rfl (by decide)]
      by_cases h : p < 32
      · simp [h]
      · rw [bt_hi (by omega)]; simp
    · intro p
      show bt (m &&& 4294967295) p = bi m.toInt32 p
      rw [bi_of, bt_and]
      by_cases h : p < 64
      · rw [bt_m32 p h, Bool.and_comm]
      · rw [bt_hi (by omega)]; simp
  | i + 1, h => by
    have ih := eq_dp k ix hix m i (by omega)
    refine ⟨ih.2, ?_⟩
    intro p
    show bt ((mdp k ix m i).1 ^^^ mang (mdp k ix m i).2 (mrk k (ix i))) p = bi ((dnp k ix m i).1 ^^^ f_D_boxed (dnp k ix m i).2 (rkOf k (ix i))) p
    rw [bt_xor, bi_xor, eq_rk k (hix i (by omega)), ih.1 p, eq_boxed ih.2 _ p]
theorem eq_join {x : Int32 × Int32} {y : Int64 × Int64} (h1 : Zx x.1 y.1) (h2 : Zx x.2 y.2) : (x.2.toInt64 <<< ((32 : Int32).toInt64 &&& 63)) ||| (x.1.toInt64 &&& (4294967295 : Int64)) = mjo y := by
  unfold mjo
  apply bt_ext
  intro p hp
  rw [bt_or, bt_or, bt_and, bt_shl (e := 32) 32 rfl (by decide), bt_shl (e := 32) 32 rfl (by decide), bt_m32 p hp, bt_of, bt_of, h1, h2]
  by_cases h32 : p < 32
  · simp [h32, hp, show ¬ 32 ≤ p by omega]
  · simp [h32, hp, show 32 ≤ p by omega, show p - 32 < 32 by omega, show p - 32 < 64 by omega, bi_hi (show 32 ≤ p by omega)]
theorem eq_des (k : Int64) (ix : Nat → Nat) (hix : ∀ i, i < 16 → ix i < 16) (b : Int64) : f_des k ix b = f_mdes k ix b := by
  unfold f_des f_mdes
  rw [eq_out, pk_congr (v := b) (b := 64) 64 c_ini]
  have h := eq_dp k ix hix (pk b 64 mini 64) 16 (by omega)
  rw [eq_join h.1 h.2]
theorem eq_enc (k b : Int64) : enc k b = menc k b := eq_des k _ (fun _ h => h) b
theorem eq_dec (k b : Int64) : dec k b = mdec k b := eq_des k _ (fun _ h => by show 15 - _ < 16; omega) b
theorem eq_sealB (l r b : Int64) : sealB l r b = f_M_sealBlock l r b := by unfold sealB f_M_sealBlock; rw [eq_enc, eq_enc, eq_dec]
theorem eq_openB (l r b : Int64) : openB l r b = f_M_openBlock l r b := by unfold openB f_M_openBlock; rw [eq_enc, eq_dec, eq_dec]
theorem eq_chk (l r : Int64) : chkV l r = f_M_checkOf l r := by unfold chkV f_M_checkOf; rw [eq_sealB]
