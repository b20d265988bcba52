def bt (x : Int64) (p : Nat) : Bool := x.toBitVec.getLsbD p
def bi (x : Int32) (p : Nat) : Bool := x.toBitVec.getLsbD p
theorem bt_ext {x y : Int64} (h : ∀ p, p < 64 → bt x p = bt y p) : x = y := Int64.toBitVec_inj.mp (BitVec.eq_of_getLsbD_eq h)
theorem bi_ext {x y : Int32} (h : ∀ p, p < 32 → bi x p = bi y p) : x = y := Int32.toBitVec_inj.mp (BitVec.eq_of_getLsbD_eq h)
theorem bt_hi {x : Int64} {p : Nat} (h : 64 ≤ p) : bt x p = false := BitVec.getLsbD_of_ge _ _ h
theorem bi_hi {x : Int32} {p : Nat} (h : 32 ≤ p) : bi x p = false := BitVec.getLsbD_of_ge _ _ h
theorem bt_or (x y : Int64) (p : Nat) : bt (x ||| y) p = (bt x p || bt y p) := by simp [bt, Int64.toBitVec_or]
theorem bt_and (x y : Int64) (p : Nat) : bt (x &&& y) p = (bt x p && bt y p) := by simp [bt, Int64.toBitVec_and]
theorem bt_xor (x y : Int64) (p : Nat) : bt (x ^^^ y) p = (bt x p ^^ bt y p) := by simp [bt, Int64.toBitVec_xor]
theorem bi_or (x y : Int32) (p : Nat) : bi (x ||| y) p = (bi x p || bi y p) := by simp [bi, Int32.toBitVec_or]
theorem bi_and (x y : Int32) (p : Nat) : bi (x &&& y) p = (bi x p && bi y p) := by simp [bi, Int32.toBitVec_and]
theorem bi_xor (x y : Int32) (p : Nat) : bi (x ^^^ y) p = (bi x p ^^ bi y p) := by simp [bi, Int32.toBitVec_xor]
theorem bt_0 (p : Nat) : bt 0 p = false := by simp [bt]
theorem bi_0 (p : Nat) : bi 0 p = false := by simp [bi]
theorem am_l : ∀ n, n < 64 → (((nI n).toInt64 &&& 63).toBitVec.smod 64) = BitVec.ofNat 64 n := by decide +kernel
theorem am_r : ∀ n, n < 64 → ((nI n).toInt64.toUInt64 &&& Int64.toUInt64 63).toNat % 64 = n := by decide +kernel
theorem am_i : ∀ n, n < 32 → ((nI n &&& 31).toBitVec.smod 32) = BitVec.ofNat 32 n := by decide +kernel
theorem bt_shl {x : Int64} {e : Int32} (n : Nat) (he : e = nI n) (hn : n < 64) (p : Nat) : bt (x <<< (e.toInt64 &&& 63)) p = (decide (n ≤ p ∧ p < 64) && bt x (p - n)) := by
  subst he
  unfold bt
  rw [Int64.toBitVec_shiftLeft, am_l n hn, BitVec.shiftLeft_eq', BitVec.toNat_ofNat, Nat.mod_eq_of_lt (show n < 2 ^ 64 by omega), BitVec.getLsbD_shiftLeft]
  by_cases h1 : p < 64 <;> by_cases h2 : p < n <;> simp [h1, h2] <;> omega
theorem bt_shr {x : Int64} {e : Int32} (n : Nat) (he : e = nI n) (hn : n < 64) (p : Nat) : bt ((x.toUInt64 >>> (e.toInt64.toUInt64 &&& Int64.toUInt64 63)).toInt64) p = bt x (p + n) := by
  subst he
  unfold bt
  show ((x.toUInt64 >>> ((nI n).toInt64.toUInt64 &&& Int64.toUInt64 63)).toBitVec).getLsbD p = _
  rw [UInt64.toBitVec_shiftRight]
  have h : (((nI n).toInt64.toUInt64 &&& Int64.toUInt64 63).toBitVec % 64).toNat = n := by
    rw [BitVec.toNat_umod]; exact am_r n hn
  rw [BitVec.ushiftRight_eq', h, BitVec.getLsbD_ushiftRight, Nat.add_comm]
  rfl
theorem bi_of (x : Int64) (p : Nat) : bi x.toInt32 p = (decide (p < 32) && bt x p) := by
  unfold bi bt
  show (BitVec.signExtend 32 x.toBitVec).getLsbD p = _
  rw [BitVec.getLsbD_signExtend]
  by_cases h : p < 32
  · simp [h, show p < 64 by omega]
  · simp [h]
theorem bt_of (x : Int32) (p : Nat) : bt x.toInt64 p = (decide (p < 64) && if p < 32 then bi x p else bi x 31) := by
  unfold bi bt
  show (BitVec.signExtend 64 x.toBitVec).getLsbD p = _
  rw [BitVec.getLsbD_signExtend]
  by_cases h : p < 32
  · simp [h, show p < 64 by omega]
  · simp [h, BitVec.msb_eq_getLsbD_last]
theorem bt_1 : ∀ p, p < 64 → bt 1 p = decide (p = 0) := by decide +kernel
theorem bt_shr1 (x : Int64) (p : Nat) : bt (x &&& 1) p = (decide (p = 0) && bt x 0) := by
  rw [bt_and]
  by_cases h : p < 64
  · rw [bt_1 p h]
    by_cases h0 : p = 0
    · subst h0; simp
    · simp [h0]
  · rw [bt_hi (by omega)]
    have : p ≠ 0 := by omega
    simp [this]
theorem bt_m28 : ∀ p, p < 64 → bt 268435455 p = decide (p < 28) := by decide +kernel
theorem bt_m32 : ∀ p, p < 64 → bt 4294967295 p = decide (p < 32) := by decide +kernel
theorem bt_15 : ∀ p, p < 64 → bt 15 p = decide (p < 4) := by decide +kernel
theorem bt_255 : ∀ p, p < 64 → bt 255 p = decide (p < 8) := by decide +kernel
theorem bi_63 : ∀ p, p < 32 → bi 63 p = decide (p < 6) := by decide +kernel
theorem bi_shl {x e : Int32} (n : Nat) (he : e &&& 31 = nI n &&& 31) (hn : n < 32) (p : Nat) : bi (x <<< (e &&& 31)) p = (decide (n ≤ p ∧ p < 32) && bi x (p - n)) := by
  rw [he]
  unfold bi
  rw [Int32.toBitVec_shiftLeft, am_i n hn, BitVec.shiftLeft_eq', BitVec.toNat_ofNat, Nat.mod_eq_of_lt (show n < 2 ^ 32 by omega), BitVec.getLsbD_shiftLeft]
  by_cases h1 : p < 32 <;> by_cases h2 : p < n <;> simp [h1, h2] <;> omega
theorem am_j : ∀ n, n < 32 → ((nI n).toUInt32 &&& Int32.toUInt32 31).toNat % 32 = n := by decide +kernel
theorem bi_shr {x e : Int32} (n : Nat) (he : e.toUInt32 &&& Int32.toUInt32 31 = (nI n).toUInt32 &&& Int32.toUInt32 31) (hn : n < 32) (p : Nat) : bi ((x.toUInt32 >>> (e.toUInt32 &&& Int32.toUInt32 31)).toInt32) p = bi x (p + n) := by
  rw [he]
  unfold bi
  show ((x.toUInt32 >>> ((nI n).toUInt32 &&& Int32.toUInt32 31)).toBitVec).getLsbD p = _
  rw [UInt32.toBitVec_shiftRight]
  have h : (((nI n).toUInt32 &&& Int32.toUInt32 31).toBitVec % 32).toNat = n := by
    rw [BitVec.toNat_umod]; exact am_j n hn
  rw [BitVec.ushiftRight_eq', h, BitVec.getLsbD_ushiftRight, Nat.add_comm]
  rfl
theorem bt_pk (v : Int64) (b : Int32) (f : Nat → Int32) (c : Nat → Nat) : ∀ n, n ≤ 64 → (∀ i, i < n → b - f i = nI (c i) ∧ c i < 64) → ∀ p, p < 64 → bt (pk v b f n) p = (decide (p < n) && bt v (c (n - 1 - p)))
  | 0, _, _, p, _ => by simp [pk, bt_0]
  | n + 1, hn, hc, p, hp => by
    have hcn := hc n (by omega)
    show bt ((pk v b f n <<< ((1 : Int32).toInt64 &&& 63)) ||| (((v.toUInt64 >>> ((b - f n).toInt64.toUInt64 &&& Int64.toUInt64 63)).toInt64) &&& 1)) p = _
    rw [bt_or, bt_shr1, bt_shr (c n) hcn.1 hcn.2, bt_shl (e := 1) 1 rfl (by decide), Nat.zero_add]
    by_cases h0 : p = 0
    · subst h0; simp
    · rw [bt_pk v b f c n (by omega) (fun i hi => hc i (by omega)) (p - 1) (by omega)]
      have e1 : n - 1 - (p - 1) = n + 1 - 1 - p := by omega
      rw [e1]
      have e2 : (p - 1 < n) = (p < n + 1) := by apply propext; omega
      have e3 : (1 ≤ p ∧ p < 64) := by omega
      simp [h0, e2, e3]
theorem pk_congr {v : Int64} {b : Int32} {f g : Nat → Int32} : ∀ n, (∀ i, i < n → f i = g i) → pk v b f n = pk v b g n
  | 0, _ => rfl
  | n + 1, h => by
    show (pk v b f n <<< ((1 : Int32).toInt64 &&& 63)) ||| (((v.toUInt64 >>> ((b - f n).toInt64.toUInt64 &&& Int64.toUInt64 63)).toInt64) &&& 1) = (pk v b g n <<< ((1 : Int32).toInt64 &&& 63)) ||| (((v.toUInt64 >>> ((b - g n).toInt64.toUInt64 &&& Int64.toUInt64 63)).toInt64) &&& 1)
    rw [pk_congr n (fun i hi => h i (by omega)), h n (by omega)]
