/-! ===== longs by their bits ===== -/
def lnat (x : Int64) : Nat := x.toBitVec.toNat
theorem lnat_lt (x : Int64) : lnat x < 2 ^ 64 := x.toBitVec.isLt
theorem lnat_inj {x y : Int64} (h : lnat x = lnat y) : x = y := Int64.toBitVec_inj.mp (BitVec.eq_of_toNat_eq h)
theorem ln_i {k : Nat} (h : k < 2147483648) : lnat ((nI k).toInt64) = k := by
  rw [zL_n2l h]
  show (Int64.ofInt (k : Int)).toBitVec.toNat = k
  have : (Int64.ofInt (k : Int)).toBitVec = BitVec.ofInt 64 (k : Int) := rfl
  rw [this, BitVec.toNat_ofInt]
  omega
theorem ln_or (x y : Int64) : lnat (x ||| y) = lnat x ||| lnat y := by
  have : (x ||| y).toBitVec = x.toBitVec ||| y.toBitVec := rfl
  unfold lnat
  rw [this, BitVec.toNat_or]
theorem ln_and (x y : Int64) : lnat (x &&& y) = lnat x &&& lnat y := by
  have : (x &&& y).toBitVec = x.toBitVec &&& y.toBitVec := rfl
  unfold lnat
  rw [this, BitVec.toNat_and]
theorem gshl_bv (x : Int64) {k : Nat} (h : k < 64) : (gshl x (nI k)).toBitVec = x.toBitVec <<< k := by
  have h1 : ((nI k).toInt64 &&& 63 : Int64) = (nI k).toInt64 := by
    apply lnat_inj
    rw [ln_and, ln_i (by omega)]
    have : lnat 63 = 2 ^ 6 - 1 := by decide
    rw [this, Nat.and_two_pow_sub_one_eq_mod, Nat.mod_eq_of_lt (by omega)]
  unfold gshl
  rw [h1, Int64.toBitVec_shiftLeft]
  have h2 : ((nI k).toInt64.toBitVec.smod 64) = BitVec.ofNat 64 k := by
    rw [zL_n2l (by omega)]
    have h3 : ∀ k : Nat, k < 64 → ((zL (k : Int)).toBitVec.smod 64) = BitVec.ofNat 64 k := by decide +kernel
    exact h3 k h
  rw [h2]
  apply BitVec.eq_of_getLsbD_eq
  intro i hi
  have h4 : (BitVec.ofNat 64 k).toNat = k := by rw [BitVec.toNat_ofNat]; omega
  rw [BitVec.shiftLeft_eq', h4]
theorem ln_shl (x : Int64) {k : Nat} (h : k < 64) : lnat (gshl x (nI k)) = lnat x * 2 ^ k % 2 ^ 64 := by
  unfold lnat
  rw [gshl_bv x h, BitVec.toNat_shiftLeft, Nat.shiftLeft_eq]
theorem ln_ushr (x : Int64) {k : Nat} (h : k < 64) : lnat (gushr x (nI k)) = lnat x / 2 ^ k := by
  unfold gushr lnat
  have h1 : (x.toUInt64 >>> ((nI k).toInt64.toUInt64 &&& Int64.toUInt64 63)).toInt64.toBitVec = (x.toUInt64 >>> ((nI k).toInt64.toUInt64 &&& Int64.toUInt64 63)).toBitVec := rfl
  have h2 : ((nI k).toInt64.toUInt64 &&& Int64.toUInt64 63) = UInt64.ofNat k := by
    rw [zL_n2l (by omega)]
    have h3 : ∀ k : Nat, k < 64 → ((zL (k : Int)).toUInt64 &&& Int64.toUInt64 63) = UInt64.ofNat k := by decide +kernel
    exact h3 k h
  rw [h1, h2, UInt64.toBitVec_shiftRight]
  have h5 : ((UInt64.ofNat k).toBitVec % 64) = BitVec.ofNat 64 k := by
    have h3 : ∀ k : Nat, k < 64 → ((UInt64.ofNat k).toBitVec % 64) = BitVec.ofNat 64 k := by decide +kernel
    exact h3 k h
  rw [h5, BitVec.ushiftRight_eq', BitVec.toNat_ushiftRight, BitVec.toNat_ofNat, Nat.mod_eq_of_lt (show k < 2 ^ 64 by omega), Nat.shiftRight_eq_div_pow]
  rfl
theorem ln_low (x : Int64) {m : Int32} (k : Nat) (hk : k ≤ 30) (hm : m.toBitVec.toNat = 2 ^ k - 1) : x.toInt32 &&& m = nI (lnat x % 2 ^ k) := by
  rw [pk_and _ k hm]
  congr 1
  have h1 : x.toInt32.toBitVec = x.toBitVec.signExtend 32 := rfl
  have h2 : (x.toBitVec.signExtend 32).toNat = lnat x % 2 ^ 32 := by
    rw [BitVec.signExtend_eq_setWidth_of_le _ (by decide), BitVec.toNat_setWidth]
    rfl
  rw [h1, h2]
  have h3 : (2 : Nat) ^ 32 = 2 ^ k * 2 ^ (32 - k) := by rw [← Nat.pow_add]; congr 1; omega
  rw [h3, Nat.mod_mul_right_mod]
theorem ln_tb (x : Int64) (i : Nat) (h : 64 ≤ i) : (lnat x).testBit i = false := Nat.testBit_lt_two_pow (Nat.lt_of_lt_of_le (lnat_lt x) (Nat.pow_le_pow_right (by decide) h))
theorem ln_ext {x y : Int64} (h : ∀ i, i < 64 → (lnat x).testBit i = (lnat y).testBit i) : x = y := by
  apply lnat_inj
  apply Nat.eq_of_testBit_eq
  intro i
  by_cases hi : i < 64
  · exact h i hi
  · rw [ln_tb x i (by omega), ln_tb y i (by omega)]
/-- a row of bits read as a number, the first one highest -/
theorem nat_bits {F : Nat} {G : Nat → Nat → Int} {top : Int} (hp : mPast G) (h : ∀ q : Nat, q < 64 → (F.testBit q = true ↔ G 38 (top - (q : Int)).toNat = 1)) (w s : Nat) (hs : s + w ≤ 64) : ((F / 2 ^ s % 2 ^ w : Nat) : Int) = mBits G (top - (s : Int) - (w : Int) + 1) w := by
  induction w generalizing s with
  | zero => simp [mBits, Nat.mod_one]
  | succ w ih =>
    have h1 := ih (s + 1) (by omega)
    have h2 : F / 2 ^ s % 2 ^ (w + 1) = 2 * (F / 2 ^ (s + 1) % 2 ^ w) + F / 2 ^ s % 2 := by
      rw [Nat.pow_succ 2 s, ← Nat.div_div_eq_div_mul, Nat.pow_succ, Nat.mul_comm (2 ^ w) 2, Nat.mod_mul]
      omega
    have h3 : ((F / 2 ^ s % 2 : Nat) : Int) = G 38 (top - (s : Int)).toNat := by
      have h4 := h s (by omega)
      rw [Nat.testBit_eq_decide_div_mod_eq, decide_eq_true_iff] at h4
      have h5 := hp (top - (s : Int)).toNat
      have h6 : F / 2 ^ s % 2 = 0 ∨ F / 2 ^ s % 2 = 1 := by omega
      omega
    rw [h2]
    simp only [mBits]
    have e1 : top - ((s + 1 : Nat) : Int) - (w : Int) + 1 = top - (s : Int) - ((w + 1 : Nat) : Int) + 1 := by omega
    rw [e1] at h1
    have e2 : (top - (s : Int) - ((w + 1 : Nat) : Int) + 1 + (w : Int)).toNat = (top - (s : Int)).toNat := by congr 1; omega
    rw [e2, ← h1, ← h3]
    omega
