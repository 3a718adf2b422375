/-! ===== the machine's own counts of bits ===== -/
def gius (x y : Int32) : Int32 := (x.toUInt32 >>> (y.toUInt32 &&& Int32.toUInt32 31)).toInt32
def lbp1 (x : Int64) : Int64 := x - (gushr x (nI 1) &&& 6148914691236517205)
def lbp2 (x : Int64) : Int64 := (x &&& 3689348814741910323) + (gushr x (nI 2) &&& 3689348814741910323)
def lbp3 (x : Int64) : Int64 := (x + gushr x (nI 4)) &&& 1085102592571150095
def lbp4 (x : Int64) : Int64 := x + gushr x (nI 8)
def lbp5 (x : Int64) : Int64 := x + gushr x (nI 16)
def lbp6 (x : Int64) : Int64 := x + gushr x (nI 32)
theorem ln_lbp1 (x : Int64) : lnat (lbp1 x) = p1 8 (lnat x) := by
  have h1 : lnat (gushr x (nI 1) &&& 6148914691236517205) = (lnat x / 2) &&& pM 0x55 8 := by
    rw [ln_and, ln_ushr _ (by decide)]
    rfl
  unfold lbp1
  have h2 : (lnat x / 2) &&& pM 0x55 8 ≤ lnat x / 2 := Nat.and_le_left
  rw [ln_sub (by rw [h1]; omega), h1]
  rfl
theorem ln_lbp2 (x : Int64) : lnat (lbp2 x) = p2 8 (lnat x) ∧ p2 8 (lnat x) ≤ 2 * pM 51 8 := by
  have h1 : lnat (x &&& 3689348814741910323) = lnat x &&& pM 51 8 := by rw [ln_and]; rfl
  have h2 : lnat (gushr x (nI 2) &&& 3689348814741910323) = (lnat x / 4) &&& pM 51 8 := by
    rw [ln_and, ln_ushr _ (by decide)]
    rfl
  have h3 : lnat x &&& pM 51 8 ≤ pM 51 8 := Nat.and_le_right
  have h4 : (lnat x / 4) &&& pM 51 8 ≤ pM 51 8 := Nat.and_le_right
  have h5 : 2 * pM 51 8 < 2 ^ 64 := by decide
  unfold lbp2
  rw [ln_add (by rw [h1, h2]; omega), h1, h2]
  exact ⟨rfl, by unfold p2; omega⟩
theorem ln_lbp3 (x : Int64) (h : lnat x ≤ 2 * pM 51 8) : lnat (lbp3 x) = p3 8 (lnat x) := by
  have h5 : 4 * pM 51 8 < 2 ^ 64 := by decide
  have h2 : lnat (gushr x (nI 4)) = lnat x / 16 := by rw [ln_ushr _ (by decide)]
  unfold lbp3
  rw [ln_and, ln_add (by rw [h2]; omega), h2]
  rfl
theorem ln_lbp4 (x : Int64) (k : Nat) (hk : k < 32) (h : lnat x ≤ 2 ^ 62) : lnat (x + gushr x (nI k)) = lnat x + lnat x / 2 ^ k ∧ lnat x + lnat x / 2 ^ k ≤ 2 * lnat x := by
  have h2 : lnat (gushr x (nI k)) = lnat x / 2 ^ k := by rw [ln_ushr _ (by omega)]
  have h3 : lnat x / 2 ^ k ≤ lnat x := Nat.div_le_self _ _
  rw [ln_add (by rw [h2]; omega), h2]
  exact ⟨rfl, by omega⟩
theorem lbp_all (x : Int64) : (lbp6 (lbp5 (lbp4 (lbp3 (lbp2 (lbp1 x)))))).toInt32 &&& nI 127 = nI (nCnt (lnat x) 64) := by
  have h0 : lnat x < 256 ^ 8 := lnat_lt x
  have h1 := ln_lbp1 x
  have h2 := ln_lbp2 (lbp1 x)
  rw [h1] at h2
  have h3 := ln_lbp3 (lbp2 (lbp1 x)) (by rw [h2.1]; exact h2.2)
  rw [h2.1, p_all 8 _ h0] at h3
  have h4 := nByt_lt (lnat x) 8
  have h5 : 8 * pM 1 8 * 4 ≤ 2 ^ 62 := by decide
  obtain ⟨a1, a2⟩ := ln_lbp4 (lbp3 (lbp2 (lbp1 x))) 8 (by decide) (by omega)
  obtain ⟨b1, b2⟩ := ln_lbp4 (lbp4 (lbp3 (lbp2 (lbp1 x)))) 16 (by decide) (by unfold lbp4; omega)
  have c1 : lnat (lbp6 (lbp5 (lbp4 (lbp3 (lbp2 (lbp1 x)))))) = lnat (lbp5 (lbp4 (lbp3 (lbp2 (lbp1 x))))) + lnat (lbp5 (lbp4 (lbp3 (lbp2 (lbp1 x))))) / 2 ^ 32 := by
    have h6 : lnat (gushr (lbp5 (lbp4 (lbp3 (lbp2 (lbp1 x))))) (nI 32)) = lnat (lbp5 (lbp4 (lbp3 (lbp2 (lbp1 x))))) / 2 ^ 32 := by rw [ln_ushr _ (by decide)]
    have h7 : lnat (lbp5 (lbp4 (lbp3 (lbp2 (lbp1 x))))) / 2 ^ 32 ≤ lnat (lbp5 (lbp4 (lbp3 (lbp2 (lbp1 x))))) := Nat.div_le_self _ _
    have h8 : lnat (lbp5 (lbp4 (lbp3 (lbp2 (lbp1 x))))) ≤ 2 ^ 62 := by
      show lnat (lbp4 (lbp3 (lbp2 (lbp1 x))) + gushr (lbp4 (lbp3 (lbp2 (lbp1 x)))) (nI 16)) ≤ _
      rw [b1]
      have : lnat (lbp4 (lbp3 (lbp2 (lbp1 x)))) = lnat (lbp3 (lbp2 (lbp1 x))) + lnat (lbp3 (lbp2 (lbp1 x))) / 2 ^ 8 := a1
      omega
    show lnat (lbp5 (lbp4 (lbp3 (lbp2 (lbp1 x)))) + gushr (lbp5 (lbp4 (lbp3 (lbp2 (lbp1 x))))) (nI 32)) = _
    rw [ln_add (by rw [h6]; omega), h6]
  have d1 : lnat (lbp5 (lbp4 (lbp3 (lbp2 (lbp1 x))))) = lnat (lbp4 (lbp3 (lbp2 (lbp1 x)))) + lnat (lbp4 (lbp3 (lbp2 (lbp1 x)))) / 2 ^ 16 := b1
  have e1 : lnat (lbp4 (lbp3 (lbp2 (lbp1 x)))) = lnat (lbp3 (lbp2 (lbp1 x))) + lnat (lbp3 (lbp2 (lbp1 x))) / 2 ^ 8 := a1
  have f := nByt_sum (x := lnat x)
  rw [ln_low _ 7 (by decide) (by decide), c1, d1, e1, h3]
  exact congrArg nI f
def ibc1 (x : Int32) : Int32 := x - (gius x (nI 1) &&& 1431655765)
def ibc2 (x : Int32) : Int32 := (x &&& 858993459) + (gius x (nI 2) &&& 858993459)
def ibc3 (x : Int32) : Int32 := (x + gius x (nI 4)) &&& 252645135
def ibc4 (x : Int32) : Int32 := x + gius x (nI 8)
def ibc5 (x : Int32) : Int32 := x + gius x (nI 16)
theorem ibc_all : ∀ b : Nat, b < 256 → ibc5 (ibc4 (ibc3 (ibc2 (ibc1 (nI b))))) &&& nI 63 = nI (nCnt b 8) := by decide +kernel
/-- least and greatest -/
theorem zI_max {a b : Int} (h1 : -2147483648 ≤ a) (h2 : a < 2147483648) (h3 : -2147483648 ≤ b) (h4 : b < 2147483648) : (if zI a < zI b then zI b else zI a) = zI (if a < b then b else a) := by
  have h := cmp_lt (zI_toInt h1 h2) (zI_toInt h3 h4)
  by_cases q : a < b
  · rw [if_pos q, if_pos (h.mpr q)]
  · rw [if_neg q, if_neg (fun z => q (h.mp z))]
theorem zI_min {a b : Int} (h1 : -2147483648 ≤ a) (h2 : a < 2147483648) (h3 : -2147483648 ≤ b) (h4 : b < 2147483648) : (if zI b < zI a then zI b else zI a) = zI (if b < a then b else a) := by
  have h := cmp_lt (zI_toInt h3 h4) (zI_toInt h1 h2)
  by_cases q : b < a
  · rw [if_pos q, if_pos (h.mpr q)]
  · rw [if_neg q, if_neg (fun z => q (h.mp z))]
theorem zL_max {a b : Int} (h1 : -9223372036854775808 ≤ a) (h2 : a < 9223372036854775808) (h3 : -9223372036854775808 ≤ b) (h4 : b < 9223372036854775808) : (if zL b < zL a then zL a else zL b) = zL (if b < a then a else b) := by
  have h := zL_lt h3 h4 h1 h2
  by_cases q : b < a
  · rw [if_pos q, if_pos (h.mpr q)]
  · rw [if_neg q, if_neg (fun z => q (h.mp z))]
theorem zL_min {a b : Int} (h1 : -9223372036854775808 ≤ a) (h2 : a < 9223372036854775808) (h3 : -9223372036854775808 ≤ b) (h4 : b < 9223372036854775808) : (if zL b < zL a then zL b else zL a) = zL (if b < a then b else a) := by
  have h := zL_lt h3 h4 h1 h2
  by_cases q : b < a
  · rw [if_pos q, if_pos (h.mpr q)]
  · rw [if_neg q, if_neg (fun z => q (h.mp z))]
def gCnt (J : Nat → Nat → Int64) : Nat → Nat
  | 0 => 0
  | k + 1 => gCnt J k + nCnt (lnat (J 3 k)) 64
/-- the spare bits are the unused ones -/
theorem gCnt_spare {J : Nat → Nat → Int64} {G : Nat → Nat → Int} (hU : UsR J G) : (192 : Int) - (gCnt J 4 : Int) = mSpare G 192 := by
  have h1 : ∀ r : Nat, r < 4 → ∀ k : Nat, k ≤ 48 → mSpare G (48 * r + k) = mSpare G (48 * r) + (k : Int) - (nCnt (lnat (J 3 r)) k : Int) := by
    intro r hr k hk
    induction k with
    | zero => simp [nCnt]
    | succ k ih =>
      have e1 : mSpare G (48 * r + (k + 1)) = mSpare G (48 * r + k) + (if mUser G (((48 * r + k) / 48 : Nat) : Int) (((48 * r + k) % 48 : Nat) : Int) (G 28 0).toNat = -1 then 1 else 0) := rfl
      have e2 : nCnt (lnat (J 3 r)) (k + 1) = nCnt (lnat (J 3 r)) k + (if (lnat (J 3 r)).testBit k then 1 else 0) := rfl
      have e3 : (48 * r + k) / 48 = r := by omega
      have e4 : (48 * r + k) % 48 = k := by omega
      have e5 := hU r hr k
      rw [e1, e2, ih (by omega), e3, e4]
      by_cases q : mUser G (r : Int) (k : Int) (G 28 0).toNat = -1
      · rw [if_pos q, if_neg (fun z => (e5.mp z).2 q)]
        omega
      · rw [if_neg q, if_pos (e5.mpr ⟨by omega, q⟩)]
        omega
  have h2 : ∀ r : Nat, r < 4 → ∀ k : Nat, nCnt (lnat (J 3 r)) (48 + k) = nCnt (lnat (J 3 r)) 48 := by
    intro r hr k
    induction k with
    | zero => rfl
    | succ k ih =>
      have e2 : nCnt (lnat (J 3 r)) (48 + (k + 1)) = nCnt (lnat (J 3 r)) (48 + k) + (if (lnat (J 3 r)).testBit (48 + k) then 1 else 0) := rfl
      rw [e2, ih, if_neg (fun z => absurd ((hU r hr (48 + k)).mp z).1 (by omega)), Nat.add_zero]
  have a0 := h1 0 (by omega) 48 (by omega)
  have a1 := h1 1 (by omega) 48 (by omega)
  have a2 := h1 2 (by omega) 48 (by omega)
  have a3 := h1 3 (by omega) 48 (by omega)
  have b0 := h2 0 (by omega) 16
  have b1 := h2 1 (by omega) 16
  have b2 := h2 2 (by omega) 16
  have b3 := h2 3 (by omega) 16
  have c0 : mSpare G 0 = 0 := rfl
  simp only [gCnt]
  simp only [Nat.mul_zero, Nat.zero_add, Nat.reduceMul, Nat.reduceAdd] at a0 a1 a2 a3 b0 b1 b2 b3
  omega
